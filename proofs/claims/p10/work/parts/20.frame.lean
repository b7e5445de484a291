/-! a part of the world passes through a call; new objects -/
theorem gw_app {w y : va_W} {k : Nat} {x : Nat × va_E} (h : w[k]? = some x) : (w ++ y)[k]? = some x := by
  have hl := (List.getElem?_eq_some_iff.mp h).1
  rw [List.getElem?_append_left hl]; exact h
theorem gw_apr {w y : va_W} {k : Nat} : (w ++ y)[w.length + k]? = y[k]? := by
  rw [List.getElem?_append_right (Nat.le_add_right _ _), Nat.add_sub_cancel_left]
theorem gw_Pl {D : va_G} {w y : va_W} {H : Heap} (h : va_P D vwCl (w ++ y) H) : va_P D vwCl w H := fun k q hk => h k q (gw_app hk)
theorem gw_Pr {D : va_G} {w y : va_W} {H : Heap} (h : va_P D vwCl (w ++ y) H) : va_P D vwCl y H := fun k q hk => h (w.length + k) q (by rw [gw_apr]; exact hk)
theorem gw_Dl {A : Nat → Prop} {w y : va_W} (h : va_D A (w ++ y)) : va_D A w := ⟨fun i j p q hi hj hpq => h.1 i j p q (gw_app hi) (gw_app hj) hpq, fun k q hk => h.2 k q (gw_app hk)⟩
theorem gw_Dr {A : Nat → Prop} {w y : va_W} (h : va_D A (w ++ y)) : va_D A y := ⟨fun i j p q hi hj hpq => by
  have := h.1 (w.length + i) (w.length + j) p q (by rw [gw_apr]; exact hi) (by rw [gw_apr]; exact hj) hpq
  omega, fun k q hk => h.2 (w.length + k) q (by rw [gw_apr]; exact hk)⟩
theorem gw_Dx {A : Nat → Prop} {w y : va_W} (h : va_D A (w ++ y)) {i j : Nat} {p q : Nat × va_E} (hi : w[i]? = some p) (hj : y[j]? = some q) : p.1 ≠ q.1 := fun hpq => by
  have := h.1 i (w.length + j) p q (gw_app hi) (by rw [gw_apr]; exact hj) hpq
  have hl := (List.getElem?_eq_some_iff.mp hi).1
  omega
theorem gw_Dnd {A : Nat → Prop} {w : va_W} : va_D A w ↔ (w.map (fun x => x.1)).Nodup ∧ ∀ q ∈ w, A q.1 := by
  constructor
  · intro h
    refine ⟨?_, fun q hq => by obtain ⟨k, hk⟩ := List.getElem?_of_mem hq; exact h.2 k q hk⟩
    rw [List.Nodup, List.pairwise_iff_getElem]
    intro i j hi hj hij he
    simp only [List.getElem_map] at he
    have hi' : i < w.length := by simpa using hi
    have hj' : j < w.length := by simpa using hj
    have := h.1 i j w[i] w[j] (List.getElem?_eq_getElem hi') (List.getElem?_eq_getElem hj') he
    omega
  · rintro ⟨h1, h2⟩
    refine ⟨fun i j p q hi hj hpq => ?_, fun k q hk => h2 q (List.mem_of_getElem? hk)⟩
    obtain ⟨li, ei⟩ := List.getElem?_eq_some_iff.mp hi
    obtain ⟨lj, ej⟩ := List.getElem?_eq_some_iff.mp hj
    rw [List.Nodup, List.pairwise_iff_getElem] at h1
    rcases Nat.lt_trichotomy i j with h | h | h
    · exact absurd (show (w.map (fun x => x.1))[i]'(by simpa using li) = (w.map (fun x => x.1))[j]'(by simpa using lj) by rw [List.getElem_map, List.getElem_map, ei, ej]; exact hpq) (h1 i j (by simpa using li) (by simpa using lj) h)
    · exact h
    · exact absurd (show (w.map (fun x => x.1))[j]'(by simpa using lj) = (w.map (fun x => x.1))[i]'(by simpa using li) by rw [List.getElem_map, List.getElem_map, ei, ej]; exact hpq.symm) (h1 j i (by simpa using lj) (by simpa using li) h)
theorem gw_perm {D : va_G} {A : Nat → Prop} {H0 H : Heap} {w w' : va_W} {locs : List Loc} (hp : w.Perm w') (h : gw_I D A H0 w H locs) : gw_I D A H0 w' H locs := by
  refine ⟨fun k q hk => ?_, ?_, h.2.2⟩
  · obtain ⟨i, hi⟩ := List.getElem?_of_mem (hp.mem_iff.mpr (List.mem_of_getElem? hk))
    exact h.1 i q hi
  · have h1 := gw_Dnd.mp h.2.1
    exact gw_Dnd.mpr ⟨(hp.map (fun x => x.1)).nodup_iff.mp h1.1, fun q hq => h1.2 q (hp.mem_iff.mpr hq)⟩
theorem gw_arrV {cA : ClassId} {n : Nat} {f g : Nat → Value} (h : ∀ i, i < n → f i = g i) : arrV cA n f = arrV cA n g := by
  unfold arrV
  have e : (fun j : Fin n => f j.val) = fun j : Fin n => g j.val := funext fun j => h j.val j.isLt
  rw [e]
theorem gw_cellq {cA : ClassId} {n : Nat} {f g : Nat → Option Nat} (h : ∀ i, i < n → f i = g i) : vp_cell cA (n, .inr (.inr (.inr (.inr f)))) = vp_cell cA (n, .inr (.inr (.inr (.inr g)))) := by
  rw [vp_cell_q, vp_cell_q]
  exact gw_arrV (fun i hi => by rw [h i hi])
theorem gw_setq {D : va_G} {A : Nat → Prop} {H0 H : Heap} {w : va_W} {locs : List Loc} {k a n : Nat} {cA : ClassId} {f g : Nat → Option Nat} (hI : gw_I D A H0 w H locs) (hk : w[k]? = some (a, .inl (cA, n, .inr (.inr (.inr (.inr f)))))) (h : ∀ i, i < n → f i = g i) : gw_I D A H0 (w.set k (a, .inl (cA, n, .inr (.inr (.inr (.inr g)))))) H locs := by
  refine ⟨hI.1.set hI.2.1 hk ?_ (fun _ _ => rfl), hI.2.1.set hk, hI.2.2⟩
  show H[a]? = some (vp_cell cA (n, .inr (.inr (.inr (.inr g)))))
  rw [← gw_cellq h]
  exact hI.1 k _ hk
section GWF
variable {p : Program} {l : Launch} {e : Env} {R : Room} {s : State} {m : MethodId} {args : Array Value} {below : List Frame} {meth : Method} {c : Code} {H : Heap} {locs : List Loc} {cells slots : Nat} {Q : State → Prop}
variable {cc : ByteArray} {nL : Nat} {Ts : List Cond} {own : String} {ret : Option FieldType} {D : va_G} {tys : gw_TY} {t1 t2 : Nat} {A : Nat → Prop} {w wc : va_W} {W' : va_W → Prop} {pc : Nat} {ls : Array Slot} {rest : List Value} {mc ms : Nat}
theorem gw_subF (hI : gw_I D A s.heap (w ++ wc) H locs) (hA : ∀ q : Nat, s.heap.size ≤ q → A q) : ∀ q, va_A wc H.size q → A q := by
  intro q h
  rcases h with ⟨k, e, h⟩ | h
  · exact (gw_Dr hI.2.1).2 k (q, e) h
  · exact hA q (Nat.le_trans hI.2.2.1 h)
theorem gw_preF (hK : va_K D vwCl tys s) (hst : gw_st t1 t2 A s s.heap) (hA : ∀ q : Nat, s.heap.size ≤ q → A q) (hI : gw_I D A s.heap (w ++ wc) H locs) (U : State) (hU : U.heap = H) (hW : s.WarmedH U.vm) : gw_Pre D tys t1 t2 wc H.size U := by
  have h1 : gw_st t1 t2 A s H := hst.kept hI.2.2.2.1
  have h2 := (h1.narrow (gw_subF hI hA)).moved hW
  subst hU
  exact ⟨rfl, gw_Pr hI.1, va_K.moved hW.alike hK, (gw_Dr hI.2.1).weaken (fun _ _ _ _ => trivial), h2⟩
theorem gw_goF {a : Array Value} {ov : Option Value} {st0 : List Value} (hr : va_Run p l e R s m args below meth c H locs cells slots mc ms (F0 m pc ls st0) rest (gw_Q ov (gw_Pst D (va_A wc H.size) W') (va_A wc H.size) a) (va_A wc H.size)) (hI : gw_I D A s.heap (w ++ wc) H locs) (hA : ∀ q : Nat, s.heap.size ≤ q → A q)
    (kk : ∀ (w' : va_W) (H1 : Heap) (locs1 : List Loc), W' w' → gw_I D A s.heap (w ++ w') H1 locs1 → W p l e R s m args below meth c H1 locs1 (cells + mc) (slots + ms) Q (F0 m (pc + 3) ls (ov.toList ++ rest))) : W p l e R s m args below meth c H locs cells slots Q (F0 m pc ls st0) := by
  intro T hT X
  obtain ⟨v, st₀, t, T', L, h0, X', hL, e1, e2, ⟨hv, ⟨w', hw', hP', hD'⟩, hz, hk⟩, st⟩ := hr T hT X
  cases hv
  rw [h0] at hz hk
  have hAA := gw_subF hI hA
  have hS := hI.2.2
  have hap : ∀ (k : Nat) (q : Nat × va_E), w[k]? = some q → q.1 < H.size ∧ ¬ va_A wc H.size q.1 := by
    intro k q hq
    have hlt := (gw_Pl hI.1 k q hq).lt
    refine ⟨hlt, fun h => ?_⟩
    rcases h with ⟨j, e, h⟩ | h
    · exact gw_Dx hI.2.1 hq h rfl
    · omega
  obtain ⟨t2, a1, b1⟩ := kk w' T'.heap (locs ++ L) hw' ⟨va_P.app (fun k q hq => (gw_Pl hI.1 k q hq).kept (by rw [e1]; exact hk q.1 (hap k q hq).1 (hap k q hq).2)) (by rw [e1]; exact hP'),
    va_D.app (gw_Dl hI.2.1) (hD'.weaken (fun _ _ _ h => hAA _ h)) (fun i j x y hx hy hxy => (hap i x hx).2 (by rw [hxy]; exact hD'.2 j y hy)),
    ⟨Nat.le_trans hS.1 (by rw [e1]; exact hz), fun q h1 h2 => by rw [e1, hk q (Nat.lt_of_lt_of_le h1 hS.1) (fun z => h2 (hAA q z))]; exact hS.2.1 q h1 h2, fun q hq => by
      rcases List.mem_append.mp hq with h | h
      · exact hS.2.2 q h
      · exact hAA _ (hL q h)⟩⟩ T' rfl X'
  exact ⟨t2, st t2 a1, b1⟩
theorem gw_callI {y : MethodName} {bytes : ByteArray} {maxL index n b : Nat} {wsy wsy' : List Cond} {rm : Room} {As : List Value} (B : gw_B p s m args meth c cc nL Ts own ret D tys t1 t2 A) (hI : gw_I D A s.heap (w ++ wc) H locs)
    (hM : gw_M l y wsy rm mc ms D tys t1 t2 (.ref b :: As) wc W' none) (hG : GoodIn Ts wsy) (hw : wsy = Cond.code y bytes maxL none :: wsy') (hrc : rm.cells = mc) (hrs : rm.slots = ms) (hini : Cond.initialized y.cls ∈ Ts) (hl : Cond.methodLink own index y ∈ Ts) (hin : Cond.instanceMethod y ∈ Ts) (hy1 : y.name = "<init>")
    (hd : y.cls ≠ "java/lang/invoke/MethodHandle" ∧ y.cls ≠ "java/lang/invoke/VarHandle" ∧ (parseMethodDescriptor y.desc).map (fun d => d.parameters.length) = some n) (hR : rm.frames + 1 ≤ R.frames ∧ 8 + (maxL + 11) + rm.locals ≤ R.locals)
    (hn : As.length = n) (hsz : ls.size = nL) (hr8 : (rest.map fun v => v.category).sum ≤ 8) (hdg : decode cc pc = .ok (.invokespecial index, 3)) (hf : cells + mc ≤ R.cells ∧ slots + ms ≤ R.slots)
    {st0 : List Value} (hst0 : st0 = As.reverse ++ .ref b :: rest)
    (kk : ∀ (w' : va_W) (H1 : Heap) (locs1 : List Loc), W' w' → gw_I D A s.heap (w ++ w') H1 locs1 → W p l e R s m args below meth c H1 locs1 (cells + mc) (slots + ms) Q (F0 m (pc + 3) ls rest)) : W p l e R s m args below meth c H locs cells slots Q (F0 m pc ls st0) := by
  obtain ⟨C0, -, hK, hst, hA⟩ := B
  have ht := C0.2.2.2.2
  exact gw_goF (va_runI (As := As) (rest := rest) C0 (hM H.size) (cwI n ht hG hw hrc hrs (ht _ hini) (ht _ hl) (ht _ hin) hy1 hd hR) ⟨gw_blind, fun U hU hW => ⟨rfl, gw_preF hK hst hA hI U hU hW⟩⟩ rfl hn hsz hst0 (lv_room hr8) hdg hf) hI hA kk
theorem gw_callIN {y : MethodName} {bytes : ByteArray} {maxL index n b : Nat} {wsy wsy' : List Cond} {rm : Room} {As : List Value} (B : gw_B p s m args meth c cc nL Ts own ret D tys t1 t2 A) (hI : gw_I D A s.heap (w ++ wc) H locs)
    (hM : gw_M l y wsy rm mc ms D tys t1 t2 (.ref b :: As) wc W' none) (hG : GoodIn Ts wsy) (hw : wsy = Cond.code y bytes maxL none :: wsy') (hrc : rm.cells = mc) (hrs : rm.slots = ms) (hini : Cond.initialized y.cls ∈ Ts) (hl : (own, index, y) ∈ gw_nm) (hin : Cond.instanceMethod y ∈ Ts) (hy1 : y.name = "<init>")
    (hd : y.cls ≠ "java/lang/invoke/MethodHandle" ∧ y.cls ≠ "java/lang/invoke/VarHandle" ∧ (parseMethodDescriptor y.desc).map (fun d => d.parameters.length) = some n) (hR : rm.frames + 1 ≤ R.frames ∧ 8 + (maxL + 11) + rm.locals ≤ R.locals)
    (hn : As.length = n) (hsz : ls.size = nL) (hr8 : (rest.map fun v => v.category).sum ≤ 8) (hdg : decode cc pc = .ok (.invokespecial index, 3)) (hf : cells + mc ≤ R.cells ∧ slots + ms ≤ R.slots)
    {st0 : List Value} (hst0 : st0 = As.reverse ++ .ref b :: rest)
    (kk : ∀ (w' : va_W) (H1 : Heap) (locs1 : List Loc), W' w' → gw_I D A s.heap (w ++ w') H1 locs1 → W p l e R s m args below meth c H1 locs1 (cells + mc) (slots + ms) Q (F0 m (pc + 3) ls rest)) : W p l e R s m args below meth c H locs cells slots Q (F0 m pc ls st0) := by
  obtain ⟨C0, -, hK, hst, hA⟩ := B
  have ht := C0.2.2.2.2
  exact gw_goF (va_runIN (As := As) (rest := rest) C0 (hM H.size) ⟨va_cnB (host := "GownLet") n ht hG hw hrc hrs (hst.2.2.2.2.1 _ hl) (ht _ hini) hd hR, hy1, ht _ hin⟩ ⟨gw_blind, fun U hU hW => ⟨rfl, gw_preF hK hst hA hI U hU hW⟩⟩ rfl hn hsz hst0 (lv_room hr8) hdg hf) hI hA kk
/-- a call from the law: a part of its world -/
theorem gw_callVF {v : Value} {y : MethodName} {bytes : ByteArray} {maxL index n b q0 ci : Nat} {retY : Option FieldType} {wsy wsy' : List Cond} {rm : Room} {C : String} {As fs : List Value} {qC : vw_C} (B : gw_B p s m args meth c cc nL Ts own ret D tys t1 t2 A) (hI : gw_I D A s.heap (w ++ wc) H locs)
    (hM : gw_M l y wsy rm mc ms D tys t1 t2 (.ref b :: As) wc W' (some v)) (hT : GoodIn Ts (wsV own index C y wsy)) (hw : wsy = Cond.code y bytes maxL retY :: wsy') (hrc : rm.cells = mc) (hrs : rm.slots = ms)
    (hd : y.cls = C ∧ y.cls ≠ "java/lang/invoke/MethodHandle" ∧ y.cls ≠ "java/lang/invoke/VarHandle" ∧ (parseMethodDescriptor y.desc).map (fun d => d.parameters.length) = some n) (hR : rm.frames + 1 ≤ R.frames ∧ 8 + (maxL + 11) + rm.locals ≤ R.locals)
    (he : wc[q0]? = some (b, .inr (ci, fs))) (hc : vwCl[ci]? = some qC) (hC : qC.1 = C) (hn : As.length = n) (hsz : ls.size = nL) (hr8 : (rest.map fun v => v.category).sum ≤ 8) (hdg : decode cc pc = .ok (.invokevirtual index, 3)) (hf : cells + mc ≤ R.cells ∧ slots + ms ≤ R.slots)
    {st0 : List Value} (hst0 : st0 = As.reverse ++ .ref b :: rest)
    (kk : ∀ (w' : va_W) (H1 : Heap) (locs1 : List Loc), W' w' → gw_I D A s.heap (w ++ w') H1 locs1 → W p l e R s m args below meth c H1 locs1 (cells + mc) (slots + ms) Q (F0 m (pc + 3) ls (v :: rest))) : W p l e R s m args below meth c H locs cells slots Q (F0 m pc ls st0) := by
  obtain ⟨C0, -, hK, hst, hA⟩ := B
  refine gw_goF (va_runV (As := As) (rest := rest) C0 (hM H.size) (cwV n C0.2.2.2.2 hT hw hrc hrs hd hR) ⟨gw_blind, ?_, fun U hU hW => ⟨rfl, gw_preF hK hst hA hI U hU hW⟩⟩ rfl hn hsz hst0 (lv_room hr8) hdg hf) hI hA kk
  have h := va_recv hK (gw_Pr hI.1) hc he
  rw [hC] at h
  exact h
theorem gw_ainit {idx a : Nat} (B : gw_B p s m args meth c cc nL Ts own ret D tys t1 t2 A) (hlink : Cond.methodLink own idx Lib.objectInit ∈ Ts) (hinst : Cond.instanceMethod Lib.objectInit ∈ Ts) (hcode : Cond.code Lib.objectInit ⟨#[0xb1]⟩ 1 none ∈ Ts) (hsz : ls.size = nL) (hdg : decode cc pc = .ok (.invokespecial idx, 3)) (hframes : 1 ≤ R.frames) (hlocals : (rest.map fun v => v.category).sum + 12 ≤ R.locals)
    (kk : W p l e R s m args below meth c H locs cells slots Q (F0 m (pc + 3) ls rest)) : W p l e R s m args below meth c H locs cells slots Q (F0 m pc ls (.ref a :: rest)) := by
  have ht := B.1.2.2.2.2
  exact W.objInit B.1.1 B.1.2.1 B.1.2.2.2.1 (ht _ hlink) (ht _ hinst) (ht _ hcode) rfl (hsz.trans B.1.2.2.1.symm) rfl hdg hframes (by show 2 * 0 + _ + 12 ≤ _; omega) kk
theorem gw_putF {index q0 a ci N k : Nat} {fs : List Value} {C n d : String} {T : u_T} {v : Value} {ty : FieldType} {w' : va_W} (B : gw_B p s m args meth c cc nL Ts own ret D tys t1 t2 A) (hin2 : meth.name = "<init>") (hI : gw_I D A s.heap w H locs) (he : w[q0]? = some (a, .inr (ci, fs))) (hc : vwCl[ci]? = some (C, T, N)) (hin : ∀ w ∈ u_ws C T N, w ∈ Ts) (ty0 : Nat → FieldType) (hty : ∀ k, k < N → parseFieldDescriptor (T k).2.2.1 = some (ty0 k)) (hnm : ∀ a, a < N → ∀ b, b < N → a ≠ b → (T a).2.1 ≠ (T b).2.1) (hk : k < N) (hlink : Cond.fieldLink own index own n d ∈ Ts) (hT : T k = (own, n, d, true)) (hd : ty0 k = ty) (hn : narrow ty v = v) (hfit : fits ty v = true) (hl : k < fs.length) (hset : w.set q0 (a, .inr (ci, fs.set k v)) = w') (hdg : decode cc pc = .ok (.putfield index, 3))
    (kk : ∀ (H1 : Heap) (locs1 : List Loc), gw_I D A s.heap w' H1 locs1 → W p l e R s m args below meth c H1 locs1 cells slots Q (F0 m (pc + 3) ls rest)) : W p l e R s m args below meth c H locs cells slots Q (F0 m pc ls (v :: .ref a :: rest)) := by
  subst hset
  subst hd
  exact va_putF (D := D) (ty := ty0 k) (ref := own) B.1.1 B.1.2.1 B.1.2.2.2.2 hin ty0 hty hnm B.1.2.2.2.1 B.2.2.1 hI.1 hI.2.1 hI.2.2 q0 he hc k hk (by rw [hT]; exact B.1.2.2.2.2 _ hlink) (by rw [hT]; exact fun _ h => h) (by rw [hT]) hin2 (by rw [hT]) (hty k hk) hn hfit hl hdg (fun H1 locs1 hP hD hS => kk H1 locs1 ⟨hP, hD, hS⟩)
theorem gw_tyu {t0 : Nat} {cA cB : ClassId} {ty : FieldType} (hK : va_K D vwCl tys s) (hK' : va_K D vwCl (tys ++ [(cB, ty)]) s) (ht : tys[t0]? = some (cA, ty)) : cB = cA := by
  have h1 := (hK.2 t0 _ ht).2
  have h2 := (hK'.2 tys.length (cB, ty) (by simp)).2
  cases ty with
  | object C =>
    obtain ⟨_, _, _, _, _, h3⟩ := h1
    obtain ⟨_, _, _, _, _, h4⟩ := h2
    exact Option.some.inj (h4.symm.trans h3)
  | _ => exact Option.some.inj (Eq.trans (Eq.symm h2) h1)
theorem gw_newa {t0 N : Nat} {cA : ClassId} {n : Int32} {atype : ArrayType} {ty : FieldType} (B : gw_B p s m args meth c cc nL Ts own ret D tys t1 t2 A) (hI : gw_I D A s.heap w H locs) (hty : newarray.typeOf atype = ty) (hz : defaultValue ty = .int 0) (ht : tys[t0]? = some (cA, ty)) (harr : Cond.arrayClass ty ∈ Ts) (hn : ¬ n < 0) (hN : n.toNatClampNeg = N) (hbytes : N * componentBytes ty ≤ 536870912) (hcells : cells + 1 ≤ R.cells) (hslots : slots + N ≤ R.slots) (hdg : decode cc pc = .ok (.newarray atype, 2))
    (kk : ∀ (q : Nat) (H1 : Heap), gw_I D A s.heap (w ++ [(q, .inl (cA, N, .inl (fun _ => 0)))]) H1 locs → W p l e R s m args below meth c H1 locs (cells + 1) (slots + N) Q (F0 m (pc + 2) ls (.ref q :: rest))) : W p l e R s m args below meth c H locs cells slots Q (F0 m pc ls (.int n :: rest)) := by
  subst hty
  refine va_newa (a0 := (N, .inl (fun _ => 0))) B.1.1 B.1.2.1 (B.1.2.2.2.2 _ harr) rfl B.2.2.1 hI.1 hI.2.1 hI.2.2 B.2.2.2.2 (fun cA => by rw [hz]; rfl) hn hN hbytes hcells hslots hdg (fun q cB H1 hK hP hD hS => ?_)
  obtain rfl := gw_tyu B.2.2.1 hK ht
  exact kk q H1 ⟨hP, hD, hS⟩
theorem gw_newq {t0 N index : Nat} {cA : ClassId} {n : Int32} {C : String} (b : Nat → Nat) (B : gw_B p s m args meth c cc nL Ts own ret D tys t1 t2 A) (hI : gw_I D A s.heap w H locs) (ht : tys[t0]? = some (cA, .object C)) (hao : C ∈ (["GownLet$Piece", "GownLet$Booking", "GownLet$Sheet"] : List String)) (hcl : Cond.classLink own index C ∈ Ts) (hn : ¬ n < 0) (hN : n.toNatClampNeg = N) (hbytes : N * 4 ≤ 536870912) (hcells : cells + 1 ≤ R.cells) (hslots : slots + N ≤ R.slots) (hdg : decode cc pc = .ok (.anewarray index, 3))
    (kk : ∀ (q : Nat) (H1 : Heap), gw_I D A s.heap (w ++ [(q, .inl (cA, N, .inr (.inr (.inr (.inr (fun _ => gw_rf b (-1)))))))]) H1 locs → W p l e R s m args below meth c H1 locs (cells + 1) (slots + N) Q (F0 m (pc + 3) ls (.ref q :: rest))) : W p l e R s m args below meth c H locs cells slots Q (F0 m pc ls (.int n :: rest)) := by
  refine va_newq B.1.1 B.1.2.1 B.1.2.2.2.1 (B.1.2.2.2.2 _ hcl) (B.2.2.2.1.2.2.2.2.2 C hao) B.2.2.1 hI.1 hI.2.1 hI.2.2 B.2.2.2.2 hn hN hbytes hcells hslots hdg (fun q cB H1 hK hP hD hS => ?_)
  obtain rfl := gw_tyu B.2.2.1 hK ht
  exact kk q H1 ⟨hP, hD, hS⟩
theorem gw_new {index ci N : Nat} {C : String} {T : u_T} {fs : List Value} (B : gw_B p s m args meth c cc nL Ts own ret D tys t1 t2 A) (hI : gw_I D A s.heap w H locs) (hc : vwCl[ci]? = some (C, T, N)) (hin : ∀ w ∈ u_ws C T N, w ∈ Ts) (ty0 : Nat → FieldType) (hty : ∀ k, k < N → parseFieldDescriptor (T k).2.2.1 = some (ty0 k)) (hcl : Cond.classLink own index C ∈ Ts) (hinst : Cond.instantiable C N ∈ Ts) (hini : Cond.initialized C ∈ Ts) (hfs : ∀ j, j < N → defaultValue (ty0 j) = vp_V fs j) (hcells : cells + 1 ≤ R.cells) (hslots : slots + N ≤ R.slots) (hdg : decode cc pc = .ok (.new index, 3))
    (kk : ∀ (q : Nat) (H1 : Heap), gw_I D A s.heap (w ++ [(q, .inr (ci, fs))]) H1 locs → W p l e R s m args below meth c H1 locs (cells + 1) (slots + N) Q (F0 m (pc + 3) ls (.ref q :: rest))) : W p l e R s m args below meth c H locs cells slots Q (F0 m pc ls rest) := by
  have ht := B.1.2.2.2.2
  exact va_new B.1.1 B.1.2.1 ht hin ty0 hty B.1.2.2.2.1 (ht _ hcl) (ht _ hinst) (ht _ hini) B.2.2.1 hI.1 hI.2.1 hI.2.2 B.2.2.2.2 hc hfs hcells hslots hdg (fun q H1 hP hD hS => kk q H1 ⟨hP, hD, hS⟩)
theorem gw_aast {q0 t0 qk ci a n v : Nat} {cA : ClassId} {r : vw_C} {vs : List Value} {f : Nat → Option Nat} {i : Int32} {w' : va_W} (B : gw_B p s m args meth c cc nL Ts own ret D tys t1 t2 A) (hI : gw_I D A s.heap w H locs) (ha : w[q0]? = some (a, .inl (cA, n, .inr (.inr (.inr (.inr f)))))) (ht : tys[t0]? = some (cA, .object r.1)) (hv : w[qk]? = some (v, .inr (ci, vs))) (hc : vwCl[ci]? = some r) (hin : gw_in i n) (hset : w.set q0 (a, .inl (cA, n, .inr (.inr (.inr (.inr (va_up f i.toNatClampNeg (some v))))))) = w') (hdg : decode cc pc = .ok (.aastore, 1))
    (kk : ∀ (H1 : Heap) (locs1 : List Loc), gw_I D A s.heap w' H1 locs1 → W p l e R s m args below meth c H1 locs1 cells slots Q (F0 m (pc + 1) ls rest)) : W p l e R s m args below meth c H locs cells slots Q (F0 m pc ls (.ref v :: .int i :: .ref a :: rest)) := by
  subst hset
  exact va_astq B.1.1 B.1.2.1 B.2.2.1 hI.1 hI.2.1 hI.2.2 q0 t0 qk ci ha ht hv hc hin hdg (fun H1 locs1 hP hD hS => kk H1 locs1 ⟨hP, hD, hS⟩)
end GWF
