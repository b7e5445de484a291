section
/-! a part of the world passes through a call; new objects -/
theorem gw_app {w y : va_W} {k : Nat} {x : Nat × va_E} (h : w[k]? = some x) : (w ++ y)[k]? = some x := by
  have hl := (List.getElem?_eq_some_iff.mp h).1
  rw [List.getElem?_append_left hl]; exact h
theorem gw_apr {w y : va_W} {k : Nat} : (w ++ y)[w.length + k]? = y[k]? := by
  rw [List.getElem?_append_right (Nat.le_add_right _ _), Nat.add_sub_cancel_left]
theorem gw_Pl {D : va_G} {w y : va_W} {H : Heap} (h : va_P D vwCl (w ++ y) H) : va_P D vwCl w H := fun k q hk => h k q (gw_app hk)
theorem gw_Pr {D : va_G} {w y : va_W} {H : Heap} (h : va_P D vwCl (w ++ y) H) : va_P D vwCl y H := fun k q hk => h (w.length + k) q (by rw [gw_apr]; exact hk)
theorem gw_Dl {A : Nat → Prop} {w y : va_W} (h : va_D A (w ++ y)) : va_D A w := ⟨fun i j p q hi hj hpq => h.1 i j p q (gw_app hi) (gw_app hj) hpq, fun k q hk => h.2 k q (gw_app hk)⟩
theorem gw_Dr {A : Nat → Prop} {w y : va_W} (h : va_D A (w ++ y)) : va_D A y := ⟨fun i j p q hi hj hpq => by
  have := h.1 (w.length + i) (w.length + j) p q (by rw [gw_apr]; exact hi) (by rw [gw_apr]; exact hj) hpq
  omega, fun k q hk => h.2 (w.length + k) q (by rw [gw_apr]; exact hk)⟩
theorem gw_Dx {A : Nat → Prop} {w y : va_W} (h : va_D A (w ++ y)) {i j : Nat} {p q : Nat × va_E} (hi : w[i]? = some p) (hj : y[j]? = some q) : p.1 ≠ q.1 := fun hpq => by
  have := h.1 i (w.length + j) p q (gw_app hi) (by rw [gw_apr]; exact hj) hpq
  have hl := (List.getElem?_eq_some_iff.mp hi).1
  omega
theorem gw_Dnd {A : Nat → Prop} {w : va_W} : va_D A w ↔ (w.map (fun x => x.1)).Nodup ∧ ∀ q ∈ w, A q.1 := by
  constructor
  · intro h
    refine ⟨?_, fun q hq => by obtain ⟨k, hk⟩ := List.getElem?_of_mem hq; exact h.2 k q hk⟩
    rw [List.Nodup, List.pairwise_iff_getElem]
    intro i j hi hj hij he
    simp only [List.getElem_map] at he
    have hi' : i < w.length := by simpa using hi
    have hj' : j < w.length := by simpa using hj
    have := h.1 i j w[i] w[j] (List.getElem?_eq_getElem hi') (List.getElem?_eq_getElem hj') he
    omega
  · rintro ⟨h1, h2⟩
    refine ⟨fun i j p q hi hj hpq => ?_, fun k q hk => h2 q (List.mem_of_getElem? hk)⟩
    obtain ⟨li, ei⟩ := List.getElem?_eq_some_iff.mp hi
    obtain ⟨lj, ej⟩ := List.getElem?_eq_some_iff.mp hj
    rw [List.Nodup, List.pairwise_iff_getElem] at h1
    rcases Nat.lt_trichotomy i j with h | h | h
    · exact absurd (show (w.map (fun x => x.1))[i]'(by simpa using li) = (w.map (fun x => x.1))[j]'(by simpa using lj) by rw [List.getElem_map, List.getElem_map, ei, ej]; exact hpq) (h1 i j (by simpa using li) (by simpa using lj) h)
    · exact h
    · exact absurd (show (w.map (fun x => x.1))[j]'(by simpa using lj) = (w.map (fun x => x.1))[i]'(by simpa using li) by rw [List.getElem_map, List.getElem_map, ei, ej]; exact hpq.symm) (h1 j i (by simpa using lj) (by simpa using li) h)
theorem gw_perm {D : va_G} {A : Nat → Prop} {H0 H : Heap} {w w' : va_W} {locs : List Loc} (hp : w.Perm w') (h : gw_I D A H0 w H locs) : gw_I D A H0 w' H locs := by
  refine ⟨fun k q hk => ?_, ?_, h.2.2⟩
  · obtain ⟨i, hi⟩ := List.getElem?_of_mem (hp.mem_iff.mpr (List.mem_of_getElem? hk))
    exact h.1 i q hi
  · have h1 := gw_Dnd.mp h.2.1
    exact gw_Dnd.mpr ⟨(hp.map (fun x => x.1)).nodup_iff.mp h1.1, fun q hq => h1.2 q (hp.mem_iff.mpr hq)⟩
theorem gw_arrV {cA : ClassId} {n : Nat} {f g : Nat → Value} (h : ∀ i, i < n → f i = g i) : arrV cA n f = arrV cA n g := by
  unfold arrV
  have e : (fun j : Fin n => f j.val) = fun j : Fin n => g j.val := funext fun j => h j.val j.isLt
  rw [e]
theorem gw_cellq {cA : ClassId} {n : Nat} {f g : Nat → Option Nat} (h : ∀ i, i < n → f i = g i) : vp_cell cA (n, .inr (.inr (.inr (.inr f)))) = vp_cell cA (n, .inr (.inr (.inr (.inr g)))) := by
  rw [vp_cell_q, vp_cell_q]
  exact gw_arrV (fun i hi => by rw [h i hi])
theorem gw_setq {D : va_G} {A : Nat → Prop} {H0 H : Heap} {w : va_W} {locs : List Loc} {k a n : Nat} {cA : ClassId} {f g : Nat → Option Nat} (hI : gw_I D A H0 w H locs) (hk : w[k]? = some (a, .inl (cA, n, .inr (.inr (.inr (.inr f)))))) (h : ∀ i, i < n → f i = g i) : gw_I D A H0 (w.set k (a, .inl (cA, n, .inr (.inr (.inr (.inr g)))))) H locs := by
  refine ⟨hI.1.set hI.2.1 hk ?_ (fun _ _ => rfl), hI.2.1.set hk, hI.2.2⟩
  show H[a]? = some (vp_cell cA (n, .inr (.inr (.inr (.inr g)))))
  rw [← gw_cellq h]
  exact hI.1 k _ hk
section GWF
variable {p : Program} {l : Launch} {e : Env} {R : Room} {s : State} {m : MethodId} {args : Array Value} {below : List Frame} {meth : Method} {c : Code} {H : Heap} {locs : List Loc} {cells slots : Nat} {Q : State → Prop}
variable {cc : ByteArray} {nL : Nat} {Ts : List Cond} {own : String} {ret : Option FieldType} {D : va_G} {tys : gw_TY} {t1 t2 : Nat} {A : Nat → Prop} {w wc : va_W} {W' : va_W → Prop} {pc : Nat} {ls : Array Slot} {rest : List Value} {mc ms : Nat}
theorem gw_subF (hI : gw_I D A s.heap (w ++ wc) H locs) (hA : ∀ q : Nat, s.heap.size ≤ q → A q) : ∀ q, va_A wc H.size q → A q := by
  intro q h
  rcases h with ⟨k, e, h⟩ | h
  · exact (gw_Dr hI.2.1).2 k (q, e) h
  · exact hA q (Nat.le_trans hI.2.2.1 h)
theorem gw_preF (hK : va_K D vwCl tys s) (hst : gw_st t1 t2 A s s.heap) (hA : ∀ q : Nat, s.heap.size ≤ q → A q) (hI : gw_I D A s.heap (w ++ wc) H locs) (U : State) (hU : U.heap = H) (hW : s.WarmedH U.vm) : gw_Pre D tys t1 t2 wc H.size U := by
  have h1 : gw_st t1 t2 A s H := hst.kept hI.2.2.2.1
  have h2 := (h1.narrow (gw_subF hI hA)).moved hW
  subst hU
  exact ⟨rfl, gw_Pr hI.1, va_K.moved hW.alike hK, (gw_Dr hI.2.1).weaken (fun _ _ _ _ => trivial), h2⟩
theorem gw_goF {a : Array Value} {ov : Option Value} {st0 : List Value} (hr : va_Run p l e R s m args below meth c H locs cells slots mc ms (F0 m pc ls st0) rest (gw_Q ov (gw_Pst D (va_A wc H.size) W') (va_A wc H.size) a) (va_A wc H.size)) (hI : gw_I D A s.heap (w ++ wc) H locs) (hA : ∀ q : Nat, s.heap.size ≤ q → A q)
    (kk : ∀ (w' : va_W) (H1 : Heap) (locs1 : List Loc), W' w' → gw_I D A s.heap (w ++ w') H1 locs1 → W p l e R s m args below meth c H1 locs1 (cells + mc) (slots + ms) Q (F0 m (pc + 3) ls (ov.toList ++ rest))) : W p l e R s m args below meth c H locs cells slots Q (F0 m pc ls st0) := by
  intro T hT X
  obtain ⟨v, st₀, t, T', L, h0, X', hL, e1, e2, ⟨hv, ⟨w', hw', hP', hD'⟩, hz, hk⟩, st⟩ := hr T hT X
  cases hv
  rw [h0] at hz hk
  have hAA := gw_subF hI hA
  have hS := hI.2.2
  have hap : ∀ (k : Nat) (q : Nat × va_E), w[k]? = some q → q.1 < H.size ∧ ¬ va_A wc H.size q.1 := by
    intro k q hq
    have hlt := (gw_Pl hI.1 k q hq).lt
    refine ⟨hlt, fun h => ?_⟩
    rcases h with ⟨j, e, h⟩ | h
    · exact gw_Dx hI.2.1 hq h rfl
    · omega
  obtain ⟨t2, a1, b1⟩ := kk w' T'.heap (locs ++ L) hw' ⟨va_P.app (fun k q hq => (gw_Pl hI.1 k q hq).kept (by rw [e1]; exact hk q.1 (hap k q hq).1 (hap k q hq).2)) (by rw [e1]; exact hP'),
    va_D.app (gw_Dl hI.2.1) (hD'.weaken (fun _ _ _ h => hAA _ h)) (fun i j x y hx hy hxy => (hap i x hx).2 (by rw [hxy]; exact hD'.2 j y hy)),
    ⟨Nat.le_trans hS.1 (by rw [e1]; exact hz), fun q h1 h2 => by rw [e1, hk q (Nat.lt_of_lt_of_le h1 hS.1) (fun z => h2 (hAA q z))]; exact hS.2.1 q h1 h2, fun q hq => by
      rcases List.mem_append.mp hq with h | h
      · exact hS.2.2 q h
      · exact hAA _ (hL q h)⟩⟩ T' rfl X'
  exact ⟨t2, st t2 a1, b1⟩
theorem gw_callI {y : MethodName} {bytes : ByteArray} {maxL index n b : Nat} {wsy wsy' : List Cond} {rm : Room} {As : List Value} (B : gw_B p s m args meth c cc nL Ts own ret D tys t1 t2 A) (hI : gw_I D A s.heap (w ++ wc) H locs)
    (hM : gw_M l y wsy rm mc ms D tys t1 t2 (.ref b :: As) wc W' none) (hG : GoodIn Ts wsy) (hw : wsy = Cond.code y bytes maxL none :: wsy') (hrc : rm.cells = mc) (hrs : rm.slots = ms) (hini : Cond.initialized y.cls ∈ Ts) (hl : Cond.methodLink own index y ∈ Ts) (hin : Cond.instanceMethod y ∈ Ts) (hy1 : y.name = "<init>")
    (hd : y.cls ≠ "java/lang/invoke/MethodHandle" ∧ y.cls ≠ "java/lang/invoke/VarHandle" ∧ (parseMethodDescriptor y.desc).map (fun d => d.parameters.length) = some n) (hR : rm.frames + 1 ≤ R.frames ∧ 8 + (maxL + 11) + rm.locals ≤ R.locals)
    (hn : As.length = n) (hsz : ls.size = nL) (hr8 : (rest.map fun v => v.category).sum ≤ 8) (hdg : decode cc pc = .ok (.invokespecial index, 3)) (hf : cells + mc ≤ R.cells ∧ slots + ms ≤ R.slots)
    {st0 : List Value} (hst0 : st0 = As.reverse ++ .ref b :: rest)
    (kk : ∀ (w' : va_W) (H1 : Heap) (locs1 : List Loc), W' w' → gw_I D A s.heap (w ++ w') H1 locs1 → W p l e R s m args below meth c H1 locs1 (cells + mc) (slots + ms) Q (F0 m (pc + 3) ls rest)) : W p l e R s m args below meth c H locs cells slots Q (F0 m pc ls st0) := by
  obtain ⟨C0, -, hK, hst, hA⟩ := B
  have ht := C0.2.2.2.2
  exact gw_goF (va_runI (As := As) (rest := rest) C0 (hM H.size) (cwI n ht hG hw hrc hrs (ht _ hini) (ht _ hl) (ht _ hin) hy1 hd hR) ⟨gw_blind, fun U hU hW => ⟨rfl, gw_preF hK hst hA hI U hU hW⟩⟩ rfl hn hsz hst0 (lv_room hr8) hdg hf) hI hA kk
theorem gw_callIN {y : MethodName} {bytes : ByteArray} {maxL index n b : Nat} {wsy wsy' : List Cond} {rm : Room} {As : List Value} (B : gw_B p s m args meth c cc nL Ts own ret D tys t1 t2 A) (hI : gw_I D A s.heap (w ++ wc) H locs)
    (hM : gw_M l y wsy rm mc ms D tys t1 t2 (.ref b :: As) wc W' none) (hG : GoodIn Ts wsy) (hw : wsy = Cond.code y bytes maxL none :: wsy') (hrc : rm.cells = mc) (hrs : rm.slots = ms) (hini : Cond.initialized y.cls ∈ Ts) (hl : (own, index, y) ∈ gw_nm) (hin : Cond.instanceMethod y ∈ Ts) (hy1 : y.name = "<init>")
    (hd : y.cls ≠ "java/lang/invoke/MethodHandle" ∧ y.cls ≠ "java/lang/invoke/VarHandle" ∧ (parseMethodDescriptor y.desc).map (fun d => d.parameters.length) = some n) (hR : rm.frames + 1 ≤ R.frames ∧ 8 + (maxL + 11) + rm.locals ≤ R.locals)
    (hn : As.length = n) (hsz : ls.size = nL) (hr8 : (rest.map fun v => v.category).sum ≤ 8) (hdg : decode cc pc = .ok (.invokespecial index, 3)) (hf : cells + mc ≤ R.cells ∧ slots + ms ≤ R.slots)
    {st0 : List Value} (hst0 : st0 = As.reverse ++ .ref b :: rest)
    (kk : ∀ (w' : va_W) (H1 : Heap) (locs1 : List Loc), W' w' → gw_I D A s.heap (w ++ w') H1 locs1 → W p l e R s m args below meth c H1 locs1 (cells + mc) (slots + ms) Q (F0 m (pc + 3) ls rest)) : W p l e R s m args below meth c H locs cells slots Q (F0 m pc ls st0) := by
  obtain ⟨C0, -, hK, hst, hA⟩ := B
  have ht := C0.2.2.2.2
  exact gw_goF (va_runIN (As := As) (rest := rest) C0 (hM H.size) ⟨va_cnB (host := "GownLet") n ht hG hw hrc hrs (hst.2.2.2.2.1 _ hl) (ht _ hini) hd hR, hy1, ht _ hin⟩ ⟨gw_blind, fun U hU hW => ⟨rfl, gw_preF hK hst hA hI U hU hW⟩⟩ rfl hn hsz hst0 (lv_room hr8) hdg hf) hI hA kk
/-- a call from the law: a part of its world -/
theorem gw_callVF {v : Value} {y : MethodName} {bytes : ByteArray} {maxL index n b q0 ci : Nat} {retY : Option FieldType} {wsy wsy' : List Cond} {rm : Room} {C : String} {As fs : List Value} {qC : vw_C} (B : gw_B p s m args meth c cc nL Ts own ret D tys t1 t2 A) (hI : gw_I D A s.heap (w ++ wc) H locs)
    (hM : gw_M l y wsy rm mc ms D tys t1 t2 (.ref b :: As) wc W' (some v)) (hT : GoodIn Ts (wsV own index C y wsy)) (hw : wsy = Cond.code y bytes maxL retY :: wsy') (hrc : rm.cells = mc) (hrs : rm.slots = ms)
    (hd : y.cls = C ∧ y.cls ≠ "java/lang/invoke/MethodHandle" ∧ y.cls ≠ "java/lang/invoke/VarHandle" ∧ (parseMethodDescriptor y.desc).map (fun d => d.parameters.length) = some n) (hR : rm.frames + 1 ≤ R.frames ∧ 8 + (maxL + 11) + rm.locals ≤ R.locals)
    (he : wc[q0]? = some (b, .inr (ci, fs))) (hc : vwCl[ci]? = some qC) (hC : qC.1 = C) (hn : As.length = n) (hsz : ls.size = nL) (hr8 : (rest.map fun v => v.category).sum ≤ 8) (hdg : decode cc pc = .ok (.invokevirtual index, 3)) (hf : cells + mc ≤ R.cells ∧ slots + ms ≤ R.slots)
    {st0 : List Value} (hst0 : st0 = As.reverse ++ .ref b :: rest)
    (kk : ∀ (w' : va_W) (H1 : Heap) (locs1 : List Loc), W' w' → gw_I D A s.heap (w ++ w') H1 locs1 → W p l e R s m args below meth c H1 locs1 (cells + mc) (slots + ms) Q (F0 m (pc + 3) ls (v :: rest))) : W p l e R s m args below meth c H locs cells slots Q (F0 m pc ls st0) := by
  obtain ⟨C0, -, hK, hst, hA⟩ := B
  refine gw_goF (va_runV (As := As) (rest := rest) C0 (hM H.size) (cwV n C0.2.2.2.2 hT hw hrc hrs hd hR) ⟨gw_blind, ?_, fun U hU hW => ⟨rfl, gw_preF hK hst hA hI U hU hW⟩⟩ rfl hn hsz hst0 (lv_room hr8) hdg hf) hI hA kk
  have h := va_recv hK (gw_Pr hI.1) hc he
  rw [hC] at h
  exact h
theorem gw_ainit {idx a : Nat} (B : gw_B p s m args meth c cc nL Ts own ret D tys t1 t2 A) (hlink : Cond.methodLink own idx Lib.objectInit ∈ Ts) (hinst : Cond.instanceMethod Lib.objectInit ∈ Ts) (hcode : Cond.code Lib.objectInit ⟨#[0xb1]⟩ 1 none ∈ Ts) (hsz : ls.size = nL) (hdg : decode cc pc = .ok (.invokespecial idx, 3)) (hframes : 1 ≤ R.frames) (hlocals : (rest.map fun v => v.category).sum + 12 ≤ R.locals)
    (kk : W p l e R s m args below meth c H locs cells slots Q (F0 m (pc + 3) ls rest)) : W p l e R s m args below meth c H locs cells slots Q (F0 m pc ls (.ref a :: rest)) := by
  have ht := B.1.2.2.2.2
  exact W.objInit B.1.1 B.1.2.1 B.1.2.2.2.1 (ht _ hlink) (ht _ hinst) (ht _ hcode) rfl (hsz.trans B.1.2.2.1.symm) rfl hdg hframes (by show 2 * 0 + _ + 12 ≤ _; omega) kk
theorem gw_putF {index q0 a ci N k : Nat} {fs : List Value} {C n d : String} {T : u_T} {v : Value} {ty : FieldType} {w' : va_W} (B : gw_B p s m args meth c cc nL Ts own ret D tys t1 t2 A) (hin2 : meth.name = "<init>") (hI : gw_I D A s.heap w H locs) (he : w[q0]? = some (a, .inr (ci, fs))) (hc : vwCl[ci]? = some (C, T, N)) (hin : ∀ w ∈ u_ws C T N, w ∈ Ts) (ty0 : Nat → FieldType) (hty : ∀ k, k < N → parseFieldDescriptor (T k).2.2.1 = some (ty0 k)) (hnm : ∀ a, a < N → ∀ b, b < N → a ≠ b → (T a).2.1 ≠ (T b).2.1) (hk : k < N) (hlink : Cond.fieldLink own index own n d ∈ Ts) (hT : T k = (own, n, d, true)) (hd : ty0 k = ty) (hn : narrow ty v = v) (hfit : fits ty v = true) (hl : k < fs.length) (hset : w.set q0 (a, .inr (ci, fs.set k v)) = w') (hdg : decode cc pc = .ok (.putfield index, 3))
    (kk : ∀ (H1 : Heap) (locs1 : List Loc), gw_I D A s.heap w' H1 locs1 → W p l e R s m args below meth c H1 locs1 cells slots Q (F0 m (pc + 3) ls rest)) : W p l e R s m args below meth c H locs cells slots Q (F0 m pc ls (v :: .ref a :: rest)) := by
  subst hset
  subst hd
  exact va_putF (D := D) (ty := ty0 k) (ref := own) B.1.1 B.1.2.1 B.1.2.2.2.2 hin ty0 hty hnm B.1.2.2.2.1 B.2.2.1 hI.1 hI.2.1 hI.2.2 q0 he hc k hk (by rw [hT]; exact B.1.2.2.2.2 _ hlink) (by rw [hT]; exact fun _ h => h) (by rw [hT]) hin2 (by rw [hT]) (hty k hk) hn hfit hl hdg (fun H1 locs1 hP hD hS => kk H1 locs1 ⟨hP, hD, hS⟩)
theorem gw_tyu {t0 : Nat} {cA cB : ClassId} {ty : FieldType} (hK : va_K D vwCl tys s) (hK' : va_K D vwCl (tys ++ [(cB, ty)]) s) (ht : tys[t0]? = some (cA, ty)) : cB = cA := by
  have h1 := (hK.2 t0 _ ht).2
  have h2 := (hK'.2 tys.length (cB, ty) (by simp)).2
  cases ty with
  | object C =>
    obtain ⟨_, _, _, _, _, h3⟩ := h1
    obtain ⟨_, _, _, _, _, h4⟩ := h2
    exact Option.some.inj (h4.symm.trans h3)
  | _ => exact Option.some.inj (Eq.trans (Eq.symm h2) h1)
theorem gw_newa {t0 N : Nat} {cA : ClassId} {n : Int32} {atype : ArrayType} {ty : FieldType} (B : gw_B p s m args meth c cc nL Ts own ret D tys t1 t2 A) (hI : gw_I D A s.heap w H locs) (hty : newarray.typeOf atype = ty) (hz : defaultValue ty = .int 0) (ht : tys[t0]? = some (cA, ty)) (harr : Cond.arrayClass ty ∈ Ts) (hn : ¬ n < 0) (hN : n.toNatClampNeg = N) (hbytes : N * componentBytes ty ≤ 536870912) (hcells : cells + 1 ≤ R.cells) (hslots : slots + N ≤ R.slots) (hdg : decode cc pc = .ok (.newarray atype, 2))
    (kk : ∀ (q : Nat) (H1 : Heap), gw_I D A s.heap (w ++ [(q, .inl (cA, N, .inl (fun _ => 0)))]) H1 locs → W p l e R s m args below meth c H1 locs (cells + 1) (slots + N) Q (F0 m (pc + 2) ls (.ref q :: rest))) : W p l e R s m args below meth c H locs cells slots Q (F0 m pc ls (.int n :: rest)) := by
  subst hty
  refine va_newa (a0 := (N, .inl (fun _ => 0))) B.1.1 B.1.2.1 (B.1.2.2.2.2 _ harr) rfl B.2.2.1 hI.1 hI.2.1 hI.2.2 B.2.2.2.2 (fun cA => by rw [hz]; rfl) hn hN hbytes hcells hslots hdg (fun q cB H1 hK hP hD hS => ?_)
  obtain rfl := gw_tyu B.2.2.1 hK ht
  exact kk q H1 ⟨hP, hD, hS⟩
theorem gw_newq {t0 N index : Nat} {cA : ClassId} {n : Int32} {C : String} (b : Nat → Nat) (B : gw_B p s m args meth c cc nL Ts own ret D tys t1 t2 A) (hI : gw_I D A s.heap w H locs) (ht : tys[t0]? = some (cA, .object C)) (hao : C ∈ (["GownLet$Piece", "GownLet$Booking", "GownLet$Sheet"] : List String)) (hcl : Cond.classLink own index C ∈ Ts) (hn : ¬ n < 0) (hN : n.toNatClampNeg = N) (hbytes : N * 4 ≤ 536870912) (hcells : cells + 1 ≤ R.cells) (hslots : slots + N ≤ R.slots) (hdg : decode cc pc = .ok (.anewarray index, 3))
    (kk : ∀ (q : Nat) (H1 : Heap), gw_I D A s.heap (w ++ [(q, .inl (cA, N, .inr (.inr (.inr (.inr (fun _ => gw_rf b (-1)))))))]) H1 locs → W p l e R s m args below meth c H1 locs (cells + 1) (slots + N) Q (F0 m (pc + 3) ls (.ref q :: rest))) : W p l e R s m args below meth c H locs cells slots Q (F0 m pc ls (.int n :: rest)) := by
  refine va_newq B.1.1 B.1.2.1 B.1.2.2.2.1 (B.1.2.2.2.2 _ hcl) (B.2.2.2.1.2.2.2.2.2 C hao) B.2.2.1 hI.1 hI.2.1 hI.2.2 B.2.2.2.2 hn hN hbytes hcells hslots hdg (fun q cB H1 hK hP hD hS => ?_)
  obtain rfl := gw_tyu B.2.2.1 hK ht
  exact kk q H1 ⟨hP, hD, hS⟩
theorem gw_new {index ci N : Nat} {C : String} {T : u_T} {fs : List Value} (B : gw_B p s m args meth c cc nL Ts own ret D tys t1 t2 A) (hI : gw_I D A s.heap w H locs) (hc : vwCl[ci]? = some (C, T, N)) (hin : ∀ w ∈ u_ws C T N, w ∈ Ts) (ty0 : Nat → FieldType) (hty : ∀ k, k < N → parseFieldDescriptor (T k).2.2.1 = some (ty0 k)) (hcl : Cond.classLink own index C ∈ Ts) (hinst : Cond.instantiable C N ∈ Ts) (hini : Cond.initialized C ∈ Ts) (hfs : ∀ j, j < N → defaultValue (ty0 j) = vp_V fs j) (hcells : cells + 1 ≤ R.cells) (hslots : slots + N ≤ R.slots) (hdg : decode cc pc = .ok (.new index, 3))
    (kk : ∀ (q : Nat) (H1 : Heap), gw_I D A s.heap (w ++ [(q, .inr (ci, fs))]) H1 locs → W p l e R s m args below meth c H1 locs (cells + 1) (slots + N) Q (F0 m (pc + 3) ls (.ref q :: rest))) : W p l e R s m args below meth c H locs cells slots Q (F0 m pc ls rest) := by
  have ht := B.1.2.2.2.2
  exact va_new B.1.1 B.1.2.1 ht hin ty0 hty B.1.2.2.2.1 (ht _ hcl) (ht _ hinst) (ht _ hini) B.2.2.1 hI.1 hI.2.1 hI.2.2 B.2.2.2.2 hc hfs hcells hslots hdg (fun q H1 hP hD hS => kk q H1 ⟨hP, hD, hS⟩)
theorem gw_aast {q0 t0 qk ci a n v : Nat} {cA : ClassId} {r : vw_C} {vs : List Value} {f : Nat → Option Nat} {i : Int32} {w' : va_W} (B : gw_B p s m args meth c cc nL Ts own ret D tys t1 t2 A) (hI : gw_I D A s.heap w H locs) (ha : w[q0]? = some (a, .inl (cA, n, .inr (.inr (.inr (.inr f)))))) (ht : tys[t0]? = some (cA, .object r.1)) (hv : w[qk]? = some (v, .inr (ci, vs))) (hc : vwCl[ci]? = some r) (hin : gw_in i n) (hset : w.set q0 (a, .inl (cA, n, .inr (.inr (.inr (.inr (va_up f i.toNatClampNeg (some v))))))) = w') (hdg : decode cc pc = .ok (.aastore, 1))
    (kk : ∀ (H1 : Heap) (locs1 : List Loc), gw_I D A s.heap w' H1 locs1 → W p l e R s m args below meth c H1 locs1 cells slots Q (F0 m (pc + 1) ls rest)) : W p l e R s m args below meth c H locs cells slots Q (F0 m pc ls (.ref v :: .int i :: .ref a :: rest)) := by
  subst hset
  exact va_astq B.1.1 B.1.2.1 B.2.2.1 hI.1 hI.2.1 hI.2.2 q0 t0 qk ci ha ht hv hc hin hdg (fun H1 locs1 hP hD hS => kk H1 locs1 ⟨hP, hD, hS⟩)
end GWF
end
section
/-! a new booking, a new piece: the cell that came joins the world -/
abbrev gw_okB (S : gw_S) : Prop := (0 ≤ S 29 1 ∧ S 29 1 < 1000) ∧ ∀ i, i < 30 → (S 13 i = -1 ∨ (S 13 i).toNatClampNeg < gw_nb S)
abbrev gw_okP (S : gw_S) : Prop := (0 ≤ S 29 0 ∧ S 29 0 < 1000) ∧ (∀ i, i < 24 → (S 12 i = -1 ∨ (S 12 i).toNatClampNeg < gw_np S)) ∧ ∀ j, j < gw_nb S → (S (2 * j + 31) 8 = -1 ∨ (S (2 * j + 31) 8).toNatClampNeg < gw_np S)
def gw_lst (l : List Int32) : Nat → Int32 := fun i => l.getD i 0
def gw_addB (S : gw_S) (x0 x1 x2 x3 x4 x5 x6 : Int32) : gw_S := fun k => if k = 2 * gw_nb S + 31 then gw_lst [x0, x1, x2, x3, x4, x5, x6, -4, -1, 0, 0, 0, 0, 0] else if k = 29 then upd (S 29) 1 (S 29 1 + 1) else S k
def gw_addP (S : gw_S) (x0 x1 x2 x3 x4 x5 x6 : Int32) : gw_S := fun k => if k = 2 * gw_np S + 30 then gw_lst [x0, x1, x2, x3, x4, x5, x6, 0, 0, 0, -4, 0] else if k = 29 then upd (S 29) 0 (S 29 0 + 1) else S k
theorem gw_inc {x : Int32} (h : 0 ≤ x ∧ x < 1000) : (x + 1).toNatClampNeg = x.toNatClampNeg + 1 := by
  obtain ⟨h1, h2⟩ := h
  rw [Int32.le_iff_toInt_le, Int32.toInt_zero] at h1
  rw [Int32.lt_iff_toInt_lt] at h2
  have e2 : (1000 : Int32).toInt = 1000 := by decide
  rw [e2] at h2
  obtain ⟨j, hj, rfl⟩ := nI_of (x := x) (by rw [Int32.lt_iff_toInt_lt, Int32.toInt_zero]; omega)
  rw [nI_toInt hj] at h2
  rw [nI_1, nI_clamp (by omega), nI_clamp hj]
theorem gw_nn {x : Int32} (h : 0 ≤ x) : ¬ x = -1 := by intro q; subst q; exact absurd h (by decide)
section GWV
variable {cc : Nat → ClassId} {a b d : Nat → Nat} {S S1 : gw_S} {D : va_G} {A : Nat → Prop} {H0 H : Heap} {locs : List Loc} {q : Nat} {x0 x1 x2 x3 x4 x5 x6 : Int32}
theorem gw_cvB (e : S1 = gw_addB S x0 x1 x2 x3 x4 x5 x6) (g : gw_okB S) (hI : gw_I D A H0 (gw_cw cc a b d S ++ [(q, .inr (0, [.int x0, .int x1, .int x2, .int x3, .int x4, .int x5, .int x6, .int (-4), .null, .int 0, .int 0, .int 0, .int 0, .int 0]))]) H locs) : ∃ d1, (Value.ref q = va_rf (gw_rf d1 (S 29 1))) ∧ gw_I D A H0 (gw_cw cc a b d1 S1) H locs := by
  refine ⟨va_up d (gw_nb S) q, ?_, ?_⟩
  · rw [gw_rfP (gw_nn g.1.1)]
    show Value.ref q = .ref (va_up d (gw_nb S) q (gw_nb S))
    simp [va_up]
  · have h13 := gw_setq (g := fun i => gw_rf (va_up d (gw_nb S) q) (S 13 i)) hI (gw_app gc_g13) (fun i hi => by
      rcases g.2 i hi with h | h
      · simp [gw_rf, h]
      · by_cases h1 : S 13 i = -1
        · simp [gw_rf, h1]
        · simp [gw_rf, h1, va_up, Nat.ne_of_lt h])
    have h29 : S1 29 = upd (S 29) 1 (S 29 1 + 1) := by subst e; unfold gw_addB; rw [if_neg (by omega), if_pos rfl]
    have hnp : gw_np S1 = gw_np S := by show (S1 29 0).toNatClampNeg = _; rw [h29]; rfl
    have hnb : gw_nb S1 = gw_nb S + 1 := by
      show (S1 29 1).toNatClampNeg = _
      rw [h29]
      show (S 29 1 + 1).toNatClampNeg = _
      exact gw_inc g.1
    have hfx : ∀ k, k < 29 → S1 k = S k := fun k hk => by subst e; unfold gw_addB; rw [if_neg (by omega), if_neg (by omega)]
    have hpx : ∀ i : Nat, S1 (2 * i + 30) = S (2 * i + 30) := fun i => by subst e; unfold gw_addB; rw [if_neg (by omega), if_neg (by omega)]
    have hbx : ∀ j : Nat, j ≠ gw_nb S → S1 (2 * j + 31) = S (2 * j + 31) := fun j hj => by subst e; unfold gw_addB; rw [if_neg (by omega), if_neg (by omega)]
    have hnew : S1 (2 * gw_nb S + 31) = gw_lst [x0, x1, x2, x3, x4, x5, x6, -4, -1, 0, 0, 0, 0, 0] := by subst e; unfold gw_addB; rw [if_pos rfl]
    have hlist : (gw_cw cc a b d S ++ [(q, (.inr (0, [.int x0, .int x1, .int x2, .int x3, .int x4, .int x5, .int x6, .int (-4), .null, .int 0, .int 0, .int 0, .int 0, .int 0]) : va_E))]).set 13 (a 13, (.inl (cc 4, 30, .inr (.inr (.inr (.inr (fun i => gw_rf (va_up d (gw_nb S) q) (S 13 i)))))) : va_E)) = gw_cw cc a b (va_up d (gw_nb S) q) S1 := by
      have e1 : (gw_fix cc a b d S).set 13 (a 13, .inl (cc 4, 30, .inr (.inr (.inr (.inr (fun i => gw_rf (va_up d (gw_nb S) q) (S 13 i))))))) = gw_fix cc a b (va_up d (gw_nb S) q) S := rfl
      have hl : 13 < (gw_fix cc a b d S).length := (by decide : 13 < 29)
      rw [gw_cw, List.append_assoc, List.set_append_left _ _ hl, e1, gw_cw, gw_fixK hfx]
      congr 1
      rw [gw_pool, gw_pool, hnp, hnb, List.range_succ, List.map_append, List.append_assoc]
      congr 1
      · apply List.map_congr_left
        intro i _
        simp only [gw_pF, hpx i]
      · congr 1
        · apply List.map_congr_left
          intro j hj
          have hj : j < gw_nb S := List.mem_range.mp hj
          simp only [gw_bF, hbx j (Nat.ne_of_lt hj), va_up, if_neg (Nat.ne_of_lt hj)]
        · simp only [List.map_cons, List.map_nil, gw_bF, hnew, va_up, if_pos]
          simp [gw_lst, gw_rf, va_rf]
    rw [hlist] at h13
    exact h13
theorem gw_cvP (e : S1 = gw_addP S x0 x1 x2 x3 x4 x5 x6) (g : gw_okP S) (hI : gw_I D A H0 (gw_cw cc a b d S ++ [(q, .inr (4, [.int x0, .int x1, .int x2, .int x3, .int x4, .int x5, .int x6, .int 0, .int 0, .int 0, .int (-4), .int 0]))]) H locs) : ∃ b1, (Value.ref q = va_rf (gw_rf b1 (S 29 0))) ∧ gw_I D A H0 (gw_cw cc a b1 d S1) H locs := by
  refine ⟨va_up b (gw_np S) q, ?_, ?_⟩
  · rw [gw_rfP (gw_nn g.1.1)]
    show Value.ref q = .ref (va_up b (gw_np S) q (gw_np S))
    simp [va_up]
  · have hrf : ∀ v : Int32, (v = -1 ∨ v.toNatClampNeg < gw_np S) → gw_rf b v = gw_rf (va_up b (gw_np S) q) v := fun v h => by
      rcases h with h | h
      · simp [gw_rf, h]
      · by_cases h1 : v = -1
        · simp [gw_rf, h1]
        · simp [gw_rf, h1, va_up, Nat.ne_of_lt h]
    have h12 := gw_setq (g := fun i => gw_rf (va_up b (gw_np S) q) (S 12 i)) hI (gw_app gc_g12) (fun i hi => hrf _ (g.2.1 i hi))
    have h29 : S1 29 = upd (S 29) 0 (S 29 0 + 1) := by subst e; unfold gw_addP; rw [if_neg (by omega), if_pos rfl]
    have hnb : gw_nb S1 = gw_nb S := by show (S1 29 1).toNatClampNeg = _; rw [h29]; rfl
    have hnp : gw_np S1 = gw_np S + 1 := by
      show (S1 29 0).toNatClampNeg = _
      rw [h29]
      show (S 29 0 + 1).toNatClampNeg = _
      exact gw_inc g.1
    have hfx : ∀ k, k < 29 → S1 k = S k := fun k hk => by subst e; unfold gw_addP; rw [if_neg (by omega), if_neg (by omega)]
    have hbx : ∀ i : Nat, S1 (2 * i + 31) = S (2 * i + 31) := fun i => by subst e; unfold gw_addP; rw [if_neg (by omega), if_neg (by omega)]
    have hpx : ∀ j : Nat, j ≠ gw_np S → S1 (2 * j + 30) = S (2 * j + 30) := fun j hj => by subst e; unfold gw_addP; rw [if_neg (by omega), if_neg (by omega)]
    have hnew : S1 (2 * gw_np S + 30) = gw_lst [x0, x1, x2, x3, x4, x5, x6, 0, 0, 0, -4, 0] := by subst e; unfold gw_addP; rw [if_pos rfl]
    have hlist : ((gw_cw cc a b d S ++ [(q, (.inr (4, [.int x0, .int x1, .int x2, .int x3, .int x4, .int x5, .int x6, .int 0, .int 0, .int 0, .int (-4), .int 0]) : va_E))]).set 12 (a 12, .inl (cc 3, 24, .inr (.inr (.inr (.inr (fun i => gw_rf (va_up b (gw_np S) q) (S 12 i)))))))).Perm (gw_cw cc a (va_up b (gw_np S) q) d S1) := by
      have e1 : (gw_fix cc a b d S).set 12 (a 12, .inl (cc 3, 24, .inr (.inr (.inr (.inr (fun i => gw_rf (va_up b (gw_np S) q) (S 12 i))))))) = gw_fix cc a (va_up b (gw_np S) q) d S := rfl
      have hl : 12 < (gw_fix cc a b d S).length := (by decide : 12 < 29)
      rw [gw_cw, List.append_assoc, List.set_append_left _ _ hl, e1, gw_cw, gw_fixK hfx]
      refine List.Perm.append_left _ ?_
      rw [gw_pool, gw_pool, hnp, hnb, List.range_succ, List.map_append, List.append_assoc, List.append_assoc]
      have ep : (List.range (gw_np S)).map (fun i => ((va_up b (gw_np S) q) i, (Sum.inr (4, gw_pF S1 i) : va_E))) = (List.range (gw_np S)).map (fun i => (b i, (Sum.inr (4, gw_pF S i) : va_E))) := by
        apply List.map_congr_left
        intro j hj
        have hj : j < gw_np S := List.mem_range.mp hj
        simp only [gw_pF, hpx j (Nat.ne_of_lt hj), va_up, if_neg (Nat.ne_of_lt hj)]
      have eb : (List.range (gw_nb S)).map (fun j => (d j, (Sum.inr (0, gw_bF (va_up b (gw_np S) q) S1 j) : va_E))) = (List.range (gw_nb S)).map (fun j => (d j, (Sum.inr (0, gw_bF b S j) : va_E))) := by
        apply List.map_congr_left
        intro j hj
        have hj : j < gw_nb S := List.mem_range.mp hj
        simp only [gw_bF, hbx j, hrf _ (g.2.2 j hj)]
      have en : [gw_np S].map (fun i => ((va_up b (gw_np S) q) i, (Sum.inr (4, gw_pF S1 i) : va_E))) = [(q, Sum.inr (4, [.int x0, .int x1, .int x2, .int x3, .int x4, .int x5, .int x6, .int 0, .int 0, .int 0, .int (-4), .int 0]))] := by
        simp only [List.map_cons, List.map_nil, gw_pF, hnew, va_up, if_pos]
        simp [gw_lst]
      rw [ep, eb, en]
      exact List.Perm.append_left _ List.perm_append_comm
    exact gw_perm hlist h12
theorem gc_sr12 {i : Nat} {v : Int32} (hv : ¬ v = -1) (h : S1 = gw_up S 12 i v) : (gw_cw cc a b d S).set 12 (a 12, .inl (cc 3, 24, .inr (.inr (.inr (.inr (va_up (fun j => gw_rf b (S 12 j)) i (some (b v.toNatClampNeg)))))))) = gw_cw cc a b d S1 := by
  subst h
  have e : (fun j => gw_rf b (gw_up S 12 i v 12 j)) = va_up (fun j => gw_rf b (S 12 j)) i (some (b v.toNatClampNeg)) := by
    funext j
    simp only [gw_upE, upd, va_up]
    by_cases hj : j = i
    · simp [hj, gw_rf, hv]
    · simp [hj]
  rw [← e]
  exact gw_fixset (by decide) rfl
theorem gc_sr13 {i : Nat} {v : Int32} (hv : ¬ v = -1) (h : S1 = gw_up S 13 i v) : (gw_cw cc a b d S).set 13 (a 13, .inl (cc 4, 30, .inr (.inr (.inr (.inr (va_up (fun j => gw_rf d (S 13 j)) i (some (d v.toNatClampNeg)))))))) = gw_cw cc a b d S1 := by
  subst h
  have e : (fun j => gw_rf d (gw_up S 13 i v 13 j)) = va_up (fun j => gw_rf d (S 13 j)) i (some (d v.toNatClampNeg)) := by
    funext j
    simp only [gw_upE, upd, va_up]
    by_cases hj : j = i
    · simp [hj, gw_rf, hv]
    · simp [hj]
  rw [← e]
  exact gw_fixset (by decide) rfl
end GWV
end
section
section GWH
variable {cc : Nat → ClassId} {a b d : Nat → Nat} {S S1 : gw_S}
def gw_hw (cc : Nat → ClassId) (a b d : Nat → Nat) (S : gw_S) : va_W := [(a 3, .inr (2, [.ref (a 4), .ref (a 7), .ref (a 11), .ref (a 12), .ref (a 13), .ref (a 14), .int (S 3 6), .int (S 3 7)])), (a 4, .inr (7, [.ref (a 5), .ref (a 6)])), (a 5, .inl (cc 0, 8, .inl (S 5))), (a 6, .inl (cc 0, 8, .inl (S 6))), (a 7, .inr (3, [.ref (a 8), .ref (a 9), .ref (a 10), .int (S 7 3), .int (S 7 4)])), (a 8, .inl (cc 0, 36, .inl (S 8))), (a 9, .inl (cc 0, 6, .inl (S 9))), (a 10, .inl (cc 0, 6, .inl (S 10))), (a 11, .inl (cc 0, 81, .inl (S 11))), (a 12, .inl (cc 3, 24, .inr (.inr (.inr (.inr (fun i => gw_rf b (S 12 i))))))), (a 13, .inl (cc 4, 30, .inr (.inr (.inr (.inr (fun i => gw_rf d (S 13 i))))))), (a 14, .inl (cc 2, 30, .inl (S 14)))]
theorem gh_g3 : (gw_hw cc a b d S)[0]? = some (a 3, .inr (2, [.ref (a 4), .ref (a 7), .ref (a 11), .ref (a 12), .ref (a 13), .ref (a 14), .int (S 3 6), .int (S 3 7)])) := rfl
theorem gh_g4 : (gw_hw cc a b d S)[1]? = some (a 4, .inr (7, [.ref (a 5), .ref (a 6)])) := rfl
theorem gh_g5 : (gw_hw cc a b d S)[2]? = some (a 5, .inl (cc 0, 8, .inl (S 5))) := rfl
theorem gh_s5 {i : Nat} {v : Int32} (h : S1 = gw_up S 5 i v) : (gw_hw cc a b d S).set 2 (a 5, .inl (cc 0, 8, .inl (upd (S 5) i v))) = gw_hw cc a b d S1 := by subst h; rfl
theorem gh_g6 : (gw_hw cc a b d S)[3]? = some (a 6, .inl (cc 0, 8, .inl (S 6))) := rfl
theorem gh_s6 {i : Nat} {v : Int32} (h : S1 = gw_up S 6 i v) : (gw_hw cc a b d S).set 3 (a 6, .inl (cc 0, 8, .inl (upd (S 6) i v))) = gw_hw cc a b d S1 := by subst h; rfl
theorem gh_g7 : (gw_hw cc a b d S)[4]? = some (a 7, .inr (3, [.ref (a 8), .ref (a 9), .ref (a 10), .int (S 7 3), .int (S 7 4)])) := rfl
theorem gh_g8 : (gw_hw cc a b d S)[5]? = some (a 8, .inl (cc 0, 36, .inl (S 8))) := rfl
theorem gh_s8 {i : Nat} {v : Int32} (h : S1 = gw_up S 8 i v) : (gw_hw cc a b d S).set 5 (a 8, .inl (cc 0, 36, .inl (upd (S 8) i v))) = gw_hw cc a b d S1 := by subst h; rfl
theorem gh_g9 : (gw_hw cc a b d S)[6]? = some (a 9, .inl (cc 0, 6, .inl (S 9))) := rfl
theorem gh_s9 {i : Nat} {v : Int32} (h : S1 = gw_up S 9 i v) : (gw_hw cc a b d S).set 6 (a 9, .inl (cc 0, 6, .inl (upd (S 9) i v))) = gw_hw cc a b d S1 := by subst h; rfl
theorem gh_g10 : (gw_hw cc a b d S)[7]? = some (a 10, .inl (cc 0, 6, .inl (S 10))) := rfl
theorem gh_s10 {i : Nat} {v : Int32} (h : S1 = gw_up S 10 i v) : (gw_hw cc a b d S).set 7 (a 10, .inl (cc 0, 6, .inl (upd (S 10) i v))) = gw_hw cc a b d S1 := by subst h; rfl
theorem gh_g11 : (gw_hw cc a b d S)[8]? = some (a 11, .inl (cc 0, 81, .inl (S 11))) := rfl
theorem gh_s11 {i : Nat} {v : Int32} (h : S1 = gw_up S 11 i v) : (gw_hw cc a b d S).set 8 (a 11, .inl (cc 0, 81, .inl (upd (S 11) i v))) = gw_hw cc a b d S1 := by subst h; rfl
theorem gh_g12 : (gw_hw cc a b d S)[9]? = some (a 12, .inl (cc 3, 24, .inr (.inr (.inr (.inr (fun i => gw_rf b (S 12 i))))))) := rfl
theorem gh_g13 : (gw_hw cc a b d S)[10]? = some (a 13, .inl (cc 4, 30, .inr (.inr (.inr (.inr (fun i => gw_rf d (S 13 i))))))) := rfl
theorem gh_g14 : (gw_hw cc a b d S)[11]? = some (a 14, .inl (cc 2, 30, .inl (S 14))) := rfl
theorem gh_s14 {i : Nat} {v : Int32} (h : S1 = gw_up S 14 i v) : (gw_hw cc a b d S).set 11 (a 14, .inl (cc 2, 30, .inl (upd (S 14) i v))) = gw_hw cc a b d S1 := by subst h; rfl
end GWH
end
section
/-! pure functions of what makes objects: printed by wip/gen -/
def gw_al (n : Nat) (l : List Nat) : Nat → Nat := fun k => l.getD (k - n) 0
theorem gw_shF {f9 : Nat → Nat} {a : Nat → Nat} {x0 x1 x2 x3 : Nat} (h0 : a 21 = x0) (h1 : a 22 = x1) (h2 : a 23 = x2) (h3 : a 24 = x3) : va_up (va_up (va_up (va_up (fun _ => gw_rf f9 (-1)) 0 (some x0)) 1 (some x1)) 2 (some x2)) 3 (some x3) = fun i => if i < 4 then some (a (21 + i)) else none := by
  funext i
  subst h0 h1 h2 h3
  rcases (show i = 0 ∨ i = 1 ∨ i = 2 ∨ i = 3 ∨ 4 ≤ i by omega) with rfl | rfl | rfl | rfl | h
  · simp [va_up]
  · simp [va_up]
  · simp [va_up]
  · simp [va_up]
  · simp [va_up, gw_rf, show ¬ i < 4 by omega, show ¬ i = 0 by omega, show ¬ i = 1 by omega, show ¬ i = 2 by omega, show ¬ i = 3 by omega]
theorem gw_permI {w w' : va_W} (is : List Nat) (hp : is.Perm (List.range w.length)) (h : is.map (fun i => w[i]?) = w'.map some) : w.Perm w' := by
  have h1 : (List.range w.length).map (fun i => w[i]?) = w.map some := by
    apply List.ext_getElem?
    intro k
    simp only [List.getElem?_map]
    by_cases hk : k < w.length
    · simp [hk]
    · simp [hk]
  have h2 := hp.map (fun i => w[i]?)
  rw [h, h1] at h2
  have h3 := h2.filterMap id
  simpa using h3.symm
def f_X2_keep (x1 : Int32) (S : gw_S) : Option (Int32 × gw_S) := (if (S 3 6) < (24 : Int32) then gw_gd (¬ x1 = -1) (gw_gd (x1.toNatClampNeg < gw_np S) (gw_let (gw_up S (2 * x1.toNatClampNeg + 30) 7 (S 3 6)) (fun S4 => gw_gd (x1.toNatClampNeg < gw_np S4) (gw_gd (gw_in (S4 3 6) 24) (gw_let (gw_up S4 12 (S4 3 6).toNatClampNeg x1) (fun S8 => gw_let (gw_up S8 3 6 ((S8 3 6) + (1 : Int32))) (fun S10 => gw_gd (x1.toNatClampNeg < gw_np S10) (some ((S10 (2 * x1.toNatClampNeg + 30) 7), S10))))))))) else some ((-3 : Int32), S))
abbrev rm_X2_keep : Room := { frames := 0, cells := 0, slots := 0, locals := 0 }
def f_X2_addBooking (x1 : Int32) (x2 : Int32) (x3 : Int32) (x4 : Int32) (x5 : Int32) (x6 : Int32) (S : gw_S) : Option (gw_S) := gw_bd (f_X2_hasRoomForBookings (1 : Int32) S) (fun r1 => (if r1 = 0 then some S else gw_gd (gw_okB S) (gw_let (gw_addB S (S 3 7) x1 x2 x3 x4 x5 x6) (fun S6 => gw_gd (¬ (S 29 1) = -1) (gw_gd ((S 29 1).toNatClampNeg < gw_nb S6) (gw_gd (gw_in (S 3 7) 30) (gw_let (gw_up S6 13 (S 3 7).toNatClampNeg (S 29 1)) (fun S13 => gw_let (gw_up S13 3 7 ((S13 3 7) + (1 : Int32))) (fun S15 => some S15)))))))))
abbrev rm_X2_addBooking : Room := { frames := 5, cells := 1, slots := 14, locals := 200 }
def f_X8_addPiece (x1 : Int32) (x2 : Int32) (x3 : Int32) (x4 : Int32) (x5 : Int32) (x6 : Int32) (x7 : Int32) (S : gw_S) : Option (Int32 × gw_S) := gw_bd (f_X8_isMaker x2 S) (fun r1 => (if r1 = 0 then some ((-1 : Int32), S) else gw_bd (f_X8_isLabel x3 S) (fun r4 => (if r4 = 0 then some ((-1 : Int32), S) else gw_bd (f_X8_isIn x4 (0 : Int32) (9 : Int32) S) (fun r7 => (if r7 = 0 then some ((-1 : Int32), S) else gw_bd (f_X8_isTown x5 S) (fun r10 => (if r10 = 0 then some ((-1 : Int32), S) else gw_bd (f_X8_isIn x6 (1 : Int32) (9999 : Int32) S) (fun r13 => (if r13 = 0 then some ((-1 : Int32), S) else gw_bd (f_X8_isIn x7 (1 : Int32) (99 : Int32) S) (fun r16 => (if r16 = 0 then some ((-1 : Int32), S) else (if (S 3 6) < (24 : Int32) then gw_gd (gw_okP S) (gw_let (gw_addP S x1 x2 x3 x4 x5 x6 x7) (fun S22 => gw_b2 (f_X2_keep (S 29 0) S22) (fun r26 S27 => some (r26, S27)))) else some ((-3 : Int32), S))))))))))))))
abbrev rm_X8_addPiece : Room := { frames := 5, cells := 1, slots := 12, locals := 200 }
def f_X8_gown (x1 : Int32) (x2 : Int32) (x3 : Int32) (x4 : Int32) (x5 : Int32) (x6 : Int32) (S : gw_S) : Option (Int32 × gw_S) := gw_b2 (f_X8_addPiece (0 : Int32) x1 x2 x3 x4 x5 x6 S) (fun r1 S2 => some (r1, S2))
abbrev rm_X8_gown : Room := { frames := 6, cells := 1, slots := 12, locals := 240 }
def f_X8_longGown (x1 : Int32) (x2 : Int32) (x3 : Int32) (x4 : Int32) (x5 : Int32) (x6 : Int32) (S : gw_S) : Option (Int32 × gw_S) := gw_b2 (f_X8_addPiece (1 : Int32) x1 x2 x3 x4 x5 x6 S) (fun r1 S2 => some (r1, S2))
abbrev rm_X8_longGown : Room := { frames := 6, cells := 1, slots := 12, locals := 240 }
def f_X8_suit (x1 : Int32) (x2 : Int32) (x3 : Int32) (x4 : Int32) (x5 : Int32) (x6 : Int32) (S : gw_S) : Option (Int32 × gw_S) := gw_b2 (f_X8_addPiece (2 : Int32) x1 x2 x3 x4 x5 x6 S) (fun r1 S2 => some (r1, S2))
abbrev rm_X8_suit : Room := { frames := 6, cells := 1, slots := 12, locals := 240 }
def f_X8_book (x1 : Int32) (x2 : Int32) (x3 : Int32) (x4 : Int32) (x5 : Int32) (x6 : Int32) (S : gw_S) : Option (Int32 × gw_S) := gw_bd (f_X8_isBookingAsTold x1 x2 x3 x4 x5 x6 S) (fun r1 => (if r1 = 0 then some ((-1 : Int32), S) else gw_bd (f_X2_hasRoomForBookings (1 : Int32) S) (fun r4 => (if r4 = 0 then some ((-3 : Int32), S) else gw_bd (f_X2_addBooking x1 x2 x3 x4 x5 x6 S) (fun S7 => some (((S7 3 7) - (1 : Int32)), S7))))))
abbrev rm_X8_book : Room := { frames := 6, cells := 1, slots := 14, locals := 240 }
def f_X8_addBookingOnSheet (x1 : Int32) (x2 : Int32) (S : gw_S) : Option (gw_S) := gw_gd (x1.toNatClampNeg < 4) (gw_bd (f_X5_get x1 x2 S) (fun r2 => gw_bd (f_X5_get x1 (x2 + (1 : Int32)) S) (fun r4 => gw_bd (f_X5_get x1 (x2 + (2 : Int32)) S) (fun r6 => gw_bd (f_X5_get x1 (x2 + (3 : Int32)) S) (fun r8 => gw_bd (f_X5_get x1 (x2 + (4 : Int32)) S) (fun r10 => gw_bd (f_X5_get x1 (x2 + (5 : Int32)) S) (fun r12 => gw_bd (f_X2_addBooking r2 r4 r6 r8 r10 r12 S) (fun S14 => some S14))))))))
abbrev rm_X8_addBookingOnSheet : Room := { frames := 6, cells := 1, slots := 14, locals := 240 }
def f_X8_books_b120  : Nat → Int32 → Int32 → Int32 → Int32 → gw_S → Option (Int32 × gw_S)
  | 0, _, _, _, _, _ => none
  | n + 1, v3, v4, v5, v7, S => (if v4 ≤ v7 then some ((S 3 7), S) else gw_bd (f_X8_addBookingOnSheet v5 (v3 + (v7 * (6 : Int32))) S) (fun S2 => gw_let (v7 + (1 : Int32) : Int32) (fun y6 => (f_X8_books_b120  n) v3 v4 v5 y6 S2)))
def f_X8_books_b71  : Nat → Int32 → Int32 → Int32 → Int32 → gw_S → Option (Int32 × gw_S)
  | 0, _, _, _, _, _ => none
  | n + 1, v3, v4, v5, v7, S => (if v4 ≤ v7 then gw_bd (f_X2_hasRoomForBookings v4 S) (fun r9 => (if r9 = 0 then some ((-3 : Int32), S) else f_X8_books_b120  7 v3 v4 v5 (0 : Int32) S)) else gw_bd (f_X8_isBookingOnSheet v5 (v3 + (v7 * (6 : Int32))) S) (fun r12 => (if r12 = 0 then some ((-2 : Int32), S) else gw_let (v7 + (1 : Int32) : Int32) (fun y15 => (f_X8_books_b71  n) v3 v4 v5 y15 S))))
def f_X8_books (x1 : Int32) (x2 : Int32) (x3 : Int32) (x4 : Int32) (S : gw_S) : Option (Int32 × gw_S) := gw_bd (f_X8_isSheet x1 S) (fun r17 => (if r17 = 0 then some ((-1 : Int32), S) else gw_bd (f_X8_isLane x2 S) (fun r20 => (if r20 = 0 then some ((-1 : Int32), S) else gw_bd (f_X8_isIn x4 (0 : Int32) (6 : Int32) S) (fun r23 => (if r23 = 0 then some ((-1 : Int32), S) else gw_gd (gw_in x1 4) (gw_gd (x1.toNatClampNeg < 4) (gw_bd (f_X5_refusalAs x1 x2 S) (fun r28 => (if r28 = 0 then gw_bd (f_X5_hasItems x1 x3 (x4 * (6 : Int32)) S) (fun r31 => (if r31 = 0 then some ((-13 : Int32), S) else f_X8_books_b71  gw_F x3 x4 x1 (0 : Int32) S)) else some (r28, S)))))))))))
abbrev rm_X8_books : Room := { frames := 7, cells := 7, slots := 98, locals := 280 }
def f_X3_init_t_b86 (K30 : Int32 → gw_S → Option (gw_S)) (K38 : Int32 → Int32 → gw_S → Option (gw_S)) : Int32 → Int32 → Int32 → Int32 → gw_S → Option (gw_S) := fun v1 v2 t0_ t1_ S => gw_gd (gw_in t1_ 36) (gw_let (gw_up S 8 t1_.toNatClampNeg t0_) (fun S2 => gw_let (v2 + (1 : Int32) : Int32) (fun y4 => K38 v1 y4 S2)))
def f_X3_init_t_b64 (K30 : Int32 → gw_S → Option (gw_S)) (K38 : Int32 → Int32 → gw_S → Option (gw_S)) : Int32 → Int32 → Int32 → Int32 → gw_S → Option (gw_S) := fun v1 v2 t0_ t1_ S => gw_let ((t1_ + t0_) : Int32) (fun y6 => (if v1 = v2 then f_X3_init_t_b86 K30 K38 v1 v2 (0 : Int32) ((v1 * (6 : Int32)) + v2) S else f_X3_init_t_b86 K30 K38 v1 v2 y6 ((v1 * (6 : Int32)) + v2) S))
def f_X3_init_t_b54 (K30 : Int32 → gw_S → Option (gw_S)) (K38 : Int32 → Int32 → gw_S → Option (gw_S)) : Int32 → Int32 → Int32 → gw_S → Option (gw_S) := fun v1 v2 t0_ S => (if v2 = 0 then f_X3_init_t_b64 K30 K38 v1 v2 (0 : Int32) t0_ S else f_X3_init_t_b64 K30 K38 v1 v2 (9 : Int32) t0_ S)
def f_X3_init_t_b38 (K30 : Int32 → gw_S → Option (gw_S)) : Nat → Int32 → Int32 → gw_S → Option (gw_S)
  | 0, _, _, _ => none
  | n + 1, v1, v2, S => (if (6 : Int32) ≤ v2 then gw_let (v1 + (1 : Int32) : Int32) (fun y11 => K30 y11 S) else (if v1 = 0 then f_X3_init_t_b54 K30 (f_X3_init_t_b38 K30 n) v1 v2 (0 : Int32) S else f_X3_init_t_b54 K30 (f_X3_init_t_b38 K30 n) v1 v2 (9 : Int32) S))
def f_X3_init_t_b30  : Nat → Int32 → gw_S → Option (gw_S)
  | 0, _, _ => none
  | n + 1, v1, S => (if (6 : Int32) ≤ v1 then gw_bd (f_X3_readEnds_l  S) (fun S15 => some S15) else f_X3_init_t_b38 (f_X3_init_t_b30  n) gw_F v1 (0 : Int32) S)
def f_X3_init_t (S : gw_S) : Option (gw_S) := f_X3_init_t_b30  gw_F (0 : Int32) S
def f_X2_init_t_b96 (K62 : Int32 → gw_S → Option (gw_S)) (K70 : Int32 → Int32 → gw_S → Option (gw_S)) : Int32 → Int32 → Int32 → Int32 → gw_S → Option (gw_S) := fun v1 v2 t0_ t1_ S => gw_gd (gw_in t1_ 81) (gw_let (gw_up S 11 t1_.toNatClampNeg t0_) (fun S2 => gw_let (v2 + (1 : Int32) : Int32) (fun y4 => K70 v1 y4 S2)))
def f_X2_init_t_b70 (K62 : Int32 → gw_S → Option (gw_S)) : Nat → Int32 → Int32 → gw_S → Option (gw_S)
  | 0, _, _, _ => none
  | n + 1, v1, v2, S => (if (9 : Int32) ≤ v2 then gw_let (v1 + (1 : Int32) : Int32) (fun y7 => K62 y7 S) else (if v1 = v2 then f_X2_init_t_b96 K62 (f_X2_init_t_b70 K62 n) v1 v2 (0 : Int32) ((v1 * (9 : Int32)) + v2) S else f_X2_init_t_b96 K62 (f_X2_init_t_b70 K62 n) v1 v2 (1 : Int32) ((v1 * (9 : Int32)) + v2) S))
def f_X2_init_t_b62  : Nat → Int32 → gw_S → Option (gw_S)
  | 0, _, _ => none
  | n + 1, v1, S => (if (9 : Int32) ≤ v1 then some S else f_X2_init_t_b70 (f_X2_init_t_b62  n) gw_F v1 (0 : Int32) S)
def f_X2_init_t (S : gw_S) : Option (gw_S) := f_X2_init_t_b62  gw_F (0 : Int32) S
def f_X9_init_t_b540  : Nat → Int32 → gw_S → Option (gw_S)
  | 0, _, _ => none
  | n + 1, v1, S => (if (4 : Int32) ≤ v1 then some S else gw_gd (gw_in v1 4) (gw_let (gw_up S 43 v1.toNatClampNeg (-1 : Int32)) (fun S3 => gw_let (v1 + (1 : Int32) : Int32) (fun y5 => (f_X9_init_t_b540  n) y5 S3))))
def f_X9_init_t_b525 (K491 : Int32 → gw_S → Option (gw_S)) (K499 : Int32 → Int32 → gw_S → Option (gw_S)) : Int32 → Int32 → Int32 → Int32 → gw_S → Option (gw_S) := fun v1 v2 t0_ t1_ S => gw_gd (gw_in t1_ 81) (gw_let (gw_up S 6 t1_.toNatClampNeg t0_) (fun S8 => gw_let (v2 + (1 : Int32) : Int32) (fun y10 => K499 v1 y10 S8)))
def f_X9_init_t_b499 (K491 : Int32 → gw_S → Option (gw_S)) : Nat → Int32 → Int32 → gw_S → Option (gw_S)
  | 0, _, _, _ => none
  | n + 1, v1, v2, S => (if (9 : Int32) ≤ v2 then gw_let (v1 + (1 : Int32) : Int32) (fun y13 => K491 y13 S) else (if v1 = v2 then f_X9_init_t_b525 K491 (f_X9_init_t_b499 K491 n) v1 v2 (0 : Int32) (((9 : Int32) * v1) + v2) S else f_X9_init_t_b525 K491 (f_X9_init_t_b499 K491 n) v1 v2 (1 : Int32) (((9 : Int32) * v1) + v2) S))
def f_X9_init_t_b491  : Nat → Int32 → gw_S → Option (gw_S)
  | 0, _, _ => none
  | n + 1, v1, S => (if (9 : Int32) ≤ v1 then f_X9_init_t_b540  gw_F (0 : Int32) S else f_X9_init_t_b499 (f_X9_init_t_b491  n) gw_F v1 (0 : Int32) S)
def f_X9_init_t (S : gw_S) : Option (gw_S) := f_X9_init_t_b491  gw_F (0 : Int32) S
def gw_SH (zL : gw_S) : gw_S := fun k => if k = 5 then (upd (upd (upd (upd (upd (upd (upd (upd (fun _ => 0) 0 (1 : Int32)) 1 (2 : Int32)) 2 (50 : Int32)) 3 (30 : Int32)) 4 (1 : Int32)) 5 (200 : Int32)) 6 (900 : Int32)) 7 (3 : Int32)) else if k = 12 then (fun _ => -1) else if k = 13 then (fun _ => -1) else if k = 7 then zL 7 else if k = 8 then zL 8 else if k = 9 then zL 9 else if k = 10 then zL 10 else fun _ => 0
def gw_SG (zH : gw_S) : gw_S := fun k => if 3 ≤ k ∧ k ≤ 14 then zH k else fun _ => 0
def gw_SM : gw_S := fun k => if k = 1 then (upd (upd (upd (upd (upd (upd (upd (upd (fun _ => 0) 0 (104 : Int32)) 1 (99 : Int32)) 2 (108 : Int32)) 3 (100 : Int32)) 4 (101 : Int32)) 5 (115 : Int32)) 6 (116 : Int32)) 7 (119 : Int32)) else if k = 2 then (upd (upd (upd (upd (upd (upd (upd (upd (fun _ => 0) 0 (9 : Int32)) 1 (9 : Int32)) 2 (999 : Int32)) 3 (100 : Int32)) 4 (9 : Int32)) 5 (999 : Int32)) 6 (999 : Int32)) 7 (3 : Int32)) else if k = 3 then (upd (upd (upd (upd (upd (upd (upd (upd (fun _ => 0) 0 (1 : Int32)) 1 (2 : Int32)) 2 (50 : Int32)) 3 (30 : Int32)) 4 (1 : Int32)) 5 (200 : Int32)) 6 (900 : Int32)) 7 (3 : Int32)) else fun _ => 0
end
section
def f_law_c0 (xs : Nat → Int32) (L : Nat) (i : Int32) (K : gw_S → gw_S → Option Int32) (S M : gw_S) : Option Int32 := gw_gd (gw_in (i + (1 : Int32)) L) (gw_gd (gw_in (i + (2 : Int32)) L) (gw_gd (gw_in (i + (3 : Int32)) L) (gw_b2 (f_X8_type ((((xs (i + (1 : Int32)).toNatClampNeg).toInt64) <<< ((32 : Int32).toInt64 &&& 63)) ||| (((xs (i + (2 : Int32)).toNatClampNeg).toInt64) &&& (4294967295 : Int64))) (xs (i + (3 : Int32)).toNatClampNeg) S) (fun r4 S6 => gw_b2 (f_X9_type ((((xs (i + (1 : Int32)).toNatClampNeg).toInt64) <<< ((32 : Int32).toInt64 &&& 63)) ||| (((xs (i + (2 : Int32)).toNatClampNeg).toInt64) &&& (4294967295 : Int64))) (xs (i + (3 : Int32)).toNatClampNeg) M) (fun r7 M9 => K S6 M9)))))
def f_law_c1 (xs : Nat → Int32) (L : Nat) (i : Int32) (K : gw_S → gw_S → Option Int32) (S M : gw_S) : Option Int32 := gw_b2 (f_X8_terms  S) (fun r1 S3 => gw_b2 (f_X9_terms  M) (fun r4 M6 => K S3 M6))
def f_law_c2 (xs : Nat → Int32) (L : Nat) (i : Int32) (K : gw_S → gw_S → Option Int32) (S M : gw_S) : Option Int32 := gw_gd (gw_in (i + (1 : Int32)) L) (gw_bd (f_X8_term (xs (i + (1 : Int32)).toNatClampNeg) S) (fun r2 => gw_bd (f_X9_term (xs (i + (1 : Int32)).toNatClampNeg) M) (fun r4 => K S M)))
def f_law_c3 (xs : Nat → Int32) (L : Nat) (i : Int32) (K : gw_S → gw_S → Option Int32) (S M : gw_S) : Option Int32 := gw_gd (gw_in (i + (1 : Int32)) L) (gw_gd (gw_in (i + (2 : Int32)) L) (gw_gd (gw_in (i + (3 : Int32)) L) (gw_b2 (f_X8_post (xs (i + (1 : Int32)).toNatClampNeg) (xs (i + (2 : Int32)).toNatClampNeg) (xs (i + (3 : Int32)).toNatClampNeg) S) (fun r4 S6 => gw_b2 (f_X9_post (xs (i + (1 : Int32)).toNatClampNeg) (xs (i + (2 : Int32)).toNatClampNeg) (xs (i + (3 : Int32)).toNatClampNeg) M) (fun r7 M9 => K S6 M9)))))
def f_law_c4 (xs : Nat → Int32) (L : Nat) (i : Int32) (K : gw_S → gw_S → Option Int32) (S M : gw_S) : Option Int32 := gw_gd (gw_in (i + (1 : Int32)) L) (gw_gd (gw_in (i + (2 : Int32)) L) (gw_gd (gw_in (i + (3 : Int32)) L) (gw_gd (gw_in (i + (4 : Int32)) L) (gw_gd (gw_in (i + (5 : Int32)) L) (gw_gd (gw_in (i + (6 : Int32)) L) (gw_b2 (f_X8_gown (xs (i + (1 : Int32)).toNatClampNeg) (xs (i + (2 : Int32)).toNatClampNeg) (xs (i + (3 : Int32)).toNatClampNeg) (xs (i + (4 : Int32)).toNatClampNeg) (xs (i + (5 : Int32)).toNatClampNeg) (xs (i + (6 : Int32)).toNatClampNeg) S) (fun r7 S9 => gw_b2 (f_X9_gown (xs (i + (1 : Int32)).toNatClampNeg) (xs (i + (2 : Int32)).toNatClampNeg) (xs (i + (3 : Int32)).toNatClampNeg) (xs (i + (4 : Int32)).toNatClampNeg) (xs (i + (5 : Int32)).toNatClampNeg) (xs (i + (6 : Int32)).toNatClampNeg) M) (fun r12 M14 => K S9 M14))))))))
def f_law_c5 (xs : Nat → Int32) (L : Nat) (i : Int32) (K : gw_S → gw_S → Option Int32) (S M : gw_S) : Option Int32 := gw_gd (gw_in (i + (1 : Int32)) L) (gw_gd (gw_in (i + (2 : Int32)) L) (gw_gd (gw_in (i + (3 : Int32)) L) (gw_gd (gw_in (i + (4 : Int32)) L) (gw_gd (gw_in (i + (5 : Int32)) L) (gw_gd (gw_in (i + (6 : Int32)) L) (gw_b2 (f_X8_longGown (xs (i + (1 : Int32)).toNatClampNeg) (xs (i + (2 : Int32)).toNatClampNeg) (xs (i + (3 : Int32)).toNatClampNeg) (xs (i + (4 : Int32)).toNatClampNeg) (xs (i + (5 : Int32)).toNatClampNeg) (xs (i + (6 : Int32)).toNatClampNeg) S) (fun r7 S9 => gw_b2 (f_X9_longGown (xs (i + (1 : Int32)).toNatClampNeg) (xs (i + (2 : Int32)).toNatClampNeg) (xs (i + (3 : Int32)).toNatClampNeg) (xs (i + (4 : Int32)).toNatClampNeg) (xs (i + (5 : Int32)).toNatClampNeg) (xs (i + (6 : Int32)).toNatClampNeg) M) (fun r12 M14 => K S9 M14))))))))
def f_law_c6 (xs : Nat → Int32) (L : Nat) (i : Int32) (K : gw_S → gw_S → Option Int32) (S M : gw_S) : Option Int32 := gw_gd (gw_in (i + (1 : Int32)) L) (gw_gd (gw_in (i + (2 : Int32)) L) (gw_gd (gw_in (i + (3 : Int32)) L) (gw_gd (gw_in (i + (4 : Int32)) L) (gw_gd (gw_in (i + (5 : Int32)) L) (gw_gd (gw_in (i + (6 : Int32)) L) (gw_b2 (f_X8_suit (xs (i + (1 : Int32)).toNatClampNeg) (xs (i + (2 : Int32)).toNatClampNeg) (xs (i + (3 : Int32)).toNatClampNeg) (xs (i + (4 : Int32)).toNatClampNeg) (xs (i + (5 : Int32)).toNatClampNeg) (xs (i + (6 : Int32)).toNatClampNeg) S) (fun r7 S9 => gw_b2 (f_X9_suit (xs (i + (1 : Int32)).toNatClampNeg) (xs (i + (2 : Int32)).toNatClampNeg) (xs (i + (3 : Int32)).toNatClampNeg) (xs (i + (4 : Int32)).toNatClampNeg) (xs (i + (5 : Int32)).toNatClampNeg) (xs (i + (6 : Int32)).toNatClampNeg) M) (fun r12 M14 => K S9 M14))))))))
def f_law_c7 (xs : Nat → Int32) (L : Nat) (i : Int32) (K : gw_S → gw_S → Option Int32) (S M : gw_S) : Option Int32 := gw_gd (gw_in (i + (1 : Int32)) L) (gw_gd (gw_in (i + (2 : Int32)) L) (gw_b2 (f_X8_hem (xs (i + (1 : Int32)).toNatClampNeg) (xs (i + (2 : Int32)).toNatClampNeg) S) (fun r3 S5 => gw_b2 (f_X9_hem (xs (i + (1 : Int32)).toNatClampNeg) (xs (i + (2 : Int32)).toNatClampNeg) M) (fun r6 M8 => K S5 M8))))
def f_law_c8 (xs : Nat → Int32) (L : Nat) (i : Int32) (K : gw_S → gw_S → Option Int32) (S M : gw_S) : Option Int32 := gw_gd (gw_in (i + (1 : Int32)) L) (gw_gd (gw_in (i + (2 : Int32)) L) (gw_bd (f_X8_told (xs (i + (1 : Int32)).toNatClampNeg) (xs (i + (2 : Int32)).toNatClampNeg) S) (fun r3 => gw_bd (f_X9_told (xs (i + (1 : Int32)).toNatClampNeg) (xs (i + (2 : Int32)).toNatClampNeg) M) (fun r5 => K S M))))
def f_law_c9 (xs : Nat → Int32) (L : Nat) (i : Int32) (K : gw_S → gw_S → Option Int32) (S M : gw_S) : Option Int32 := gw_gd (gw_in (i + (1 : Int32)) L) (gw_gd (gw_in (i + (2 : Int32)) L) (gw_gd (gw_in (i + (3 : Int32)) L) (gw_gd (gw_in (i + (4 : Int32)) L) (gw_b2 (f_X8_same (xs (i + (1 : Int32)).toNatClampNeg) (xs (i + (2 : Int32)).toNatClampNeg) (xs (i + (3 : Int32)).toNatClampNeg) (xs (i + (4 : Int32)).toNatClampNeg) S) (fun r5 S7 => gw_b2 (f_X9_same (xs (i + (1 : Int32)).toNatClampNeg) (xs (i + (2 : Int32)).toNatClampNeg) (xs (i + (3 : Int32)).toNatClampNeg) (xs (i + (4 : Int32)).toNatClampNeg) M) (fun r8 M10 => K S7 M10))))))
def f_law_c10 (xs : Nat → Int32) (L : Nat) (i : Int32) (K : gw_S → gw_S → Option Int32) (S M : gw_S) : Option Int32 := gw_gd (gw_in (i + (1 : Int32)) L) (gw_gd (gw_in (i + (2 : Int32)) L) (gw_bd (f_X8_lie (xs (i + (1 : Int32)).toNatClampNeg) (xs (i + (2 : Int32)).toNatClampNeg) S) (fun r3 => gw_b2 (f_X9_lie (xs (i + (1 : Int32)).toNatClampNeg) (xs (i + (2 : Int32)).toNatClampNeg) M) (fun r5 M7 => K S M7))))
def f_law_c11 (xs : Nat → Int32) (L : Nat) (i : Int32) (K : gw_S → gw_S → Option Int32) (S M : gw_S) : Option Int32 := gw_bd (f_X8_quarrel  S) (fun r1 => gw_b2 (f_X9_quarrel  M) (fun r3 M5 => K S M5))
def f_law_c12 (xs : Nat → Int32) (L : Nat) (i : Int32) (K : gw_S → gw_S → Option Int32) (S M : gw_S) : Option Int32 := gw_gd (gw_in (i + (1 : Int32)) L) (gw_gd (gw_in (i + (2 : Int32)) L) (gw_gd (gw_in (i + (3 : Int32)) L) (gw_bd (f_X8_fits (xs (i + (1 : Int32)).toNatClampNeg) (xs (i + (2 : Int32)).toNatClampNeg) (xs (i + (3 : Int32)).toNatClampNeg) S) (fun r4 => gw_b2 (f_X9_fits (xs (i + (1 : Int32)).toNatClampNeg) (xs (i + (2 : Int32)).toNatClampNeg) (xs (i + (3 : Int32)).toNatClampNeg) M) (fun r6 M8 => K S M8)))))
def f_law_c13 (xs : Nat → Int32) (L : Nat) (i : Int32) (K : gw_S → gw_S → Option Int32) (S M : gw_S) : Option Int32 := gw_gd (gw_in (i + (1 : Int32)) L) (gw_gd (gw_in (i + (2 : Int32)) L) (gw_gd (gw_in (i + (3 : Int32)) L) (gw_gd (gw_in (i + (4 : Int32)) L) (gw_gd (gw_in (i + (5 : Int32)) L) (gw_gd (gw_in (i + (6 : Int32)) L) (gw_b2 (f_X8_book (xs (i + (1 : Int32)).toNatClampNeg) (xs (i + (2 : Int32)).toNatClampNeg) (xs (i + (3 : Int32)).toNatClampNeg) (xs (i + (4 : Int32)).toNatClampNeg) (xs (i + (5 : Int32)).toNatClampNeg) (xs (i + (6 : Int32)).toNatClampNeg) S) (fun r7 S9 => gw_b2 (f_X9_book (xs (i + (1 : Int32)).toNatClampNeg) (xs (i + (2 : Int32)).toNatClampNeg) (xs (i + (3 : Int32)).toNatClampNeg) (xs (i + (4 : Int32)).toNatClampNeg) (xs (i + (5 : Int32)).toNatClampNeg) (xs (i + (6 : Int32)).toNatClampNeg) M) (fun r12 M14 => K S9 M14))))))))
def f_law_c14 (xs : Nat → Int32) (L : Nat) (i : Int32) (K : gw_S → gw_S → Option Int32) (S M : gw_S) : Option Int32 := gw_gd (gw_in (i + (1 : Int32)) L) (gw_gd (gw_in (i + (2 : Int32)) L) (gw_b2 (f_X8_off (xs (i + (1 : Int32)).toNatClampNeg) (xs (i + (2 : Int32)).toNatClampNeg) S) (fun r3 S5 => gw_b2 (f_X9_off (xs (i + (1 : Int32)).toNatClampNeg) (xs (i + (2 : Int32)).toNatClampNeg) M) (fun r6 M8 => K S5 M8))))
def f_law_c15 (xs : Nat → Int32) (L : Nat) (i : Int32) (K : gw_S → gw_S → Option Int32) (S M : gw_S) : Option Int32 := gw_gd (gw_in (i + (1 : Int32)) L) (gw_b2 (f_X8_give (xs (i + (1 : Int32)).toNatClampNeg) S) (fun r2 S4 => gw_b2 (f_X9_give (xs (i + (1 : Int32)).toNatClampNeg) M) (fun r5 M7 => K S4 M7)))
def f_law_c16 (xs : Nat → Int32) (L : Nat) (i : Int32) (K : gw_S → gw_S → Option Int32) (S M : gw_S) : Option Int32 := gw_gd (gw_in (i + (1 : Int32)) L) (gw_bd (f_X8_has (xs (i + (1 : Int32)).toNatClampNeg) S) (fun r2 => gw_bd (f_X9_has (xs (i + (1 : Int32)).toNatClampNeg) M) (fun r4 => K S M)))
def f_law_c17 (xs : Nat → Int32) (L : Nat) (i : Int32) (K : gw_S → gw_S → Option Int32) (S M : gw_S) : Option Int32 := gw_gd (gw_in (i + (1 : Int32)) L) (gw_gd (gw_in (i + (2 : Int32)) L) (gw_bd (f_X8_free (xs (i + (1 : Int32)).toNatClampNeg) (xs (i + (2 : Int32)).toNatClampNeg) S) (fun r3 => gw_bd (f_X9_free (xs (i + (1 : Int32)).toNatClampNeg) (xs (i + (2 : Int32)).toNatClampNeg) M) (fun r5 => K S M))))
def f_law_c18 (xs : Nat → Int32) (L : Nat) (i : Int32) (K : gw_S → gw_S → Option Int32) (S M : gw_S) : Option Int32 := gw_gd (gw_in (i + (1 : Int32)) L) (gw_gd (gw_in (i + (2 : Int32)) L) (gw_gd (gw_in (i + (3 : Int32)) L) (gw_bd (f_X8_away (xs (i + (1 : Int32)).toNatClampNeg) (xs (i + (2 : Int32)).toNatClampNeg) (xs (i + (3 : Int32)).toNatClampNeg) S) (fun r4 => gw_bd (f_X9_away (xs (i + (1 : Int32)).toNatClampNeg) (xs (i + (2 : Int32)).toNatClampNeg) (xs (i + (3 : Int32)).toNatClampNeg) M) (fun r6 => K S M)))))
def f_law_c19 (xs : Nat → Int32) (L : Nat) (i : Int32) (K : gw_S → gw_S → Option Int32) (S M : gw_S) : Option Int32 := gw_gd (gw_in (i + (1 : Int32)) L) (gw_gd (gw_in (i + (2 : Int32)) L) (gw_b2 (f_X8_tear (xs (i + (1 : Int32)).toNatClampNeg) (xs (i + (2 : Int32)).toNatClampNeg) S) (fun r3 S5 => gw_b2 (f_X9_tear (xs (i + (1 : Int32)).toNatClampNeg) (xs (i + (2 : Int32)).toNatClampNeg) M) (fun r6 M8 => K S5 M8))))
def f_law_c20 (xs : Nat → Int32) (L : Nat) (i : Int32) (K : gw_S → gw_S → Option Int32) (S M : gw_S) : Option Int32 := gw_gd (gw_in (i + (1 : Int32)) L) (gw_b2 (f_X8_mend (xs (i + (1 : Int32)).toNatClampNeg) S) (fun r2 S4 => gw_b2 (f_X9_mend (xs (i + (1 : Int32)).toNatClampNeg) M) (fun r5 M7 => K S4 M7)))
def f_law_c21 (xs : Nat → Int32) (L : Nat) (i : Int32) (K : gw_S → gw_S → Option Int32) (S M : gw_S) : Option Int32 := gw_gd (gw_in (i + (1 : Int32)) L) (gw_b2 (f_X8_chain (xs (i + (1 : Int32)).toNatClampNeg) S) (fun r2 S4 => gw_b2 (f_X9_chain (xs (i + (1 : Int32)).toNatClampNeg) M) (fun r5 M7 => (if r2 = r5 then K S4 M7 else some 0))))
def f_law_c22 (xs : Nat → Int32) (L : Nat) (i : Int32) (K : gw_S → gw_S → Option Int32) (S M : gw_S) : Option Int32 := gw_gd (gw_in (i + (1 : Int32)) L) (gw_gd (gw_in (i + (2 : Int32)) L) (gw_gd (gw_in (i + (3 : Int32)) L) (gw_b2 (f_X8_link (xs (i + (1 : Int32)).toNatClampNeg) (xs (i + (2 : Int32)).toNatClampNeg) (xs (i + (3 : Int32)).toNatClampNeg) S) (fun r4 S6 => gw_b2 (f_X9_link (xs (i + (1 : Int32)).toNatClampNeg) (xs (i + (2 : Int32)).toNatClampNeg) (xs (i + (3 : Int32)).toNatClampNeg) M) (fun r7 M9 => K S6 M9)))))
def f_law_c23 (xs : Nat → Int32) (L : Nat) (i : Int32) (K : gw_S → gw_S → Option Int32) (S M : gw_S) : Option Int32 := gw_gd (gw_in (i + (1 : Int32)) L) (gw_b2 (f_X8_swap (xs (i + (1 : Int32)).toNatClampNeg) S) (fun r2 S4 => gw_b2 (f_X9_swap (xs (i + (1 : Int32)).toNatClampNeg) M) (fun r5 M7 => K S4 M7)))
def f_law_c24 (xs : Nat → Int32) (L : Nat) (i : Int32) (K : gw_S → gw_S → Option Int32) (S M : gw_S) : Option Int32 := gw_gd (gw_in (i + (1 : Int32)) L) (gw_gd (gw_in (i + (2 : Int32)) L) (gw_b2 (f_X8_match (xs (i + (1 : Int32)).toNatClampNeg) (xs (i + (2 : Int32)).toNatClampNeg) S) (fun r3 S5 => gw_b2 (f_X9_match (xs (i + (1 : Int32)).toNatClampNeg) (xs (i + (2 : Int32)).toNatClampNeg) M) (fun r6 M8 => K S5 M8))))
def f_law_c25 (xs : Nat → Int32) (L : Nat) (i : Int32) (K : gw_S → gw_S → Option Int32) (S M : gw_S) : Option Int32 := gw_gd (gw_in (i + (1 : Int32)) L) (gw_gd (gw_in (i + (2 : Int32)) L) (gw_gd (gw_in (i + (3 : Int32)) L) (gw_gd (gw_in (i + (4 : Int32)) L) (gw_bd (f_X8_asOf (xs (i + (1 : Int32)).toNatClampNeg) (xs (i + (2 : Int32)).toNatClampNeg) (xs (i + (3 : Int32)).toNatClampNeg) (xs (i + (4 : Int32)).toNatClampNeg) S) (fun r5 => gw_bd (f_X9_asOf (xs (i + (1 : Int32)).toNatClampNeg) (xs (i + (2 : Int32)).toNatClampNeg) (xs (i + (3 : Int32)).toNatClampNeg) (xs (i + (4 : Int32)).toNatClampNeg) M) (fun r7 => K S M))))))
def f_law_c26 (xs : Nat → Int32) (L : Nat) (i : Int32) (K : gw_S → gw_S → Option Int32) (S M : gw_S) : Option Int32 := gw_gd (gw_in (i + (1 : Int32)) L) (gw_gd (gw_in (i + (2 : Int32)) L) (gw_b2 (f_X8_out (xs (i + (1 : Int32)).toNatClampNeg) (xs (i + (2 : Int32)).toNatClampNeg) S) (fun r3 S5 => gw_b2 (f_X9_out (xs (i + (1 : Int32)).toNatClampNeg) (xs (i + (2 : Int32)).toNatClampNeg) M) (fun r6 M8 => K S5 M8))))
def f_law_c27 (xs : Nat → Int32) (L : Nat) (i : Int32) (K : gw_S → gw_S → Option Int32) (S M : gw_S) : Option Int32 := gw_gd (gw_in (i + (1 : Int32)) L) (gw_gd (gw_in (i + (2 : Int32)) L) (gw_gd (gw_in (i + (3 : Int32)) L) (gw_b2 (f_X8_home (xs (i + (1 : Int32)).toNatClampNeg) (xs (i + (2 : Int32)).toNatClampNeg) (xs (i + (3 : Int32)).toNatClampNeg) S) (fun r4 S6 => gw_b2 (f_X9_home (xs (i + (1 : Int32)).toNatClampNeg) (xs (i + (2 : Int32)).toNatClampNeg) (xs (i + (3 : Int32)).toNatClampNeg) M) (fun r7 M9 => K S6 M9)))))
def f_law_c28 (xs : Nat → Int32) (L : Nat) (i : Int32) (K : gw_S → gw_S → Option Int32) (S M : gw_S) : Option Int32 := gw_gd (gw_in (i + (1 : Int32)) L) (gw_gd (gw_in (i + (2 : Int32)) L) (gw_bd (f_X8_about (xs (i + (1 : Int32)).toNatClampNeg) (xs (i + (2 : Int32)).toNatClampNeg) S) (fun r3 => gw_bd (f_X9_about (xs (i + (1 : Int32)).toNatClampNeg) (xs (i + (2 : Int32)).toNatClampNeg) M) (fun r5 => K S M))))
def f_law_c29 (xs : Nat → Int32) (L : Nat) (i : Int32) (K : gw_S → gw_S → Option Int32) (S M : gw_S) : Option Int32 := gw_gd (gw_in (i + (1 : Int32)) L) (gw_b2 (f_X8_retire (xs (i + (1 : Int32)).toNatClampNeg) S) (fun r2 S4 => gw_b2 (f_X9_retire (xs (i + (1 : Int32)).toNatClampNeg) M) (fun r5 M7 => K S4 M7)))
def f_law_c30 (xs : Nat → Int32) (L : Nat) (i : Int32) (K : gw_S → gw_S → Option Int32) (S M : gw_S) : Option Int32 := gw_gd (gw_in (i + (1 : Int32)) L) (gw_bd (f_X8_count (xs (i + (1 : Int32)).toNatClampNeg) S) (fun r2 => gw_bd (f_X9_count (xs (i + (1 : Int32)).toNatClampNeg) M) (fun r4 => K S M)))
def f_law_c31 (xs : Nat → Int32) (L : Nat) (i : Int32) (K : gw_S → gw_S → Option Int32) (S M : gw_S) : Option Int32 := gw_gd (gw_in (i + (1 : Int32)) L) (gw_gd (gw_in (i + (2 : Int32)) L) (gw_gd (gw_in (i + (3 : Int32)) L) (gw_b2 (f_X8_sheet (xs (i + (1 : Int32)).toNatClampNeg) (xs (i + (2 : Int32)).toNatClampNeg) (xs (i + (3 : Int32)).toNatClampNeg) S) (fun r4 S6 => gw_b2 (f_X9_sheet (xs (i + (1 : Int32)).toNatClampNeg) (xs (i + (2 : Int32)).toNatClampNeg) (xs (i + (3 : Int32)).toNatClampNeg) M) (fun r7 M9 => K S6 M9)))))
def f_law_c32 (xs : Nat → Int32) (L : Nat) (i : Int32) (K : gw_S → gw_S → Option Int32) (S M : gw_S) : Option Int32 := gw_gd (gw_in (i + (1 : Int32)) L) (gw_b2 (f_X8_drop (xs (i + (1 : Int32)).toNatClampNeg) S) (fun r2 S4 => gw_b2 (f_X9_drop (xs (i + (1 : Int32)).toNatClampNeg) M) (fun r5 M7 => K S4 M7)))
def f_law_c33 (xs : Nat → Int32) (L : Nat) (i : Int32) (K : gw_S → gw_S → Option Int32) (S M : gw_S) : Option Int32 := gw_gd (gw_in (i + (1 : Int32)) L) (gw_gd (gw_in (i + (2 : Int32)) L) (gw_gd (gw_in (i + (3 : Int32)) L) (gw_gd (gw_in (i + (4 : Int32)) L) (gw_b2 (f_X8_item (xs (i + (1 : Int32)).toNatClampNeg) (xs (i + (2 : Int32)).toNatClampNeg) (xs (i + (3 : Int32)).toNatClampNeg) (xs (i + (4 : Int32)).toNatClampNeg) S) (fun r5 S7 => gw_b2 (f_X9_item (xs (i + (1 : Int32)).toNatClampNeg) (xs (i + (2 : Int32)).toNatClampNeg) (xs (i + (3 : Int32)).toNatClampNeg) (xs (i + (4 : Int32)).toNatClampNeg) M) (fun r8 M10 => K S7 M10))))))
def f_law_c34 (xs : Nat → Int32) (L : Nat) (i : Int32) (K : gw_S → gw_S → Option Int32) (S M : gw_S) : Option Int32 := gw_gd (gw_in (i + (1 : Int32)) L) (gw_gd (gw_in (i + (2 : Int32)) L) (gw_gd (gw_in (i + (3 : Int32)) L) (gw_gd (gw_in (i + (4 : Int32)) L) (gw_b2 (f_X8_books (xs (i + (1 : Int32)).toNatClampNeg) (xs (i + (2 : Int32)).toNatClampNeg) (xs (i + (3 : Int32)).toNatClampNeg) (xs (i + (4 : Int32)).toNatClampNeg) S) (fun r5 S7 => gw_b2 (f_X9_books (xs (i + (1 : Int32)).toNatClampNeg) (xs (i + (2 : Int32)).toNatClampNeg) (xs (i + (3 : Int32)).toNatClampNeg) (xs (i + (4 : Int32)).toNatClampNeg) M) (fun r10 M12 => K S7 M12))))))
def f_law_s (xs : Nat → Int32) (L : Nat) (i k : Int32) (K : gw_S → gw_S → Option Int32) (S M : gw_S) : Option Int32 := (if k = 0 then f_law_c0 xs L i K S M else (if k = 1 then f_law_c1 xs L i K S M else (if k = 2 then f_law_c2 xs L i K S M else (if k = 3 then f_law_c3 xs L i K S M else (if k = 4 then f_law_c4 xs L i K S M else (if k = 5 then f_law_c5 xs L i K S M else (if k = 6 then f_law_c6 xs L i K S M else (if k = 7 then f_law_c7 xs L i K S M else (if k = 8 then f_law_c8 xs L i K S M else (if k = 9 then f_law_c9 xs L i K S M else (if k = 10 then f_law_c10 xs L i K S M else (if k = 11 then f_law_c11 xs L i K S M else (if k = 12 then f_law_c12 xs L i K S M else (if k = 13 then f_law_c13 xs L i K S M else (if k = 14 then f_law_c14 xs L i K S M else (if k = 15 then f_law_c15 xs L i K S M else (if k = 16 then f_law_c16 xs L i K S M else (if k = 17 then f_law_c17 xs L i K S M else (if k = 18 then f_law_c18 xs L i K S M else (if k = 19 then f_law_c19 xs L i K S M else (if k = 20 then f_law_c20 xs L i K S M else (if k = 21 then f_law_c21 xs L i K S M else (if k = 22 then f_law_c22 xs L i K S M else (if k = 23 then f_law_c23 xs L i K S M else (if k = 24 then f_law_c24 xs L i K S M else (if k = 25 then f_law_c25 xs L i K S M else (if k = 26 then f_law_c26 xs L i K S M else (if k = 27 then f_law_c27 xs L i K S M else (if k = 28 then f_law_c28 xs L i K S M else (if k = 29 then f_law_c29 xs L i K S M else (if k = 30 then f_law_c30 xs L i K S M else (if k = 31 then f_law_c31 xs L i K S M else (if k = 32 then f_law_c32 xs L i K S M else (if k = 33 then f_law_c33 xs L i K S M else (if k = 34 then f_law_c34 xs L i K S M else K S M)))))))))))))))))))))))))))))))))))
def f_law (xs : Nat → Int32) (L : Nat) : Nat → Int32 → gw_S → gw_S → Option Int32
  | 0, _, _, _ => none
  | n + 1, i, S, M => if Int32.ofNat L - 7 < i then some 1 else gw_gd (gw_in i L) (gw_let (xs i.toNatClampNeg &&& 63 : Int32) (fun k => f_law_s xs L i k (fun S1 M1 => gw_let (i + 7 : Int32) (fun y => f_law xs L n y S1 M1)) S M))
end
