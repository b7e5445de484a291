/-! the law's own calls: the script stays as it is; its arrays -/
theorem gw_b3E {β : Type} {o : Option (Int32 × gw_S × gw_S)} {k : Int32 → gw_S → gw_S → Option β} {z : β} (h : gw_b3 o k = some z) : ∃ r S M, o = some (r, S, M) ∧ k r S M = some z := by
  cases o with
  | none => cases h
  | some x => exact ⟨x.1, x.2.1, x.2.2, rfl, h⟩
def gw_o2 (cc : Nat → ClassId) (am : Nat → Nat) (M : gw_S) : va_W := [(am 0, .inl (cc 0, 24, .inl (M 0))), (am 1, .inl (cc 0, 40, .inl (M 1)))]
def gw_o3 (cc : Nat → ClassId) (am : Nat → Nat) (M : gw_S) : va_W := [(am 0, .inl (cc 0, 24, .inl (M 0))), (am 1, .inl (cc 0, 40, .inl (M 1))), (am 2, .inl (cc 0, 10, .inl (M 2)))]
def gw_a3 (am : Nat → Nat) (q : Nat) : Nat → Nat := fun k => if k = 2 then q else am k
theorem gw_o3of {D : va_G} {A : Nat → Prop} {H0 H : Heap} {locs : List Loc} {cc : Nat → ClassId} {am a b d : Nat → Nat} {S M : gw_S} {q : Nat} (h : gw_I D A H0 (gw_o2 cc am M ++ gw_cw cc a b d S ++ [(q, .inl (cc 0, 10, .inl (fun _ => 0)))]) H locs) : gw_I D A H0 (gw_o3 cc (gw_a3 am q) (gw_m3 M) ++ gw_cw cc a b d S) H locs := by
  refine gw_perm ?_ h
  have e : gw_o3 cc (gw_a3 am q) (gw_m3 M) = gw_o2 cc am M ++ [(q, .inl (cc 0, 10, .inl (fun _ => 0)))] := rfl
  rw [e, List.append_assoc, List.append_assoc]
  exact List.Perm.append_left _ List.perm_append_comm
theorem gw_two {X : va_W} {cc : Nat → ClassId} (q1 q2 : Nat) : (X ++ [(q1, (.inl (cc 0, 24, .inl (fun _ => 0)) : va_E))] ++ [(q2, (.inl (cc 0, 40, .inl (fun _ => 0)) : va_E))]).Perm (gw_o2 cc (fun k => if k = 0 then q1 else q2) (fun _ _ => 0) ++ X) := by
  rw [List.append_assoc]
  exact List.perm_append_comm
def gw_Xs (b0 L : Nat) (xs : Nat → Int32) (w : va_W) (sz : Nat) (U : State) : Prop := va_X b0 L xs U U.heap ∧ b0 < sz ∧ ¬ va_A w sz b0
def gw_PreX (b0 L : Nat) (xs : Nat → Int32) (D : va_G) (tys : gw_TY) (t1 t2 : Nat) (w : va_W) (sz : Nat) (U : State) : Prop := gw_Pre D tys t1 t2 w sz U ∧ gw_Xs b0 L xs w sz U
def gw_MX (b0 L : Nat) (xs : Nat → Int32) (l : Launch) (y : MethodName) (ws : List Cond) (rm : Room) (mc ms : Nat) (D : va_G) (tys : gw_TY) (t1 t2 : Nat) (av : List Value) (w : va_W) (W' : va_W → Prop) (ov : Option Value) : Prop :=
  ∀ sz : Nat, Met l y ws rm (va_Pc av (gw_PreX b0 L xs D tys t1 t2 w sz)) (gw_Q ov (gw_Pst D (va_A w sz) W') (va_A w sz)) mc ms (va_A w sz)
set_option maxHeartbeats 1000000 in
theorem gw_enterX {b0 L : Nat} {xs : Nat → Int32} {l : Launch} {y : MethodName} {ws ws' : List Cond} {rm : Room} {mc ms : Nat} {D : va_G} {tys : gw_TY} {t1 t2 : Nat} {av : List Value} {w : va_W} {W' : va_W → Prop} {ov : Option Value} {cc : ByteArray} {maxL : Nat} {ret : Option FieldType} {own : String}
    (ho : y.cls = own) (hy : plainName y.cls = true) (hw : ws = Cond.code y cc maxL ret :: ws') (hlen : (lg_sl av).length ≤ maxL)
    (body : ∀ (p : Program) (e : Env) (s : State) (m : MethodId) (below : List Frame) (meth : Method) (c : Code) (A : Nat → Prop), gw_B p s m av.toArray meth c cc maxL ws own ret D tys t1 t2 A → meth.name = y.name → (va_X b0 L xs s s.heap ∧ b0 < s.heap.size ∧ ¬ A b0) → gw_I D A s.heap w s.heap [] → ∀ ls : Array Slot, lv_has ls maxL (lv_args 0 av) →
      W p l e rm s m av.toArray below meth c s.heap [] 0 0 (MQ below (gw_Q ov (gw_Pst D A W') A) av.toArray s mc ms A) (F0 m 0 ls [])) :
    gw_MX b0 L xs l y ws rm mc ms D tys t1 t2 av w W' ov := by
  intro sz
  refine Met.ofW (cc := cc) (maxL := maxL) (ret := ret) hy hw ?_
  intro p e s m args below meth c s₁ B hml hv
  obtain ⟨rfl, ⟨hsz, hP, hK, hD0, hst⟩, hX⟩ := hv
  subst hsz
  subst ho
  rw [lg_entry_eq]
  exact body p e s m below meth c (va_A w s.heap.size) ⟨⟨B.exec, B.bytes, hml, findClass_of_methodNamed B.named, atoms_spec B.pre⟩, ⟨B.returns, B.notSynchronized⟩, hK, hst, fun q h => Or.inr h⟩ (name_of_methodNamed B.named B.method).1 hX ⟨hP, hD0.self, va_S.rf⟩ _ (lv_entry av hlen)
section GWX
variable {p : Program} {l : Launch} {e : Env} {R : Room} {s : State} {m : MethodId} {args : Array Value} {below : List Frame} {meth : Method} {c : Code} {H : Heap} {locs : List Loc} {cells slots : Nat} {Q : State → Prop}
variable {cc : ByteArray} {nL : Nat} {Ts : List Cond} {own : String} {ret : Option FieldType} {D : va_G} {tys : gw_TY} {t1 t2 : Nat} {A : Nat → Prop} {w : va_W} {W' : va_W → Prop} {pc : Nat} {ls : Array Slot} {rest : List Value} {mc ms b0 L : Nat} {xs : Nat → Int32}
theorem gw_blindX {av : List Value} {sz : Nat} : FrameBlind (va_Pc av (gw_PreX b0 L xs D tys t1 t2 w sz)) := fun a U g mk q => by
  obtain ⟨q0, ⟨q1, qP, qK, qD, qs⟩, qX, qb, qA⟩ := q
  exact ⟨q0, ⟨q1, qP, va_K.moved (u := U) (U := U.calling g mk a) (Vm.Alike.refl U.vm) qK, qD, gw_st.moved (u := U) (U := U.calling g mk a) (State.WarmedH.refl U) qs⟩, va_X.moved (u := U) (U := U.calling g mk a) (Vm.Alike.refl U.vm) qX, qb, qA⟩
theorem gw_callSX {v : Value} {y : MethodName} {bytes : ByteArray} {maxL index n : Nat} {retY : Option FieldType} {wsy wsy' : List Cond} {rm : Room} {As : List Value} (hX : va_X b0 L xs s s.heap ∧ b0 < s.heap.size ∧ ¬ A b0) (B : gw_B p s m args meth c cc nL Ts own ret D tys t1 t2 A) (hI : gw_I D A s.heap w H locs)
    (hM : gw_MX b0 L xs l y wsy rm mc ms D tys t1 t2 As w W' (some v)) (hT : GoodIn Ts (va_wsS own index y wsy)) (hw : wsy = Cond.code y bytes maxL retY :: wsy') (hrc : rm.cells = mc) (hrs : rm.slots = ms)
    (hd : y.cls ≠ "java/lang/invoke/MethodHandle" ∧ y.cls ≠ "java/lang/invoke/VarHandle" ∧ (parseMethodDescriptor y.desc).map (fun d => d.parameters.length) = some n) (hR : rm.frames + 1 ≤ R.frames ∧ 8 + (maxL + 11) + rm.locals ≤ R.locals)
    (hn : As.length = n) (hsz : ls.size = nL) (hr8 : (rest.map fun v => v.category).sum ≤ 8) (hdg : decode cc pc = .ok (.invokestatic index, 3)) (hf : cells + mc ≤ R.cells ∧ slots + ms ≤ R.slots)
    {st0 : List Value} (hst0 : st0 = As.reverse ++ rest)
    (kk : ∀ (w' : va_W) (H1 : Heap) (locs1 : List Loc), W' w' → gw_I D A s.heap w' H1 locs1 → W p l e R s m args below meth c H1 locs1 (cells + mc) (slots + ms) Q (F0 m (pc + 3) ls (v :: rest))) : W p l e R s m args below meth c H locs cells slots Q (F0 m pc ls st0) := by
  obtain ⟨C0, -, hK, hst, hA⟩ := B
  have ok : ∀ w ∈ va_wsS own index y wsy, w.before args s = true := fun w h => C0.2.2.2.2 w (hT w h).1
  refine gw_go (ov := some v) (va_runS (As := As) (rest := rest) C0 (hM H.size) ⟨callB_of n C0.2.2.2.2 (fun w h => hT w (by unfold va_wsS; exact List.mem_append_right _ h)) hw hrc hrs (ok _ (by simp [va_wsS])) (ok _ (by simp [va_wsS])) hd hR, ok _ (by simp [va_wsS])⟩ ⟨gw_blindX, fun U hU hW => ⟨rfl, gw_pre hK hst hA hI U hU hW, ?_, Nat.lt_of_lt_of_le hX.2.1 hI.2.2.1, fun h => hX.2.2 (gw_sub hI hA b0 h)⟩⟩ rfl hn hsz hst0 (lv_room hr8) hdg hf) hI hA kk
  have h1 : va_X b0 L xs s H := hX.1.kept (hI.2.2.2.1 b0 hX.2.1 hX.2.2)
  rw [hU]
  exact va_X.moved hW.alike h1
end GWX
