/-! a new booking, a new piece: the cell that came joins the world -/
abbrev gw_okB (S : gw_S) : Prop := (0 ≤ S 29 1 ∧ S 29 1 < 1000) ∧ ∀ i, i < 30 → (S 13 i = -1 ∨ (S 13 i).toNatClampNeg < gw_nb S)
abbrev gw_okP (S : gw_S) : Prop := (0 ≤ S 29 0 ∧ S 29 0 < 1000) ∧ (∀ i, i < 24 → (S 12 i = -1 ∨ (S 12 i).toNatClampNeg < gw_np S)) ∧ ∀ j, j < gw_nb S → (S (2 * j + 31) 8 = -1 ∨ (S (2 * j + 31) 8).toNatClampNeg < gw_np S)
def gw_lst (l : List Int32) : Nat → Int32 := fun i => l.getD i 0
def gw_addB (S : gw_S) (x0 x1 x2 x3 x4 x5 x6 : Int32) : gw_S := fun k => if k = 2 * gw_nb S + 31 then gw_lst [x0, x1, x2, x3, x4, x5, x6, -4, -1, 0, 0, 0, 0, 0] else if k = 29 then upd (S 29) 1 (S 29 1 + 1) else S k
def gw_addP (S : gw_S) (x0 x1 x2 x3 x4 x5 x6 : Int32) : gw_S := fun k => if k = 2 * gw_np S + 30 then gw_lst [x0, x1, x2, x3, x4, x5, x6, 0, 0, 0, -4, 0] else if k = 29 then upd (S 29) 0 (S 29 0 + 1) else S k
theorem gw_inc {x : Int32} (h : 0 ≤ x ∧ x < 1000) : (x + 1).toNatClampNeg = x.toNatClampNeg + 1 := by
  obtain ⟨h1, h2⟩ := h
  rw [Int32.le_iff_toInt_le, Int32.toInt_zero] at h1
  rw [Int32.lt_iff_toInt_lt] at h2
  have e2 : (1000 : Int32).toInt = 1000 := by decide
  rw [e2] at h2
  obtain ⟨j, hj, rfl⟩ := nI_of (x := x) (by rw [Int32.lt_iff_toInt_lt, Int32.toInt_zero]; omega)
  rw [nI_toInt hj] at h2
  rw [nI_1, nI_clamp (by omega), nI_clamp hj]
theorem gw_nn {x : Int32} (h : 0 ≤ x) : ¬ x = -1 := by intro q; subst q; exact absurd h (by decide)
section GWV
variable {cc : Nat → ClassId} {a b d : Nat → Nat} {S S1 : gw_S} {D : va_G} {A : Nat → Prop} {H0 H : Heap} {locs : List Loc} {q : Nat} {x0 x1 x2 x3 x4 x5 x6 : Int32}
theorem gw_cvB (e : S1 = gw_addB S x0 x1 x2 x3 x4 x5 x6) (g : gw_okB S) (hI : gw_I D A H0 (gw_cw cc a b d S ++ [(q, .inr (0, [.int x0, .int x1, .int x2, .int x3, .int x4, .int x5, .int x6, .int (-4), .null, .int 0, .int 0, .int 0, .int 0, .int 0]))]) H locs) : ∃ d1, (Value.ref q = va_rf (gw_rf d1 (S 29 1))) ∧ gw_I D A H0 (gw_cw cc a b d1 S1) H locs := by
  refine ⟨va_up d (gw_nb S) q, ?_, ?_⟩
  · rw [gw_rfP (gw_nn g.1.1)]
    show Value.ref q = .ref (va_up d (gw_nb S) q (gw_nb S))
    simp [va_up]
  · have h13 := gw_setq (g := fun i => gw_rf (va_up d (gw_nb S) q) (S 13 i)) hI (gw_app gc_g13) (fun i hi => by
      rcases g.2 i hi with h | h
      · simp [gw_rf, h]
      · by_cases h1 : S 13 i = -1
        · simp [gw_rf, h1]
        · simp [gw_rf, h1, va_up, Nat.ne_of_lt h])
    have h29 : S1 29 = upd (S 29) 1 (S 29 1 + 1) := by subst e; unfold gw_addB; rw [if_neg (by omega), if_pos rfl]
    have hnp : gw_np S1 = gw_np S := by show (S1 29 0).toNatClampNeg = _; rw [h29]; rfl
    have hnb : gw_nb S1 = gw_nb S + 1 := by
      show (S1 29 1).toNatClampNeg = _
      rw [h29]
      show (S 29 1 + 1).toNatClampNeg = _
      exact gw_inc g.1
    have hfx : ∀ k, k < 29 → S1 k = S k := fun k hk => by subst e; unfold gw_addB; rw [if_neg (by omega), if_neg (by omega)]
    have hpx : ∀ i : Nat, S1 (2 * i + 30) = S (2 * i + 30) := fun i => by subst e; unfold gw_addB; rw [if_neg (by omega), if_neg (by omega)]
    have hbx : ∀ j : Nat, j ≠ gw_nb S → S1 (2 * j + 31) = S (2 * j + 31) := fun j hj => by subst e; unfold gw_addB; rw [if_neg (by omega), if_neg (by omega)]
    have hnew : S1 (2 * gw_nb S + 31) = gw_lst [x0, x1, x2, x3, x4, x5, x6, -4, -1, 0, 0, 0, 0, 0] := by subst e; unfold gw_addB; rw [if_pos rfl]
    have hlist : (gw_cw cc a b d S ++ [(q, (.inr (0, [.int x0, .int x1, .int x2, .int x3, .int x4, .int x5, .int x6, .int (-4), .null, .int 0, .int 0, .int 0, .int 0, .int 0]) : va_E))]).set 13 (a 13, (.inl (cc 4, 30, .inr (.inr (.inr (.inr (fun i => gw_rf (va_up d (gw_nb S) q) (S 13 i)))))) : va_E)) = gw_cw cc a b (va_up d (gw_nb S) q) S1 := by
      have e1 : (gw_fix cc a b d S).set 13 (a 13, .inl (cc 4, 30, .inr (.inr (.inr (.inr (fun i => gw_rf (va_up d (gw_nb S) q) (S 13 i))))))) = gw_fix cc a b (va_up d (gw_nb S) q) S := rfl
      have hl : 13 < (gw_fix cc a b d S).length := (by decide : 13 < 29)
      rw [gw_cw, List.append_assoc, List.set_append_left _ _ hl, e1, gw_cw, gw_fixK hfx]
      congr 1
      rw [gw_pool, gw_pool, hnp, hnb, List.range_succ, List.map_append, List.append_assoc]
      congr 1
      · apply List.map_congr_left
        intro i _
        simp only [gw_pF, hpx i]
      · congr 1
        · apply List.map_congr_left
          intro j hj
          have hj : j < gw_nb S := List.mem_range.mp hj
          simp only [gw_bF, hbx j (Nat.ne_of_lt hj), va_up, if_neg (Nat.ne_of_lt hj)]
        · simp only [List.map_cons, List.map_nil, gw_bF, hnew, va_up, if_pos]
          simp [gw_lst, gw_rf, va_rf]
    rw [hlist] at h13
    exact h13
theorem gw_cvP (e : S1 = gw_addP S x0 x1 x2 x3 x4 x5 x6) (g : gw_okP S) (hI : gw_I D A H0 (gw_cw cc a b d S ++ [(q, .inr (4, [.int x0, .int x1, .int x2, .int x3, .int x4, .int x5, .int x6, .int 0, .int 0, .int 0, .int (-4), .int 0]))]) H locs) : ∃ b1, (Value.ref q = va_rf (gw_rf b1 (S 29 0))) ∧ gw_I D A H0 (gw_cw cc a b1 d S1) H locs := by
  refine ⟨va_up b (gw_np S) q, ?_, ?_⟩
  · rw [gw_rfP (gw_nn g.1.1)]
    show Value.ref q = .ref (va_up b (gw_np S) q (gw_np S))
    simp [va_up]
  · have hrf : ∀ v : Int32, (v = -1 ∨ v.toNatClampNeg < gw_np S) → gw_rf b v = gw_rf (va_up b (gw_np S) q) v := fun v h => by
      rcases h with h | h
      · simp [gw_rf, h]
      · by_cases h1 : v = -1
        · simp [gw_rf, h1]
        · simp [gw_rf, h1, va_up, Nat.ne_of_lt h]
    have h12 := gw_setq (g := fun i => gw_rf (va_up b (gw_np S) q) (S 12 i)) hI (gw_app gc_g12) (fun i hi => hrf _ (g.2.1 i hi))
    have h29 : S1 29 = upd (S 29) 0 (S 29 0 + 1) := by subst e; unfold gw_addP; rw [if_neg (by omega), if_pos rfl]
    have hnb : gw_nb S1 = gw_nb S := by show (S1 29 1).toNatClampNeg = _; rw [h29]; rfl
    have hnp : gw_np S1 = gw_np S + 1 := by
      show (S1 29 0).toNatClampNeg = _
      rw [h29]
      show (S 29 0 + 1).toNatClampNeg = _
      exact gw_inc g.1
    have hfx : ∀ k, k < 29 → S1 k = S k := fun k hk => by subst e; unfold gw_addP; rw [if_neg (by omega), if_neg (by omega)]
    have hbx : ∀ i : Nat, S1 (2 * i + 31) = S (2 * i + 31) := fun i => by subst e; unfold gw_addP; rw [if_neg (by omega), if_neg (by omega)]
    have hpx : ∀ j : Nat, j ≠ gw_np S → S1 (2 * j + 30) = S (2 * j + 30) := fun j hj => by subst e; unfold gw_addP; rw [if_neg (by omega), if_neg (by omega)]
    have hnew : S1 (2 * gw_np S + 30) = gw_lst [x0, x1, x2, x3, x4, x5, x6, 0, 0, 0, -4, 0] := by subst e; unfold gw_addP; rw [if_pos rfl]
    have hlist : ((gw_cw cc a b d S ++ [(q, (.inr (4, [.int x0, .int x1, .int x2, .int x3, .int x4, .int x5, .int x6, .int 0, .int 0, .int 0, .int (-4), .int 0]) : va_E))]).set 12 (a 12, .inl (cc 3, 24, .inr (.inr (.inr (.inr (fun i => gw_rf (va_up b (gw_np S) q) (S 12 i)))))))).Perm (gw_cw cc a (va_up b (gw_np S) q) d S1) := by
      have e1 : (gw_fix cc a b d S).set 12 (a 12, .inl (cc 3, 24, .inr (.inr (.inr (.inr (fun i => gw_rf (va_up b (gw_np S) q) (S 12 i))))))) = gw_fix cc a (va_up b (gw_np S) q) d S := rfl
      have hl : 12 < (gw_fix cc a b d S).length := (by decide : 12 < 29)
      rw [gw_cw, List.append_assoc, List.set_append_left _ _ hl, e1, gw_cw, gw_fixK hfx]
      refine List.Perm.append_left _ ?_
      rw [gw_pool, gw_pool, hnp, hnb, List.range_succ, List.map_append, List.append_assoc, List.append_assoc]
      have ep : (List.range (gw_np S)).map (fun i => ((va_up b (gw_np S) q) i, (Sum.inr (4, gw_pF S1 i) : va_E))) = (List.range (gw_np S)).map (fun i => (b i, (Sum.inr (4, gw_pF S i) : va_E))) := by
        apply List.map_congr_left
        intro j hj
        have hj : j < gw_np S := List.mem_range.mp hj
        simp only [gw_pF, hpx j (Nat.ne_of_lt hj), va_up, if_neg (Nat.ne_of_lt hj)]
      have eb : (List.range (gw_nb S)).map (fun j => (d j, (Sum.inr (0, gw_bF (va_up b (gw_np S) q) S1 j) : va_E))) = (List.range (gw_nb S)).map (fun j => (d j, (Sum.inr (0, gw_bF b S j) : va_E))) := by
        apply List.map_congr_left
        intro j hj
        have hj : j < gw_nb S := List.mem_range.mp hj
        simp only [gw_bF, hbx j, hrf _ (g.2.2 j hj)]
      have en : [gw_np S].map (fun i => ((va_up b (gw_np S) q) i, (Sum.inr (4, gw_pF S1 i) : va_E))) = [(q, Sum.inr (4, [.int x0, .int x1, .int x2, .int x3, .int x4, .int x5, .int x6, .int 0, .int 0, .int 0, .int (-4), .int 0]))] := by
        simp only [List.map_cons, List.map_nil, gw_pF, hnew, va_up, if_pos]
        simp [gw_lst]
      rw [ep, eb, en]
      exact List.Perm.append_left _ List.perm_append_comm
    exact gw_perm hlist h12
theorem gc_sr12 {i : Nat} {v : Int32} (hv : ¬ v = -1) (h : S1 = gw_up S 12 i v) : (gw_cw cc a b d S).set 12 (a 12, .inl (cc 3, 24, .inr (.inr (.inr (.inr (va_up (fun j => gw_rf b (S 12 j)) i (some (b v.toNatClampNeg)))))))) = gw_cw cc a b d S1 := by
  subst h
  have e : (fun j => gw_rf b (gw_up S 12 i v 12 j)) = va_up (fun j => gw_rf b (S 12 j)) i (some (b v.toNatClampNeg)) := by
    funext j
    simp only [gw_upE, upd, va_up]
    by_cases hj : j = i
    · simp [hj, gw_rf, hv]
    · simp [hj]
  rw [← e]
  exact gw_fixset (by decide) rfl
theorem gc_sr13 {i : Nat} {v : Int32} (hv : ¬ v = -1) (h : S1 = gw_up S 13 i v) : (gw_cw cc a b d S).set 13 (a 13, .inl (cc 4, 30, .inr (.inr (.inr (.inr (va_up (fun j => gw_rf d (S 13 j)) i (some (d v.toNatClampNeg)))))))) = gw_cw cc a b d S1 := by
  subst h
  have e : (fun j => gw_rf d (gw_up S 13 i v 13 j)) = va_up (fun j => gw_rf d (S 13 j)) i (some (d v.toNatClampNeg)) := by
    funext j
    simp only [gw_upE, upd, va_up]
    by_cases hj : j = i
    · simp [hj, gw_rf, hv]
    · simp [hj]
  rw [← e]
  exact gw_fixset (by decide) rfl
end GWV
