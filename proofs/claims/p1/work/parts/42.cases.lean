section Z3
variable {x1 x2 x3 x4 x5 x6 : Int32} {S M : gw_S}
def gw_wp {α : Type} (o : Option α) (P : α → Prop) : Prop := ∃ x, o = some x ∧ P x
theorem gw_wpS {α : Type} {x : α} {P : α → Prop} (h : P x) : gw_wp (some x) P := ⟨x, rfl, h⟩
theorem gw_wpB {α β : Type} {o : Option α} {Q : α → Prop} {k : α → Option β} {P : β → Prop} (h : gw_wp o Q) (hk : ∀ x, Q x → gw_wp (k x) P) : gw_wp (gw_bd o k) P := by
  obtain ⟨x, rfl, hx⟩ := h; exact hk x hx
/-- term -/
theorem ze_place (hL : ∀ i, i < 8 → gw_LET i = M 1 i) (v : Int32) : ∀ k, k ≤ 8 → ∀ n, k < n → ∃ r, f_X7_placeOf_b2 S n v (nI (8 - k)) = some r ∧ f_X9_termOf_b2 M n v (nI (8 - k)) = some r ∧ (r = -1 ∨ ∃ j, j < 8 ∧ r = nI j)
  | 0, _, n + 1, _ => ⟨-1, by rw [f_X7_placeOf_b2, if_pos (by decide)], by rw [f_X9_termOf_b2, if_pos (by decide)], Or.inl rfl⟩
  | k + 1, hk, n + 1, hn => by
    have hj : 8 - (k + 1) < 8 := by omega
    have hg : gw_in (nI (8 - (k + 1))) 8 := ps_gin (by rw [nI_toInt (by omega)]; omega)
    have e1 : nI (8 - (k + 1)) + (1 : Int32) = nI (8 - k) := by rw [nI_1]; congr 1; omega
    rw [f_X7_placeOf_b2, f_X9_termOf_b2, if_neg (show ¬ (8 : Int32) ≤ nI (8 - (k + 1)) from pn_le (n := 8) hj (by omega)), if_neg (show ¬ (8 : Int32) ≤ nI (8 - (k + 1)) from pn_le (n := 8) hj (by omega)), gw_gdT hg, gw_gdT hg, nI_clamp (by omega), hL _ hj]
    by_cases h : M 1 (8 - (k + 1)) = v
    · rw [if_pos h, if_pos h]; exact ⟨_, rfl, rfl, Or.inr ⟨_, hj, rfl⟩⟩
    · rw [if_neg h, if_neg h, gw_letS, gw_letS, e1]
      exact ze_place hL v k (by omega) n (by omega)
theorem ps_at {j : Nat} (h : j < 8) : f_X7_at (nI j) S = some (S 5 j) := by
  unfold f_X7_at
  rw [if_neg (pn_n0 (by omega)), if_neg (show ¬ (8 : Int32) ≤ nI j from pn_le (n := 8) h (by omega)), gw_gdT (ps_gin (by rw [nI_toInt (by omega)]; omega)), nI_clamp (by omega)]
theorem pn_p0 {j : Nat} (h : j < 2 ^ 31) : 0 ≤ nI j := by rw [Int32.le_iff_toInt_le, nI_toInt h, Int32.toInt_zero]; omega
theorem ze_term : ∃ r, f_X8_term x1 z_S = some r ∧ f_X9_term x1 gw_zM = some r := by
  unfold f_X8_term f_X9_term f_X7_placeOf f_X9_termOf
  obtain ⟨r, h1, h2, h3⟩ := ze_place (S := z_S) z_c x1 8 (Nat.le_refl 8) gw_F (by decide)
  rw [show nI (8 - 8) = (0 : Int32) from rfl] at h1 h2
  rw [h1, h2, gw_bdS, gw_bdS]
  rcases h3 with rfl | ⟨j, hj, rfl⟩
  · rw [if_neg (by decide), if_neg (by decide)]; exact ⟨_, rfl, rfl⟩
  · rw [if_pos (pn_p0 (by omega)), if_pos (pn_p0 (by omega)), ps_at hj, gw_bdS, gw_gdT (ps_gin (by rw [nI_toInt (by omega)]; omega)), nI_clamp (by omega)]; exact ⟨_, rfl, congrArg some (z_b j hj).symm⟩
/-- post -/
theorem p_mul9 : ∀ i, i ≤ 8 → ∀ j, j ≤ 8 → nI i * 9 + nI j = nI (9 * i + j) ∧ 9 * nI i + nI j = nI (9 * i + j) := by decide +kernel
theorem pi_in {j n : Nat} (h : j < n) (hn : n < 2 ^ 31) : gw_in (nI j) n := ps_gin (by rw [nI_toInt (by omega)]; omega)
theorem ps_setPost {i j : Nat} (hi : i ≤ 8) (hj : j ≤ 8) : ∃ S1, f_X2_setPost (nI i) (nI j) x3 S = some S1 := by
  unfold f_X2_setPost
  rw [ps_isTown, ps_br, if_pos (by rw [nI_toInt (by omega)]; omega), ps_isTown, ps_br, if_pos (by rw [nI_toInt (by omega)]; omega), (p_mul9 i hi j hj).1, (p_mul9 j hj i hi).1, gw_gdT (pi_in (by omega) (by omega)), gw_letS, gw_gdT (pi_in (by omega) (by omega)), gw_letS]
  exact ⟨_, rfl⟩
theorem ps_postB {i j : Nat} (hi : i ≤ 8) (hj : j ≤ 8) : f_X2_postBetween (nI i) (nI j) S = some (S 11 (9 * i + j)) := by
  unfold f_X2_postBetween
  rw [(p_mul9 i hi j hj).1, gw_letS, if_neg (pn_n0 (by omega)), if_neg (show ¬ (81 : Int32) ≤ nI (9 * i + j) from pn_le (n := 81) (by omega) (by omega)), gw_gdT (pi_in (by omega) (by omega)), nI_clamp (by omega)]
theorem ze_post : ∃ r S1 M1, f_X8_post x1 x2 x3 z_S = some (r, S1) ∧ f_X9_post x1 x2 x3 gw_zM = some (r, M1) := by
  unfold f_X8_post f_X9_post
  rw [ps_isTown, ps_br, pm_isTown, ps_br, ps_isTown, ps_br, pm_isTown, ps_br, ps_isIn, ps_br, ps_in, ps_br, pz_0, pz_9, pq_0, pq_9]
  by_cases h1 : 0 ≤ x1.toInt ∧ x1.toInt ≤ 8
  · rw [if_pos h1, if_pos h1]
    by_cases h2 : 0 ≤ x2.toInt ∧ x2.toInt ≤ 8
    · rw [if_pos h2, if_pos h2]
      by_cases h3 : x1 = x2
      · rw [if_pos h3, if_pos h3]; exact ⟨_, _, _, rfl, rfl⟩
      · rw [if_neg h3, if_neg h3]
        by_cases h4 : 0 ≤ x3.toInt ∧ x3.toInt ≤ 9
        · rw [if_pos h4, if_pos h4]
          obtain ⟨i, hi, rfl⟩ := ps_nI (n := 8) h1 (by omega)
          obtain ⟨j, hj, rfl⟩ := ps_nI (n := 8) h2 (by omega)
          obtain ⟨S1, hS⟩ := ps_setPost (S := z_S) (x3 := x3) hi hj
          rw [ps_postB hi hj, gw_bdS, hS, gw_bdS, (p_mul9 i hi j hj).2, (p_mul9 j hj i hi).2, gw_gdT (pi_in (by omega) (by omega)), gw_letS, gw_letS, gw_gdT (pi_in (by omega) (by omega)), gw_letS, nI_clamp (by omega)]
          exact zx rfl rfl (z_d _ (by omega)).symm
        · rw [if_neg h4, if_neg h4]; exact ⟨_, _, _, rfl, rfl⟩
    · rw [if_neg h2, if_neg h2]; exact ⟨_, _, _, rfl, rfl⟩
  · rw [if_neg h1, if_neg h1]; exact ⟨_, _, _, rfl, rfl⟩
end Z3
section Z4
variable {x1 x2 x3 x4 x5 x6 : Int32} {S M : gw_S}
theorem p0_7 {i : Nat} {v : Int32} : gw_up S 7 i v 0 = S 0 := rfl
theorem p0_8 {i : Nat} {v : Int32} : gw_up S 8 i v 0 = S 0 := rfl
theorem p0_9 {i : Nat} {v : Int32} : gw_up S 9 i v 0 = S 0 := rfl
theorem p0_10 {i : Nat} {v : Int32} : gw_up S 10 i v 0 = S 0 := rfl
theorem p0_11 {i : Nat} {v : Int32} : gw_up S 11 i v 0 = S 0 := rfl
theorem p0_12 {i : Nat} {v : Int32} : gw_up S 12 i v 0 = S 0 := rfl
theorem p0_13 {i : Nat} {v : Int32} : gw_up S 13 i v 0 = S 0 := rfl
theorem p0_25 {i : Nat} {v : Int32} : gw_up S 25 i v 0 = S 0 := rfl
theorem p0_26 {i : Nat} {v : Int32} : gw_up S 26 i v 0 = S 0 := rfl
theorem p0_27 {i : Nat} {v : Int32} : gw_up S 27 i v 0 = S 0 := rfl
theorem p0_28 {i : Nat} {v : Int32} : gw_up S 28 i v 0 = S 0 := rfl
theorem p0_29 {i : Nat} {v : Int32} : gw_up S 29 i v 0 = S 0 := rfl
theorem p0_30 {i : Nat} {v : Int32} : gw_up S 30 i v 0 = S 0 := rfl
theorem p0_31 {i : Nat} {v : Int32} : gw_up S 31 i v 0 = S 0 := rfl
theorem p0_32 {i : Nat} {v : Int32} : gw_up S 32 i v 0 = S 0 := rfl
/-- a gown, a long gown, a suit: the first piece -/
theorem ps_keep {x : Int32} (h36 : S 3 6 = 0) (hx : x = 0) (hnp : 0 < gw_np S) : ∃ S1, f_X2_keep x S = some (0, S1) := by
  subst hx
  unfold f_X2_keep
  have e0 : (0 : Int32).toNatClampNeg = 0 := by decide
  rw [if_pos (by rw [h36]; decide), gw_gdT (by decide), e0, gw_gdT hnp, gw_letS, gw_gdT (by simpa [gw_np, gw_up] using hnp), gw_gdT (show gw_in (gw_up S (2 * 0 + 30) 7 (S 3 6) 3 6) 24 by rw [show gw_up S (2 * 0 + 30) 7 (S 3 6) 3 6 = S 3 6 from rfl, h36]; decide), gw_letS, gw_letS, gw_gdT (by simpa [gw_np, gw_up] using hnp)]
  exact ⟨_, congrArg (fun z => some (z, _)) h36⟩
set_option maxRecDepth 100000 in
theorem z_okP : gw_okP z_S := by decide +kernel
set_option maxRecDepth 100000 in
theorem z_okB : gw_okB z_S := by decide +kernel
theorem z_29 : z_S 29 0 = 0 ∧ z_S 29 1 = 0 := by decide +kernel
theorem ze_add {k : Int32} : ∃ r S1 M1, f_X8_addPiece k x1 x2 x3 x4 x5 x6 z_S = some (r, S1) ∧ f_X9_add k x1 x2 x3 x4 x5 x6 gw_zM = some (r, M1) := by
  unfold f_X8_addPiece f_X9_add
  rw [ps_isMaker, ps_br, pm_isMaker, ps_br, ps_isLabel, ps_br, pm_isLabel, ps_br, ps_isIn, ps_br, ps_in, ps_br, ps_isTown, ps_br, pm_isTown, ps_br, ps_isIn, ps_br, ps_in, ps_br, ps_isIn, ps_br, ps_in, ps_br, pz_0, pz_1, pz_9, pz_9999, pz_99, pq_0, pq_1, pq_9, pq_9999, pq_99]
  by_cases h1 : 0 ≤ x1.toInt ∧ x1.toInt ≤ 5
  · rw [if_pos h1, if_pos h1]
    by_cases h2 : 1 ≤ x2.toInt ∧ x2.toInt ≤ 40
    · rw [if_pos h2, if_pos h2]
      by_cases h3 : 0 ≤ x3.toInt ∧ x3.toInt ≤ 9
      · rw [if_pos h3, if_pos h3]
        by_cases h4 : 0 ≤ x4.toInt ∧ x4.toInt ≤ 8
        · rw [if_pos h4, if_pos h4]
          by_cases h5 : 1 ≤ x5.toInt ∧ x5.toInt ≤ 9999
          · rw [if_pos h5, if_pos h5]
            by_cases h6 : 1 ≤ x6.toInt ∧ x6.toInt ≤ 99
            · rw [if_pos h6, if_pos h6, if_pos (show z_S 3 6 < 24 by rw [z_a.1]; decide), gw_gdT z_okP, gw_letS]
              obtain ⟨S1, hS1⟩ := ps_keep (S := gw_addP z_S k x1 x2 x3 x4 x5 x6) (x := z_S 29 0) z_a.1 z_29.1 (by
                show 0 < (z_S 29 0 + 1).toNatClampNeg
                rw [z_29.1]; decide)
              rw [hS1, gw_b2S]
              have h8 := z_m.2.1
              rw [if_neg (show ¬ gw_zM 0 8 = 24 by rw [h8]; decide), gw_gdT (by rw [h8]; decide), gw_letS]
              rw [gw_gdT (by rw [p0_7, h8]; decide), gw_letS, gw_gdT (by rw [p0_8, p0_7, h8]; decide), gw_letS, gw_gdT (by rw [p0_9, p0_8, p0_7, h8]; decide), gw_letS, gw_gdT (by rw [p0_10, p0_9, p0_8, p0_7, h8]; decide), gw_letS, gw_gdT (by rw [p0_11, p0_10, p0_9, p0_8, p0_7, h8]; decide), gw_letS, gw_gdT (by rw [p0_12, p0_11, p0_10, p0_9, p0_8, p0_7, h8]; decide), gw_letS, gw_letS]
              refine zx rfl rfl ?_
              show gw_zM 0 8 + 1 - 1 = 0
              rw [h8]; decide
            · rw [if_neg h6, if_neg h6]; exact ⟨_, _, _, rfl, rfl⟩
          · rw [if_neg h5, if_neg h5]; exact ⟨_, _, _, rfl, rfl⟩
        · rw [if_neg h4, if_neg h4]; exact ⟨_, _, _, rfl, rfl⟩
      · rw [if_neg h3, if_neg h3]; exact ⟨_, _, _, rfl, rfl⟩
    · rw [if_neg h2, if_neg h2]; exact ⟨_, _, _, rfl, rfl⟩
  · rw [if_neg h1, if_neg h1]; exact ⟨_, _, _, rfl, rfl⟩
theorem zl_b2 {f1 f2 : Option (Int32 × gw_S)} (h : ∃ r S1 M1, f1 = some (r, S1) ∧ f2 = some (r, M1)) : ∃ r S1 M1, gw_b2 f1 (fun r S => some (r, S)) = some (r, S1) ∧ gw_b2 f2 (fun r S => some (r, S)) = some (r, M1) := by
  obtain ⟨r, S1, M1, rfl, rfl⟩ := h
  exact ⟨r, S1, M1, rfl, rfl⟩
theorem ze_gown : ∃ r S1 M1, f_X8_gown x1 x2 x3 x4 x5 x6 z_S = some (r, S1) ∧ f_X9_gown x1 x2 x3 x4 x5 x6 gw_zM = some (r, M1) := zl_b2 ze_add
theorem ze_longGown : ∃ r S1 M1, f_X8_longGown x1 x2 x3 x4 x5 x6 z_S = some (r, S1) ∧ f_X9_longGown x1 x2 x3 x4 x5 x6 gw_zM = some (r, M1) := zl_b2 ze_add
theorem ze_suit : ∃ r S1 M1, f_X8_suit x1 x2 x3 x4 x5 x6 z_S = some (r, S1) ∧ f_X9_suit x1 x2 x3 x4 x5 x6 gw_zM = some (r, M1) := zl_b2 ze_add
/-- a booking -/
theorem ps_room {n : Int32} (h : S 3 7 = 0) : f_X2_hasRoomForBookings 1 S = some 1 := by
  unfold f_X2_hasRoomForBookings
  rw [h, if_neg (by decide)]
theorem ps_isB : f_X8_isBookingAsTold x1 x2 x3 x4 x5 x6 S = some (if (1 ≤ x1.toInt ∧ x1.toInt ≤ 40) ∧ (0 ≤ x2.toInt ∧ x2.toInt ≤ 2) ∧ (20 ≤ x3.toInt ∧ x3.toInt ≤ 380) ∧ (0 ≤ x4.toInt ∧ x4.toInt ≤ 8) ∧ (0 ≤ x5.toInt ∧ x5.toInt ≤ 399) ∧ (-1 ≤ x6.toInt ∧ x6.toInt ≤ 4) then 1 else 0) := by
  unfold f_X8_isBookingAsTold
  rw [ps_isLabel, ps_br, ps_isIn, ps_br, ps_isIn, ps_br, ps_isTown, ps_br, ps_isDay, ps_br, ps_isIn, ps_br, pz_0, pz_2, pz_20, pz_380, pz_m1, pz_4]
  by_cases h1 : 1 ≤ x1.toInt ∧ x1.toInt ≤ 40 <;> by_cases h2 : 0 ≤ x2.toInt ∧ x2.toInt ≤ 2 <;> by_cases h3 : 20 ≤ x3.toInt ∧ x3.toInt ≤ 380 <;> by_cases h4 : 0 ≤ x4.toInt ∧ x4.toInt ≤ 8 <;> by_cases h5 : 0 ≤ x5.toInt ∧ x5.toInt ≤ 399 <;> by_cases h6 : -1 ≤ x6.toInt ∧ x6.toInt ≤ 4 <;> simp only [h1, h2, h3, h4, h5, h6, if_true, if_false, and_true, true_and, and_false, false_and, and_self, ite_true, ite_false]
theorem pm_isB : f_X9_isBooking x1 x2 x3 x4 x5 x6 S = some (if (1 ≤ x1.toInt ∧ x1.toInt ≤ 40) ∧ (0 ≤ x2.toInt ∧ x2.toInt ≤ 2) ∧ (20 ≤ x3.toInt ∧ x3.toInt ≤ 380) ∧ (0 ≤ x4.toInt ∧ x4.toInt ≤ 8) ∧ (0 ≤ x5.toInt ∧ x5.toInt ≤ 399) ∧ (-1 ≤ x6.toInt ∧ x6.toInt ≤ 4) then 1 else 0) := by
  unfold f_X9_isBooking
  rw [ps_in, ps_br, ps_in, ps_br, ps_in, ps_br, pm_isTown, ps_br, ps_in, ps_br, ps_in, ps_br, pq_1, pq_40, pq_0, pq_2, pq_20, pq_380, pq_399, pq_m1, pq_4]
  by_cases h1 : 1 ≤ x1.toInt ∧ x1.toInt ≤ 40 <;> by_cases h2 : 0 ≤ x2.toInt ∧ x2.toInt ≤ 2 <;> by_cases h3 : 20 ≤ x3.toInt ∧ x3.toInt ≤ 380 <;> by_cases h4 : 0 ≤ x4.toInt ∧ x4.toInt ≤ 8 <;> by_cases h5 : 0 ≤ x5.toInt ∧ x5.toInt ≤ 399 <;> by_cases h6 : -1 ≤ x6.toInt ∧ x6.toInt ≤ 4 <;> simp only [h1, h2, h3, h4, h5, h6, if_true, if_false, and_true, true_and, and_false, false_and, and_self, ite_true, ite_false]
theorem ze_book : ∃ r S1 M1, f_X8_book x1 x2 x3 x4 x5 x6 z_S = some (r, S1) ∧ f_X9_book x1 x2 x3 x4 x5 x6 gw_zM = some (r, M1) := by
  unfold f_X8_book f_X9_book
  rw [ps_isB, ps_br, pm_isB, ps_br]
  split
  · rw [ps_room (n := 0) z_a.2.1, gw_bdS, if_neg (by decide)]
    unfold f_X2_addBooking
    rw [ps_room (n := 0) z_a.2.1, gw_bdS, if_neg (by decide), gw_gdT z_okB, gw_letS, gw_gdT (by rw [z_29.2]; decide), gw_gdT (by rw [z_29.2]; show 0 < (z_S 29 1 + 1).toNatClampNeg; rw [z_29.2]; decide), gw_gdT (by rw [z_a.2.1]; decide), gw_letS, gw_letS, gw_bdS]
    have h8 := z_m.2.2.1
    rw [if_neg (show ¬ gw_zM 0 29 = 30 by rw [h8]; decide)]
    unfold f_X9_addBooking
    rw [gw_gdT (by rw [h8]; decide), gw_letS, gw_gdT (by rw [p0_25, h8]; decide), gw_letS, gw_gdT (by rw [p0_26, p0_25, h8]; decide), gw_letS, gw_gdT (by rw [p0_27, p0_26, p0_25, h8]; decide), gw_letS, gw_gdT (by rw [p0_28, p0_27, p0_26, p0_25, h8]; decide), gw_letS, gw_gdT (by rw [p0_29, p0_28, p0_27, p0_26, p0_25, h8]; decide), gw_letS, gw_gdT (by rw [p0_30, p0_29, p0_28, p0_27, p0_26, p0_25, h8]; decide), gw_letS, gw_gdT (by rw [p0_31, p0_30, p0_29, p0_28, p0_27, p0_26, p0_25, h8]; decide), gw_letS, gw_letS, gw_bdS]
    refine zx rfl rfl ?_
    show gw_zM 0 29 + 1 - 1 = z_S 3 7 + 1 - 1
    rw [h8, z_a.2.1]
  · exact ⟨_, _, _, rfl, rfl⟩
end Z4
section Z5
variable {x1 x2 x3 x4 x5 x6 : Int32} {S M : gw_S}
theorem ze_match : ∃ r S1 M1, f_X8_match x1 x2 z_S = some (r, S1) ∧ f_X9_match x1 x2 gw_zM = some (r, M1) := by
  have e1 : f_X2_membersOf x1 z_S = some 0 := by
    unfold f_X2_membersOf
    show f_X2_membersOf_b4 z_S (3999 + 1) x1 0 0 = some 0
    rw [f_X2_membersOf_b4, z_a.2.1, if_pos (by decide)]
  have e2 : f_X9_match_b31 gw_F x1 x2 0 0 gw_zM = some (-4, gw_zM) := by
    show f_X9_match_b31 (3999 + 1) x1 x2 0 0 gw_zM = some (-4, gw_zM)
    rw [f_X9_match_b31, z_m.2.2.1, if_pos (by decide), if_pos rfl]
  unfold f_X8_match f_X9_match
  rw [ps_isIn, ps_br, ps_in, ps_br, ps_isIn, ps_br, ps_in, ps_br, e1, gw_bdS, if_pos rfl, e2, pz_0, pz_4, pz_2, pq_0, pq_4, pq_2]
  split
  · split
    · exact zx rfl rfl rfl
    · exact zx rfl rfl rfl
  · exact zx rfl rfl rfl
theorem ze_asOf : ∃ r, f_X8_asOf x1 x2 x3 x4 z_S = some r ∧ f_X9_asOf x1 x2 x3 x4 gw_zM = some r := by
  have e1 : ∀ a b c, f_X2_knownOn a b c z_S = some 0 := by
    intro a b c
    unfold f_X2_knownOn
    show f_X2_knownOn_b6 z_S (3999 + 1) a b c 0 0 = some 0
    rw [f_X2_knownOn_b6, z_a.2.1, if_pos (by decide)]
  have e2 : f_X9_asOf_b30 gw_zM gw_F x1 x2 x3 x4 0 0 = some 0 := by
    show f_X9_asOf_b30 gw_zM (3999 + 1) x1 x2 x3 x4 0 0 = some 0
    rw [f_X9_asOf_b30, z_m.2.2.1, if_pos (by decide)]
  unfold f_X8_asOf f_X9_asOf
  rw [ps_isDay, ps_br, ps_in, ps_br, ps_isIn, ps_br, ps_in, ps_br, e1, gw_bdS, e1, gw_bdS, e2, pz_0, pz_1, pq_0, pq_1, pq_399]
  split
  · split
    · split
      · exact ⟨_, rfl, rfl⟩
      · exact ⟨_, rfl, rfl⟩
    · exact ⟨_, rfl, rfl⟩
  · exact ⟨_, rfl, rfl⟩
theorem ze_count : ∃ r, f_X8_count x1 z_S = some r ∧ f_X9_count x1 gw_zM = some r := by
  have e1 : f_X8_count_b56 z_S x1 = some 0 := by
    unfold f_X8_count_b56 f_X2_tallyPieces
    show gw_bd (f_X2_tallyPieces_b4 z_S (3999 + 1) x1 0 0) _ = some 0
    rw [f_X2_tallyPieces_b4, z_a.1, if_pos (by decide)]; rfl
  have e2 : f_X8_count_b84 z_S x1 = some 0 := by
    unfold f_X8_count_b84 f_X2_tallyBookings
    show gw_bd (f_X2_tallyBookings_b4 z_S (3999 + 1) x1 0 0) _ = some 0
    rw [f_X2_tallyBookings_b4, z_a.2.1, if_pos (by decide)]; rfl
  have e3 : f_X9_count_b53 gw_zM x1 0 = some 0 := by
    unfold f_X9_count_b53
    show f_X9_count_b55 gw_zM (3999 + 1) x1 0 0 = some 0
    rw [f_X9_count_b55, z_m.2.1, if_pos (by decide)]
  have e4 : f_X9_count_b129 gw_zM x1 0 = some 0 := by
    unfold f_X9_count_b129
    show f_X9_count_b131 gw_zM (3999 + 1) x1 0 0 = some 0
    rw [f_X9_count_b131, z_m.2.2.1, if_pos (by decide)]
  unfold f_X8_count f_X9_count
  rw [e1, e2, e3, e4, z_a.1, z_a.2.1, z_a.2.2.2.1, z_m.2.1, z_m.2.2.1, z_m.2.2.2.1]
  have e : ∀ o : Option Int32, o.isSome = true → ∃ r, o = some r ∧ o = some r := fun o h => by
    cases o with
    | none => cases h
    | some y => exact ⟨y, rfl, rfl⟩
  apply e
  repeat' split
  all_goals rfl
theorem pm_isSheet : f_X9_isSheet x1 x2 S = some (if (0 ≤ x1.toInt ∧ x1.toInt ≤ 3) ∧ (0 ≤ x2.toInt ∧ x2.toInt ≤ 2) then 1 else 0) := by
  unfold f_X9_isSheet
  rw [ps_in, ps_br, ps_in, ps_br, pq_0, pq_3, pq_2]
  by_cases h1 : 0 ≤ x1.toInt ∧ x1.toInt ≤ 3 <;> by_cases h2 : 0 ≤ x2.toInt ∧ x2.toInt ≤ 2 <;> simp only [h1, h2, if_true, if_false, and_true, true_and, and_false, false_and, and_self, ite_true, ite_false]
theorem z_sh : ∀ j, j ≤ 3 → z_S (21 + j) 1 = 0 ∧ gw_zM 43 j = -1 := by decide +kernel
theorem ps_ref {j : Nat} (hj : j ≤ 3) : f_X5_refusalAs (nI j) x2 z_S = some (-11) := by
  unfold f_X5_refusalAs
  rw [gw_gdT (show (nI j).toNatClampNeg < 4 by rw [nI_clamp (by omega)]; omega), nI_clamp (by omega), if_pos (z_sh j hj).1]
theorem pm_ag {j : Nat} (hj : j ≤ 3) (h2 : 0 ≤ x2.toInt ∧ x2.toInt ≤ 2) : f_X9_against (nI j) x2 x3 x4 gw_zM = some (-11) := by
  unfold f_X9_against
  rw [gw_gdT (pi_in (by omega) (by omega)), nI_clamp (by omega), (z_sh j hj).2, if_neg (by rintro rfl; exact absurd h2.1 (by decide)), if_neg (by decide)]
theorem ze_item : ∃ r S1 M1, f_X8_item x1 x2 x3 x4 z_S = some (r, S1) ∧ f_X9_item x1 x2 x3 x4 gw_zM = some (r, M1) := by
  unfold f_X8_item f_X9_item
  rw [ps_isSheet, ps_br, ps_isLane, ps_br, pm_isSheet, ps_br]
  by_cases h1 : 0 ≤ x1.toInt ∧ x1.toInt ≤ 3
  · by_cases h2 : 0 ≤ x2.toInt ∧ x2.toInt ≤ 2
    · rw [if_pos h1, if_pos h2, if_pos ⟨h1, h2⟩]
      obtain ⟨j, hj, rfl⟩ := ps_nI (n := 3) h1 (by omega)
      rw [gw_gdT (pi_in (by omega) (by omega)), gw_gdT (show (nI j).toNatClampNeg < 4 by rw [nI_clamp (by omega)]; omega), ps_ref hj, gw_bdS, if_neg (by decide), pm_ag hj h2, gw_bdS, if_neg (by decide)]
      exact zx rfl rfl rfl
    · rw [if_pos h1, if_neg h2, if_neg (fun h => h2 h.2)]; exact zx rfl rfl rfl
  · rw [if_neg h1, if_neg (fun h => h1 h.1)]; exact zx rfl rfl rfl
theorem ze_books : ∃ r S1 M1, f_X8_books x1 x2 x3 x4 z_S = some (r, S1) ∧ f_X9_books x1 x2 x3 x4 gw_zM = some (r, M1) := by
  unfold f_X8_books f_X9_books
  rw [ps_isSheet, ps_br, ps_isLane, ps_br, pm_isSheet, ps_br, ps_isIn, ps_br, ps_in, ps_br, pz_0, pz_6, pq_0, pq_6]
  by_cases h1 : 0 ≤ x1.toInt ∧ x1.toInt ≤ 3
  · by_cases h2 : 0 ≤ x2.toInt ∧ x2.toInt ≤ 2
    · rw [if_pos h1, if_pos h2, if_pos (show (0 ≤ x1.toInt ∧ x1.toInt ≤ 3) ∧ (0 ≤ x2.toInt ∧ x2.toInt ≤ 2) from ⟨h1, h2⟩)]
      obtain ⟨j, hj, rfl⟩ := ps_nI (n := 3) h1 (by omega)
      rw [gw_gdT (pi_in (by omega) (by omega)), gw_gdT (show (nI j).toNatClampNeg < 4 by rw [nI_clamp (by omega)]; omega), ps_ref hj, gw_bdS, if_neg (show ¬ (-11 : Int32) = 0 by decide), pm_ag hj h2, gw_bdS, if_neg (show ¬ 0 ≤ (-11 : Int32) by decide)]
      split
      · exact zx rfl rfl rfl
      · exact zx rfl rfl rfl
    · rw [if_pos h1, if_neg h2, if_neg (show ¬ ((0 ≤ x1.toInt ∧ x1.toInt ≤ 3) ∧ (0 ≤ x2.toInt ∧ x2.toInt ≤ 2)) from fun h => h2 h.2)]; exact zx rfl rfl rfl
  · rw [if_neg h1, if_neg (show ¬ ((0 ≤ x1.toInt ∧ x1.toInt ≤ 3) ∧ (0 ≤ x2.toInt ∧ x2.toInt ≤ 2)) from fun h => h1 h.1)]; exact zx rfl rfl rfl
end Z5
