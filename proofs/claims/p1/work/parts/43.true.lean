theorem pc_b8 (v : Int64) (k : Nat) (hk : k < 8) : ((v.toUInt64 >>> (((8 : Int32) * nI k).toInt64.toUInt64 &&& Int64.toUInt64 63)).toInt64).toInt32 &&& 255 = (((v >>> (((8 : Int32) * nI k).toInt64 &&& 63)) &&& (255 : Int64))).toInt32 := by
  have h : ∀ k, k < 8 → ((((8 : Int32) * nI k).toInt64 &&& 63).toBitVec.smod 64).toNat = 8 * k ∧ ((((8 : Int32) * nI k).toInt64.toUInt64 &&& Int64.toUInt64 63).toBitVec % 64).toNat = 8 * k := by decide
  obtain ⟨h1, h2⟩ := h k hk
  apply Int32.toBitVec_inj.mp
  apply BitVec.eq_of_getLsbD_eq
  intro i hi
  show (BitVec.signExtend 32 (v.toBitVec >>> ((((8 : Int32) * nI k).toInt64.toUInt64 &&& Int64.toUInt64 63).toBitVec % 64)) &&& 255#32).getLsbD i = (BitVec.signExtend 32 (v.toBitVec.sshiftRight ((((8 : Int32) * nI k).toInt64 &&& 63).toBitVec.smod 64).toNat &&& 255#64)).getLsbD i
  rw [h1, BitVec.ushiftRight_eq', h2]
  simp only [BitVec.getLsbD_and, BitVec.getLsbD_signExtend, BitVec.getLsbD_ushiftRight, BitVec.getLsbD_sshiftRight, hi, show i < 64 by omega, if_true, if_pos, decide_true, Bool.true_and]
  by_cases h8 : i < 8
  · have h7 : ∀ i, i < 8 → (255#32).getLsbD i = (255#64).getLsbD i := by decide
    rw [h7 i h8]
    simp [show ¬ 64 ≤ i by omega, show 8 * k + i < 64 by omega]
  · have h9 : ∀ i, i < 32 → ¬ i < 8 → (255#32).getLsbD i = false ∧ (255#64).getLsbD i = false := by decide
    rw [(h9 i hi h8).1, (h9 i hi h8).2]; simp
theorem pc_r8 (v : Int64) : 0 ≤ (v &&& (255 : Int64)).toInt ∧ (v &&& (255 : Int64)).toInt ≤ 255 := by
  show 0 ≤ (v.toBitVec &&& 255#64).toInt ∧ (v.toBitVec &&& 255#64).toInt ≤ 255
  have h : (v.toBitVec &&& 255#64).toNat ≤ 255 := by rw [BitVec.toNat_and]; exact Nat.and_le_right
  rw [BitVec.toInt_eq_toNat_cond, if_pos (by omega)]; omega
theorem pc_i32 {x : Int64} (h : 0 ≤ x.toInt ∧ x.toInt ≤ 255) : x.toInt32.toInt = x.toInt := by
  rw [Int64.toInt_toInt32]
  rw [Int.bmod_eq_of_le] <;> omega
section Z6
variable {x1 x2 x3 x4 x5 x6 : Int32} {S M : gw_S}
theorem pn_pred {j : Nat} : nI (j + 1) - 1 = nI j := nI_pred j
theorem pn_addm {x : Int32} : x + -1 = x - 1 := (Int32.sub_eq_add_neg x 1).symm
theorem ze_t65 (v : Int64) : ∀ (j n t : Nat) (S : gw_S), j < n → t + j ≤ 60 → S 1 1 = nI t → j ≤ 8 → ∃ S1, f_X8_type_b65 n v (nI j - 1) S = some (nI (t + j), S1)
  | 0, n + 1, t, S, _, _, h, _ => by
    rw [f_X8_type_b65, if_pos (by decide), h]; exact ⟨_, rfl⟩
  | j + 1, n + 1, t, S, hn, ht, h, h8 => by
    rw [f_X8_type_b65, pn_pred, if_neg (pn_n0 (by omega))]
    unfold f_X8_byteOf f_X6_append
    rw [gw_bdS, h, if_neg (show ¬ (60 : Int32) ≤ nI t from pn_le (n := 60) (by omega) (by omega)), gw_gdT (pi_in (by omega) (by omega)), gw_letS, gw_letS, gw_bdS, gw_letS, pn_addm]
    obtain ⟨S1, e⟩ := ze_t65 v j n (t + 1) _ (by omega) (by omega) (show gw_up (gw_up S 2 (nI t).toNatClampNeg _) 1 1 (gw_up S 2 (nI t).toNatClampNeg _ 1 1 + 1) 1 1 = nI (t + 1) by
      show S 1 1 + 1 = nI (t + 1)
      rw [h, nI_1]) (by omega)
    rw [e]; exact ⟨S1, by congr 3; omega⟩
theorem ze_t74 (v : Int64) : ∀ (j n t : Nat) (S : gw_S), j < n → t + j ≤ 60 → S 0 5 = nI t → j ≤ 8 → ∃ S1, f_X9_type_b74 n v (nI j - 1) S = some (nI (t + j), S1)
  | 0, n + 1, t, S, _, _, h, _ => by
    rw [f_X9_type_b74, if_pos (by decide), h]; exact ⟨_, rfl⟩
  | j + 1, n + 1, t, S, hn, ht, h, h8 => by
    rw [f_X9_type_b74, pn_pred, if_neg (pn_n0 (by omega)), gw_gdT (by rw [h]; exact pi_in (by omega) (by omega)), gw_letS, gw_letS, gw_letS, pn_addm]
    obtain ⟨S1, e⟩ := ze_t74 v j n (t + 1) _ (by omega) (by omega) (show gw_up (gw_up S 5 (S 0 5).toNatClampNeg _) 0 5 (gw_up S 5 (S 0 5).toNatClampNeg _ 0 5 + 1) 0 5 = nI (t + 1) by
      show S 0 5 + 1 = nI (t + 1)
      rw [h, nI_1]) (by omega)
    rw [e]; exact ⟨S1, by congr 3; omega⟩
theorem ze_tloop (v : Int64) (x : Int32) : ∀ (j n : Nat), j ≤ 8 → j < n → (f_X8_type_b17 n v x (nI j - 1) S = some (-1, S) ∧ f_X9_type_b19 n v x (nI j - 1) M = some (-1, M)) ∨ (f_X8_type_b17 n v x (nI j - 1) S = gw_bd (f_X6_hasRoomFor x S) (fun r9 => (if r9 = 0 then some ((-3 : Int32), S) else gw_let ((x - (1 : Int32)) : Int32) (fun y12 => f_X8_type_b65 gw_F v y12 S))) ∧ f_X9_type_b19 n v x (nI j - 1) M = (if ((M 0 5) + x) ≤ (60 : Int32) then gw_let ((x - (1 : Int32)) : Int32) (fun y11 => f_X9_type_b74 gw_F v y11 M) else some ((-3 : Int32), M)))
  | 0, n + 1, _, _ => Or.inr ⟨by rw [f_X8_type_b17, if_pos (by decide)], by rw [f_X9_type_b19, if_pos (by decide)]⟩
  | j + 1, n + 1, hj, hn => by
    rw [f_X8_type_b17, f_X9_type_b19, pn_pred, if_neg (pn_n0 (by omega)), if_neg (pn_n0 (by omega))]
    unfold f_X8_byteOf
    rw [gw_bdS, ps_isIn, ps_br, ps_in64, ps_br, pc_b8 v j (by omega), pc_i32 (pc_r8 _), pz_32, pz_126, pq_32, pq_126, gw_letS, gw_letS, pn_addm]
    split
    · exact ze_tloop v x j n (by omega) (by omega)
    · exact Or.inl ⟨rfl, rfl⟩
theorem ze_type {v : Int64} : ∃ r S1 M1, f_X8_type v x3 z_S = some (r, S1) ∧ f_X9_type v x3 gw_zM = some (r, M1) := by
  unfold f_X8_type f_X9_type
  rw [ps_isIn, ps_br, ps_in, ps_br, pz_1, pz_8, pq_1, pq_8, gw_letS, gw_letS]
  by_cases h1 : 1 ≤ x3.toInt ∧ x3.toInt ≤ 8
  · rw [if_pos h1, if_pos h1]
    obtain ⟨j, hj, rfl⟩ := ps_nI (x := x3) (n := 8) (by omega) (by omega)
    rcases ze_tloop (S := z_S) (M := gw_zM) v (nI j) j gw_F hj (Nat.lt_of_le_of_lt hj (by decide)) with ⟨e1, e2⟩ | ⟨e1, e2⟩
    · rw [e1, e2]; exact zx rfl rfl rfl
    · rw [e1, e2]
      unfold f_X6_hasRoomFor
      have hd : ∀ j, j ≤ 8 → ¬ (60 : Int32) - 0 < nI j ∧ (0 : Int32) + nI j ≤ 60 := by decide
      rw [z_a.2.2.1, z_m.1, if_neg (hd j hj).1, gw_bdS, if_neg (by decide), if_pos (hd j hj).2, gw_letS, gw_letS]
      obtain ⟨S1, k1⟩ := ze_t65 v j gw_F 0 z_S (Nat.lt_of_le_of_lt hj (by decide)) (by omega) z_a.2.2.1 hj
      obtain ⟨M1, k2⟩ := ze_t74 v j gw_F 0 gw_zM (Nat.lt_of_le_of_lt hj (by decide)) (by omega) z_m.1 hj
      rw [k1, k2]; exact zx rfl rfl rfl
  · rw [if_neg h1, if_neg h1]; exact zx rfl rfl rfl
end Z6
section Z7
variable {x1 x2 x3 x4 x5 x6 : Int32} {S M : gw_S}
theorem pn_s {n k : Nat} (h : k + 1 ≤ n) : nI (n - (k + 1)) + (1 : Int32) = nI (n - k) := by rw [nI_1]; congr 1; omega
theorem ze_begin {a : Nat} (ha : a ≤ 3) (u w : Int32) : ∀ (k n : Nat) (S : gw_S), k ≤ 36 → k < n → ∃ S1, f_X5_begin_b2 n (nI a) u w (nI (36 - k)) S = some S1
  | 0, n + 1, S, _, _ => by
    rw [f_X5_begin_b2, if_pos (by decide), gw_gdT (by rw [nI_clamp (by omega)]; omega), gw_letS, gw_letS, gw_letS]; exact ⟨_, rfl⟩
  | k + 1, n + 1, S, hk, hn => by
    rw [f_X5_begin_b2, if_neg (show ¬ (36 : Int32) ≤ nI (36 - (k + 1)) from pn_le (n := 36) (by omega) (by omega)), gw_gdT (by rw [nI_clamp (by omega)]; omega), gw_gdT (pi_in (by omega) (by omega)), gw_letS, gw_letS, pn_s hk]
    exact ze_begin ha u w k n _ (by omega) (by omega)
theorem p_36 : ∀ a, a ≤ 3 → ∀ j, j < 36 → gw_in (36 * nI a + nI j) 144 := by decide
theorem ze_sh40 {a : Nat} (ha : a ≤ 3) (w : Int32) : ∀ (k n : Nat) (S : gw_S), k ≤ 36 → k < n → ∃ S1, f_X9_sheet_b40 n (nI a) w (nI (36 - k)) S = some (w, S1)
  | 0, n + 1, S, _, _ => by
    rw [f_X9_sheet_b40, if_pos (by decide)]; exact ⟨_, rfl⟩
  | k + 1, n + 1, S, hk, hn => by
    rw [f_X9_sheet_b40, if_neg (show ¬ (36 : Int32) ≤ nI (36 - (k + 1)) from pn_le (n := 36) (by omega) (by omega)), gw_gdT (p_36 a ha _ (by omega)), gw_letS, gw_letS, pn_s hk]
    exact ze_sh40 ha w k n _ (by omega) (by omega)
theorem ze_sheet : ∃ r S1 M1, f_X8_sheet x1 x2 x3 z_S = some (r, S1) ∧ f_X9_sheet x1 x2 x3 gw_zM = some (r, M1) := by
  unfold f_X8_sheet f_X9_sheet
  rw [ps_isSheet, ps_br, ps_isLane, ps_br, pm_isSheet, ps_br]
  by_cases h1 : 0 ≤ x1.toInt ∧ x1.toInt ≤ 3
  · by_cases h2 : 0 ≤ x2.toInt ∧ x2.toInt ≤ 2
    · rw [if_pos h1, if_pos h2, if_pos (show (0 ≤ x1.toInt ∧ x1.toInt ≤ 3) ∧ (0 ≤ x2.toInt ∧ x2.toInt ≤ 2) from ⟨h1, h2⟩)]
      obtain ⟨j, hj, rfl⟩ := ps_nI (n := 3) h1 (by omega)
      obtain ⟨S1, e1⟩ := ze_begin hj x2 x3 36 gw_F z_S (Nat.le_refl 36) (by decide)
      obtain ⟨M1, e2⟩ := ze_sh40 hj x3 36 gw_F (gw_up (gw_up gw_zM 43 (nI j).toNatClampNeg x2) 44 (nI j).toNatClampNeg x3) (Nat.le_refl 36) (by decide)
      rw [show nI (36 - 36) = (0 : Int32) from rfl] at e1 e2
      unfold f_X5_begin
      rw [gw_gdT (pi_in (by omega) (by omega)), gw_gdT (show (nI j).toNatClampNeg < 4 by rw [nI_clamp (by omega)]; omega), e1, gw_bdS, gw_gdT (pi_in (by omega) (by omega)), gw_letS, gw_letS, e2]
      by_cases h3 : x3 ≤ 36
      · rw [if_pos h3, if_pos h3]
        by_cases h4 : 0 ≤ x3
        · rw [if_pos h4, if_pos h4]; exact zx rfl rfl rfl
        · rw [if_neg h4, if_neg h4]; exact zx rfl rfl rfl
      · rw [if_neg h3, if_neg h3]; exact zx rfl rfl rfl
    · rw [if_pos h1, if_neg h2, if_neg (show ¬ ((0 ≤ x1.toInt ∧ x1.toInt ≤ 3) ∧ (0 ≤ x2.toInt ∧ x2.toInt ≤ 2)) from fun h => h2 h.2)]; exact zx rfl rfl rfl
  · rw [if_neg h1, if_neg (show ¬ ((0 ≤ x1.toInt ∧ x1.toInt ≤ 3) ∧ (0 ≤ x2.toInt ∧ x2.toInt ≤ 2)) from fun h => h1 h.1)]; exact zx rfl rfl rfl
/-- same -/
def z_P (c : Int32) (S : gw_S) : Prop := S 7 3 = c
theorem ps_spanOf : ∃ r, f_X3_spanOf x1 x2 S = some r := by
  unfold f_X3_spanOf
  rw [gw_letS]
  split
  · exact ⟨_, rfl⟩
  · rename_i h1
    split
    · exact ⟨_, rfl⟩
    · rename_i h2
      rw [gw_gdT (ps_gin (by rw [Int32.lt_iff_toInt_lt, Int32.toInt_zero] at h1; rw [Int32.le_iff_toInt_le, pz_36] at h2; omega))]
      exact ⟨_, rfl⟩
theorem ps_tighten {c : Int32} (h : z_P c S) : gw_wp (f_X3_tighten x1 x2 x3 S) (z_P c) := by
  unfold f_X3_tighten
  rw [gw_letS]
  split
  · exact gw_wpS h
  · rename_i h1
    split
    · exact gw_wpS h
    · rename_i h2
      rw [gw_gdT (ps_gin (by rw [Int32.lt_iff_toInt_lt, Int32.toInt_zero] at h1; rw [Int32.le_iff_toInt_le, pz_36] at h2; omega))]
      split
      · exact gw_wpS h
      · exact gw_wpS h
theorem ze_c63 {c : Int32} : ∀ (k n : Nat) (S : gw_S), k ≤ 6 → k < n → z_P c S → gw_wp (f_X3_close_b63 n (nI (6 - k)) S) (z_P c)
  | 0, n + 1, S, _, _, h => by rw [f_X3_close_b63, if_pos (by decide)]; exact gw_wpS h
  | k + 1, n + 1, S, hk, hn, h => by
    rw [f_X3_close_b63, if_neg (show ¬ (6 : Int32) ≤ nI (6 - (k + 1)) from pn_le (n := 6) (by omega) (by omega))]
    obtain ⟨r, e⟩ := ps_spanOf (S := S) (x1 := nI (6 - (k + 1))) (x2 := nI (6 - (k + 1)))
    rw [e, gw_bdS]
    unfold f_X3_close_b83
    simp only [gw_letS, pn_s hk]
    split
    · exact ze_c63 k n S (by omega) (by omega) h
    · exact ze_c63 k n _ (by omega) (by omega) h
theorem ze_c18 {c : Int32} {K2 : Int32 → gw_S → Option gw_S} {K10 : Int32 → Int32 → gw_S → Option gw_S} {v1 v2 : Int32} (hK : ∀ S, z_P c S → gw_wp (K10 v1 (v2 + 1) S) (z_P c)) : ∀ (k n : Nat) (S : gw_S), k ≤ 6 → k < n → z_P c S → gw_wp (f_X3_close_b18 K2 K10 n v1 v2 (nI (6 - k)) S) (z_P c)
  | 0, n + 1, S, _, _, h => by rw [f_X3_close_b18, if_pos (by decide), gw_letS]; exact hK S h
  | k + 1, n + 1, S, hk, hn, h => by
    rw [f_X3_close_b18, if_neg (show ¬ (6 : Int32) ≤ nI (6 - (k + 1)) from pn_le (n := 6) (by omega) (by omega))]
    obtain ⟨r, e⟩ := ps_spanOf (S := S) (x1 := v2) (x2 := v1)
    obtain ⟨r', e'⟩ := ps_spanOf (S := S) (x1 := v1) (x2 := nI (6 - (k + 1)))
    rw [e, gw_bdS, e', gw_bdS]
    refine gw_wpB (ps_tighten h) (fun S1 h1 => ?_)
    rw [gw_letS, pn_s hk]
    exact ze_c18 hK k n S1 (by omega) (by omega) h1
theorem ze_c10 {c : Int32} {K2 : Int32 → gw_S → Option gw_S} {v1 : Int32} (hK : ∀ S, z_P c S → gw_wp (K2 (v1 + 1) S) (z_P c)) : ∀ (k n : Nat) (S : gw_S), k ≤ 6 → k < n → z_P c S → gw_wp (f_X3_close_b10 K2 n v1 (nI (6 - k)) S) (z_P c)
  | 0, n + 1, S, _, _, h => by rw [f_X3_close_b10, if_pos (by decide), gw_letS]; exact hK S h
  | k + 1, n + 1, S, hk, hn, h => by
    rw [f_X3_close_b10, if_neg (show ¬ (6 : Int32) ≤ nI (6 - (k + 1)) from pn_le (n := 6) (by omega) (by omega))]
    refine ze_c18 (fun S1 h1 => ?_) 6 gw_F S (Nat.le_refl 6) (by decide) h
    rw [pn_s hk]
    exact ze_c10 hK k n S1 (by omega) (by omega) h1
theorem ze_c2 {c : Int32} : ∀ (k n : Nat) (S : gw_S), k ≤ 6 → k < n → z_P c S → gw_wp (f_X3_close_b2 n (nI (6 - k)) S) (z_P c)
  | 0, n + 1, S, _, _, h => by rw [f_X3_close_b2, if_pos (by decide)]; exact ze_c63 6 gw_F S (Nat.le_refl 6) (by decide) h
  | k + 1, n + 1, S, hk, hn, h => by
    rw [f_X3_close_b2, if_neg (show ¬ (6 : Int32) ≤ nI (6 - (k + 1)) from pn_le (n := 6) (by omega) (by omega))]
    refine ze_c10 (fun S1 h1 => ?_) 6 gw_F S (Nat.le_refl 6) (by decide) h
    rw [pn_s hk]
    exact ze_c2 k n S1 (by omega) (by omega) h1
theorem ze_re {c : Int32} : ∀ (k n : Nat) (S : gw_S), k ≤ 5 → k < n → z_P c S → gw_wp (f_X3_readEnds_b2 n (nI (6 - k)) S) (z_P c)
  | 0, n + 1, S, _, _, h => by rw [f_X3_readEnds_b2, if_pos (by decide)]; exact gw_wpS h
  | k + 1, n + 1, S, hk, hn, h => by
    have e56 : ∀ (r : Int32) (S : gw_S), z_P c S → gw_wp (f_X3_readEnds_b56 (f_X3_readEnds_b2 n) (nI (6 - (k + 1))) r (nI (6 - (k + 1))) S) (z_P c) := fun r S h => by
      unfold f_X3_readEnds_b56
      rw [gw_gdT (pi_in (by omega) (by omega)), gw_letS, gw_letS, pn_s (by omega)]
      exact ze_re k n _ (by omega) (by omega) h
    have e32 : ∀ (r : Int32) (S : gw_S), z_P c S → gw_wp (f_X3_readEnds_b32 (f_X3_readEnds_b2 n) (nI (6 - (k + 1))) r (nI (6 - (k + 1))) S) (z_P c) := fun r S h => by
      unfold f_X3_readEnds_b32
      rw [gw_gdT (pi_in (by omega) (by omega)), gw_letS]
      split
      · obtain ⟨r, e⟩ := ps_spanOf (S := gw_up S 9 (nI (6 - (k + 1))).toNatClampNeg r) (x1 := 0) (x2 := nI (6 - (k + 1)))
        rw [e, gw_bdS]
        exact e56 _ _ h
      · exact e56 _ _ h
    rw [f_X3_readEnds_b2, if_neg (show ¬ (6 : Int32) ≤ nI (6 - (k + 1)) from pn_le (n := 6) (by omega) (by omega))]
    split
    · obtain ⟨r, e⟩ := ps_spanOf (S := S) (x1 := nI (6 - (k + 1))) (x2 := 0)
      rw [e, gw_bdS]
      exact e32 _ _ h
    · exact e32 _ _ h
theorem ps_learn {c : Int32} (h : S 7 3 + 1 = c) : gw_wp (f_X3_learn x1 x2 x3 x4 S) (z_P c) := by
  unfold f_X3_learn
  rw [gw_letS]
  have h0 : z_P c (gw_up S 7 3 (S 7 3 + 1)) := h
  split
  · refine gw_wpB (ps_tighten h0) (fun S1 h1 => ?_)
    refine gw_wpB (ps_tighten h1) (fun S2 h2 => ?_)
    refine gw_wpB (ze_c2 6 gw_F S2 (Nat.le_refl 6) (by decide) h2) (fun S3 h3 => ?_)
    exact gw_wpB (ze_re 5 gw_F S3 (Nat.le_refl 5) (by decide) h3) (fun S4 h4 => gw_wpS h4)
  · exact gw_wpS h0
theorem ze_same : ∃ r S1 M1, f_X8_same x1 x2 x3 x4 z_S = some (r, S1) ∧ f_X9_same x1 x2 x3 x4 gw_zM = some (r, M1) := by
  unfold f_X8_same f_X9_same
  rw [ps_isMaker, ps_br, pm_isMaker, ps_br, ps_isMaker, ps_br, pm_isMaker, ps_br, ps_isLabel, ps_br, pm_isLabel, ps_br, ps_isLabel, ps_br, pm_isLabel, ps_br]
  by_cases h1 : 0 ≤ x1.toInt ∧ x1.toInt ≤ 5
  · rw [if_pos h1, if_pos h1]
    by_cases h3 : 0 ≤ x3.toInt ∧ x3.toInt ≤ 5
    · rw [if_pos h3, if_pos h3]
      by_cases h2 : 1 ≤ x2.toInt ∧ x2.toInt ≤ 40
      · rw [if_pos h2, if_pos h2]
        by_cases h4 : 1 ≤ x4.toInt ∧ x4.toInt ≤ 40
        · rw [if_pos h4, if_pos h4]
          by_cases h5 : x1 = x3
          · rw [if_pos h5, if_pos h5]; exact zx rfl rfl rfl
          · rw [if_neg h5, if_neg h5, if_pos (show z_S 7 3 < 20 by rw [z_a.2.2.2.1]; decide)]
            obtain ⟨S1, e1, p1⟩ := ps_learn (S := z_S) (x1 := x1) (x2 := x2) (x3 := x3) (x4 := x4) (c := 1) (by rw [z_a.2.2.2.1]; decide)
            have p1 : S1 7 3 = 1 := p1
            have h8 := z_m.2.2.2.1
            rw [e1, gw_bdS, p1, if_neg (show ¬ gw_zM 0 21 = 20 by rw [h8]; decide), gw_gdT (by rw [h8]; decide), gw_letS, gw_gdT (by show gw_in (gw_zM 0 21) 20; rw [h8]; decide), gw_letS, gw_gdT (by show gw_in (gw_zM 0 21) 20; rw [h8]; decide), gw_letS, gw_gdT (by show gw_in (gw_zM 0 21) 20; rw [h8]; decide), gw_letS, gw_letS]
            refine zx rfl rfl ?_
            show gw_zM 0 21 + 1 - 1 = 1 - 1
            rw [h8]; decide
        · rw [if_neg h4, if_neg h4]
          split <;> exact zx rfl rfl rfl
      · rw [if_neg h2, if_neg h2]
        split <;> exact zx rfl rfl rfl
    · rw [if_neg h3, if_neg h3]
      split <;> exact zx rfl rfl rfl
  · rw [if_neg h1, if_neg h1]; exact zx rfl rfl rfl
end Z7
section Z8
variable {xs : Nat → Int32} {K : gw_S → gw_S → Option Int32}
theorem zi {c : Prop} [Decidable c] {X Y : Option Int32} (hx : X = some 1) (hy : Y = some 1) : (if c then X else Y) = some 1 := by
  split
  · exact hx
  · exact hy
theorem zc_0 (hK : ∀ S M, K S M = some 1) : f_law_c0 xs 7 0 K z_S gw_zM = some 1 := by
  unfold f_law_c0
  rw [gw_gdT (by decide), gw_gdT (by decide), gw_gdT (by decide)]
  exact zl_22x ze_type hK
theorem zc_1 (hK : ∀ S M, K S M = some 1) : f_law_c1 xs 7 0 K z_S gw_zM = some 1 := by
  unfold f_law_c1
  exact zl_22x ze_terms hK
theorem zc_2 (hK : ∀ S M, K S M = some 1) : f_law_c2 xs 7 0 K z_S gw_zM = some 1 := by
  unfold f_law_c2
  rw [gw_gdT (by decide)]
  exact zl_11x ze_term hK
theorem zc_3 (hK : ∀ S M, K S M = some 1) : f_law_c3 xs 7 0 K z_S gw_zM = some 1 := by
  unfold f_law_c3
  rw [gw_gdT (by decide), gw_gdT (by decide), gw_gdT (by decide)]
  exact zl_22x ze_post hK
theorem zc_4 (hK : ∀ S M, K S M = some 1) : f_law_c4 xs 7 0 K z_S gw_zM = some 1 := by
  unfold f_law_c4
  rw [gw_gdT (by decide), gw_gdT (by decide), gw_gdT (by decide), gw_gdT (by decide), gw_gdT (by decide), gw_gdT (by decide)]
  exact zl_22x ze_gown hK
theorem zc_5 (hK : ∀ S M, K S M = some 1) : f_law_c5 xs 7 0 K z_S gw_zM = some 1 := by
  unfold f_law_c5
  rw [gw_gdT (by decide), gw_gdT (by decide), gw_gdT (by decide), gw_gdT (by decide), gw_gdT (by decide), gw_gdT (by decide)]
  exact zl_22x ze_longGown hK
theorem zc_6 (hK : ∀ S M, K S M = some 1) : f_law_c6 xs 7 0 K z_S gw_zM = some 1 := by
  unfold f_law_c6
  rw [gw_gdT (by decide), gw_gdT (by decide), gw_gdT (by decide), gw_gdT (by decide), gw_gdT (by decide), gw_gdT (by decide)]
  exact zl_22x ze_suit hK
theorem zc_7 (hK : ∀ S M, K S M = some 1) : f_law_c7 xs 7 0 K z_S gw_zM = some 1 := by
  unfold f_law_c7
  rw [gw_gdT (by decide), gw_gdT (by decide)]
  exact zl_22 (zs_hem z_a.1) (zm_hem z_m.2.1) hK
theorem zc_8 (hK : ∀ S M, K S M = some 1) : f_law_c8 xs 7 0 K z_S gw_zM = some 1 := by
  unfold f_law_c8
  rw [gw_gdT (by decide), gw_gdT (by decide)]
  exact zl_11 (zs_told z_a.1) (zm_told z_m.2.1) hK
theorem zc_9 (hK : ∀ S M, K S M = some 1) : f_law_c9 xs 7 0 K z_S gw_zM = some 1 := by
  unfold f_law_c9
  rw [gw_gdT (by decide), gw_gdT (by decide), gw_gdT (by decide), gw_gdT (by decide)]
  exact zl_22x ze_same hK
theorem zc_10 (hK : ∀ S M, K S M = some 1) : f_law_c10 xs 7 0 K z_S gw_zM = some 1 := by
  unfold f_law_c10
  rw [gw_gdT (by decide), gw_gdT (by decide)]
  exact zl_12x ze_lie hK
theorem zc_11 (hK : ∀ S M, K S M = some 1) : f_law_c11 xs 7 0 K z_S gw_zM = some 1 := by
  unfold f_law_c11
  exact zl_12x ze_quarrel hK
theorem zc_12 (hK : ∀ S M, K S M = some 1) : f_law_c12 xs 7 0 K z_S gw_zM = some 1 := by
  unfold f_law_c12
  rw [gw_gdT (by decide), gw_gdT (by decide), gw_gdT (by decide)]
  exact zl_12 (zs_fits z_a.1) (zm_fits z_m.2.1) hK
theorem zc_13 (hK : ∀ S M, K S M = some 1) : f_law_c13 xs 7 0 K z_S gw_zM = some 1 := by
  unfold f_law_c13
  rw [gw_gdT (by decide), gw_gdT (by decide), gw_gdT (by decide), gw_gdT (by decide), gw_gdT (by decide), gw_gdT (by decide)]
  exact zl_22x ze_book hK
theorem zc_14 (hK : ∀ S M, K S M = some 1) : f_law_c14 xs 7 0 K z_S gw_zM = some 1 := by
  unfold f_law_c14
  rw [gw_gdT (by decide), gw_gdT (by decide)]
  exact zl_22 (zs_off z_a.2.1) (zm_off z_m.2.2.1) hK
theorem zc_15 (hK : ∀ S M, K S M = some 1) : f_law_c15 xs 7 0 K z_S gw_zM = some 1 := by
  unfold f_law_c15
  rw [gw_gdT (by decide)]
  exact zl_22 (zs_give z_a.2.1) (zm_give z_m.2.2.1) hK
theorem zc_16 (hK : ∀ S M, K S M = some 1) : f_law_c16 xs 7 0 K z_S gw_zM = some 1 := by
  unfold f_law_c16
  rw [gw_gdT (by decide)]
  exact zl_11 (zs_has z_a.2.1) (zm_has z_m.2.2.1) hK
theorem zc_17 (hK : ∀ S M, K S M = some 1) : f_law_c17 xs 7 0 K z_S gw_zM = some 1 := by
  unfold f_law_c17
  rw [gw_gdT (by decide), gw_gdT (by decide)]
  exact zl_11 (zs_free z_a.1 z_a.2.1) (zm_free z_m.2.1) hK
theorem zc_18 (hK : ∀ S M, K S M = some 1) : f_law_c18 xs 7 0 K z_S gw_zM = some 1 := by
  unfold f_law_c18
  rw [gw_gdT (by decide), gw_gdT (by decide), gw_gdT (by decide)]
  exact zl_11 (zs_away z_a.1 z_a.2.1) (zm_away z_m.2.1) hK
theorem zc_19 (hK : ∀ S M, K S M = some 1) : f_law_c19 xs 7 0 K z_S gw_zM = some 1 := by
  unfold f_law_c19
  rw [gw_gdT (by decide), gw_gdT (by decide)]
  exact zl_22 (zs_tear z_a.1) (zm_tear z_m.2.1) hK
theorem zc_20 (hK : ∀ S M, K S M = some 1) : f_law_c20 xs 7 0 K z_S gw_zM = some 1 := by
  unfold f_law_c20
  rw [gw_gdT (by decide)]
  exact zl_22 (zs_mend z_a.1) (zm_mend z_m.2.1) hK
theorem zc_21 (hK : ∀ S M, K S M = some 1) : f_law_c21 xs 7 0 K z_S gw_zM = some 1 := by
  unfold f_law_c21
  rw [gw_gdT (by decide)]
  exact zl_22 (zs_chain z_a.2.1) (zm_chain z_m.2.2.1) hK
theorem zc_22 (hK : ∀ S M, K S M = some 1) : f_law_c22 xs 7 0 K z_S gw_zM = some 1 := by
  unfold f_law_c22
  rw [gw_gdT (by decide), gw_gdT (by decide), gw_gdT (by decide)]
  exact zl_22 (zs_link z_a.2.1) (zm_link z_m.2.2.1) hK
theorem zc_23 (hK : ∀ S M, K S M = some 1) : f_law_c23 xs 7 0 K z_S gw_zM = some 1 := by
  unfold f_law_c23
  rw [gw_gdT (by decide)]
  exact zl_22 (zs_swap z_a.2.1) (zm_swap z_m.2.2.1) hK
theorem zc_24 (hK : ∀ S M, K S M = some 1) : f_law_c24 xs 7 0 K z_S gw_zM = some 1 := by
  unfold f_law_c24
  rw [gw_gdT (by decide), gw_gdT (by decide)]
  exact zl_22x ze_match hK
theorem zc_25 (hK : ∀ S M, K S M = some 1) : f_law_c25 xs 7 0 K z_S gw_zM = some 1 := by
  unfold f_law_c25
  rw [gw_gdT (by decide), gw_gdT (by decide), gw_gdT (by decide), gw_gdT (by decide)]
  exact zl_11x ze_asOf hK
theorem zc_26 (hK : ∀ S M, K S M = some 1) : f_law_c26 xs 7 0 K z_S gw_zM = some 1 := by
  unfold f_law_c26
  rw [gw_gdT (by decide), gw_gdT (by decide)]
  exact zl_22 (zs_out z_a.2.1) (zm_out z_m.2.2.1) hK
theorem zc_27 (hK : ∀ S M, K S M = some 1) : f_law_c27 xs 7 0 K z_S gw_zM = some 1 := by
  unfold f_law_c27
  rw [gw_gdT (by decide), gw_gdT (by decide), gw_gdT (by decide)]
  exact zl_22 (zs_home z_a.2.1) (zm_home z_m.2.2.1) hK
theorem zc_28 (hK : ∀ S M, K S M = some 1) : f_law_c28 xs 7 0 K z_S gw_zM = some 1 := by
  unfold f_law_c28
  rw [gw_gdT (by decide), gw_gdT (by decide)]
  exact zl_11 (zs_about z_a.2.1) (zm_about z_m.2.2.1) hK
theorem zc_29 (hK : ∀ S M, K S M = some 1) : f_law_c29 xs 7 0 K z_S gw_zM = some 1 := by
  unfold f_law_c29
  rw [gw_gdT (by decide)]
  exact zl_22 (zs_retire z_a.1) (zm_retire z_m.2.1) hK
theorem zc_30 (hK : ∀ S M, K S M = some 1) : f_law_c30 xs 7 0 K z_S gw_zM = some 1 := by
  unfold f_law_c30
  rw [gw_gdT (by decide)]
  exact zl_11x ze_count hK
theorem zc_31 (hK : ∀ S M, K S M = some 1) : f_law_c31 xs 7 0 K z_S gw_zM = some 1 := by
  unfold f_law_c31
  rw [gw_gdT (by decide), gw_gdT (by decide), gw_gdT (by decide)]
  exact zl_22x ze_sheet hK
theorem zc_32 (hK : ∀ S M, K S M = some 1) : f_law_c32 xs 7 0 K z_S gw_zM = some 1 := by
  unfold f_law_c32
  rw [gw_gdT (by decide)]
  exact zl_22x ze_drop hK
theorem zc_33 (hK : ∀ S M, K S M = some 1) : f_law_c33 xs 7 0 K z_S gw_zM = some 1 := by
  unfold f_law_c33
  rw [gw_gdT (by decide), gw_gdT (by decide), gw_gdT (by decide), gw_gdT (by decide)]
  exact zl_22x ze_item hK
theorem zc_34 (hK : ∀ S M, K S M = some 1) : f_law_c34 xs 7 0 K z_S gw_zM = some 1 := by
  unfold f_law_c34
  rw [gw_gdT (by decide), gw_gdT (by decide), gw_gdT (by decide), gw_gdT (by decide)]
  exact zl_22x ze_books hK
theorem zc_s {k : Int32} (hK : ∀ S M, K S M = some 1) : f_law_s xs 7 0 k K z_S gw_zM = some 1 := by
  unfold f_law_s
  exact zi (zc_0 hK) (zi (zc_1 hK) (zi (zc_2 hK) (zi (zc_3 hK) (zi (zc_4 hK) (zi (zc_5 hK) (zi (zc_6 hK) (zi (zc_7 hK) (zi (zc_8 hK) (zi (zc_9 hK) (zi (zc_10 hK) (zi (zc_11 hK) (zi (zc_12 hK) (zi (zc_13 hK) (zi (zc_14 hK) (zi (zc_15 hK) (zi (zc_16 hK) (zi (zc_17 hK) (zi (zc_18 hK) (zi (zc_19 hK) (zi (zc_20 hK) (zi (zc_21 hK) (zi (zc_22 hK) (zi (zc_23 hK) (zi (zc_24 hK) (zi (zc_25 hK) (zi (zc_26 hK) (zi (zc_27 hK) (zi (zc_28 hK) (zi (zc_29 hK) (zi (zc_30 hK) (zi (zc_31 hK) (zi (zc_32 hK) (zi (zc_33 hK) (zi (zc_34 hK) (hK _ _)))))))))))))))))))))))))))))))))))
theorem law_true (xs : Nat → Int32) {L : Nat} (hL : L ≤ 7) : f_law xs L 600 0 (gw_SG gw_zH) gw_zM = some 1 := by
  show f_law xs L (599 + 1) 0 z_S gw_zM = some 1
  rw [f_law]
  by_cases h : Int32.ofNat L - 7 < 0
  · rw [if_pos h]
  · rw [if_neg h]
    have e : ∀ L, L < 7 → Int32.ofNat L - 7 < 0 := by decide
    have hL7 : L = 7 := by
      rcases Nat.lt_or_ge L 7 with h1 | h1
      · exact absurd (e L h1) h
      · omega
    subst hL7
    rw [gw_gdT (by decide), gw_letS]
    refine zc_s (fun S M => ?_)
    rw [gw_letS]
    show f_law xs 7 (598 + 1) _ S M = some 1
    rw [f_law, if_pos (by decide)]
end Z8
