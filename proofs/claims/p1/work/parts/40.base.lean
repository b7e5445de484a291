/-! pure rows: the small functions, said in whole numbers -/
theorem gw_bdS {α β : Type} {x : α} {k : α → Option β} : gw_bd (some x) k = k x := rfl
theorem gw_b2S {β : Type} {r : Int32} {S : gw_S} {k : Int32 → gw_S → Option β} : gw_b2 (some (r, S)) k = k r S := rfl
theorem gw_gdT {β : Type} {c : Prop} [Decidable c] {k : Option β} (h : c) : gw_gd c k = k := by unfold gw_gd; rw [if_pos h]
theorem gw_letS {α β : Type} {x : α} {k : α → Option β} : gw_let x k = k x := rfl
theorem pz_m1 : (-1 : Int32).toInt = -1 := by decide
theorem pz_0 : (0 : Int32).toInt = 0 := by decide
theorem pz_1 : (1 : Int32).toInt = 1 := by decide
theorem pz_2 : (2 : Int32).toInt = 2 := by decide
theorem pz_3 : (3 : Int32).toInt = 3 := by decide
theorem pz_4 : (4 : Int32).toInt = 4 := by decide
theorem pz_5 : (5 : Int32).toInt = 5 := by decide
theorem pz_6 : (6 : Int32).toInt = 6 := by decide
theorem pz_7 : (7 : Int32).toInt = 7 := by decide
theorem pz_8 : (8 : Int32).toInt = 8 := by decide
theorem pz_9 : (9 : Int32).toInt = 9 := by decide
theorem pz_20 : (20 : Int32).toInt = 20 := by decide
theorem pz_32 : (32 : Int32).toInt = 32 := by decide
theorem pz_36 : (36 : Int32).toInt = 36 := by decide
theorem pz_40 : (40 : Int32).toInt = 40 := by decide
theorem pz_60 : (60 : Int32).toInt = 60 := by decide
theorem pz_99 : (99 : Int32).toInt = 99 := by decide
theorem pz_126 : (126 : Int32).toInt = 126 := by decide
theorem pz_380 : (380 : Int32).toInt = 380 := by decide
theorem pz_399 : (399 : Int32).toInt = 399 := by decide
theorem pz_4095 : (4095 : Int32).toInt = 4095 := by decide
theorem pz_9999 : (9999 : Int32).toInt = 9999 := by decide
theorem ps_isIn {x lo hi : Int32} {S : gw_S} : f_X8_isIn x lo hi S = some (if lo.toInt ≤ x.toInt ∧ x.toInt ≤ hi.toInt then 1 else 0) := by
  unfold f_X8_isIn
  simp only [Int32.lt_iff_toInt_lt]
  by_cases h1 : x.toInt < lo.toInt
  · rw [if_pos h1, if_neg (by omega)]
  · rw [if_neg h1]
    by_cases h2 : hi.toInt < x.toInt
    · rw [if_pos h2, if_neg (by omega)]
    · rw [if_neg h2, if_pos (by omega)]
theorem ps_c1 {x y : Int64} : lg_cmp x y < 0 ↔ x.toInt < y.toInt := by
  unfold lg_cmp
  simp only [gt_iff_lt, Int64.lt_iff_toInt_lt, ← Int64.toInt_inj]
  by_cases h1 : y.toInt < x.toInt
  · rw [if_pos h1]; constructor
    · intro h; exact absurd h (by decide)
    · intro h; omega
  · rw [if_neg h1]
    by_cases h2 : x.toInt = y.toInt
    · rw [if_pos h2]; constructor
      · intro h; exact absurd h (by decide)
      · intro h; omega
    · rw [if_neg h2]; constructor
      · intro h; omega
      · intro h; decide
theorem ps_c2 {x y : Int64} : 0 < lg_cmp x y ↔ y.toInt < x.toInt := by
  unfold lg_cmp
  simp only [gt_iff_lt, Int64.lt_iff_toInt_lt, ← Int64.toInt_inj]
  by_cases h1 : y.toInt < x.toInt
  · rw [if_pos h1]; constructor
    · intro h; exact h1
    · intro h; decide
  · rw [if_neg h1]
    by_cases h2 : x.toInt = y.toInt
    · rw [if_pos h2]; constructor
      · intro h; exact absurd h (by decide)
      · intro h; omega
    · rw [if_neg h2]; constructor
      · intro h; exact absurd h (by decide)
      · intro h; omega
theorem ps_in64 {v lo hi : Int64} {S : gw_S} : f_X9_in v lo hi S = some (if lo.toInt ≤ v.toInt ∧ v.toInt ≤ hi.toInt then 1 else 0) := by
  unfold f_X9_in
  simp only [ps_c1, ps_c2]
  by_cases h1 : v.toInt < lo.toInt
  · rw [if_pos h1, if_neg (by omega)]
  · rw [if_neg h1]
    by_cases h2 : hi.toInt < v.toInt
    · rw [if_pos h2, if_neg (by omega)]
    · rw [if_neg h2, if_pos (by omega)]
theorem ps_in {x : Int32} {lo hi : Int64} {S : gw_S} : f_X9_in x.toInt64 lo hi S = some (if lo.toInt ≤ x.toInt ∧ x.toInt ≤ hi.toInt then 1 else 0) := by
  rw [ps_in64, Int32.toInt_toInt64]
theorem pq_m1 : (-1 : Int64).toInt = -1 := by decide
theorem pq_0 : (0 : Int64).toInt = 0 := by decide
theorem pq_1 : (1 : Int64).toInt = 1 := by decide
theorem pq_2 : (2 : Int64).toInt = 2 := by decide
theorem pq_3 : (3 : Int64).toInt = 3 := by decide
theorem pq_4 : (4 : Int64).toInt = 4 := by decide
theorem pq_5 : (5 : Int64).toInt = 5 := by decide
theorem pq_6 : (6 : Int64).toInt = 6 := by decide
theorem pq_8 : (8 : Int64).toInt = 8 := by decide
theorem pq_9 : (9 : Int64).toInt = 9 := by decide
theorem pq_20 : (20 : Int64).toInt = 20 := by decide
theorem pq_32 : (32 : Int64).toInt = 32 := by decide
theorem pq_40 : (40 : Int64).toInt = 40 := by decide
theorem pq_48 : (48 : Int64).toInt = 48 := by decide
theorem pq_57 : (57 : Int64).toInt = 57 := by decide
theorem pq_99 : (99 : Int64).toInt = 99 := by decide
theorem pq_126 : (126 : Int64).toInt = 126 := by decide
theorem pq_380 : (380 : Int64).toInt = 380 := by decide
theorem pq_399 : (399 : Int64).toInt = 399 := by decide
theorem pq_4095 : (4095 : Int64).toInt = 4095 := by decide
theorem pq_9999 : (9999 : Int64).toInt = 9999 := by decide
theorem ps_z {c : Prop} [Decidable c] : gw_gd ((if c then (1 : Int32) else 0) = 0 ∨ (if c then (1 : Int32) else 0) = 1) (some (if c then (1 : Int32) else 0)) = some (if c then 1 else 0) := by
  by_cases h : c
  · simp [gw_gd, h]
  · simp [gw_gd, h]
theorem ps_br {β : Type} {c : Prop} [Decidable c] {X Y : Option β} : gw_bd (some (if c then (1 : Int32) else 0)) (fun r => if r = 0 then X else Y) = if c then Y else X := by
  by_cases h : c
  · simp [gw_bd, h]
  · simp [gw_bd, h]
theorem ps_isTown {x : Int32} {S : gw_S} : f_X8_isTown x S = some (if 0 ≤ x.toInt ∧ x.toInt ≤ 8 then 1 else 0) := by unfold f_X8_isTown; rw [ps_isIn, gw_bdS, ps_z, pz_0, pz_8]
theorem ps_isMaker {x : Int32} {S : gw_S} : f_X8_isMaker x S = some (if 0 ≤ x.toInt ∧ x.toInt ≤ 5 then 1 else 0) := by unfold f_X8_isMaker; rw [ps_isIn, gw_bdS, ps_z, pz_0, pz_5]
theorem ps_isLabel {x : Int32} {S : gw_S} : f_X8_isLabel x S = some (if 1 ≤ x.toInt ∧ x.toInt ≤ 40 then 1 else 0) := by unfold f_X8_isLabel; rw [ps_isIn, gw_bdS, ps_z, pz_1, pz_40]
theorem ps_isDay {x : Int32} {S : gw_S} : f_X8_isDay x S = some (if 0 ≤ x.toInt ∧ x.toInt ≤ 399 then 1 else 0) := by unfold f_X8_isDay; rw [ps_isIn, gw_bdS, ps_z, pz_0, pz_399]
theorem ps_isSheet {x : Int32} {S : gw_S} : f_X8_isSheet x S = some (if 0 ≤ x.toInt ∧ x.toInt ≤ 3 then 1 else 0) := by unfold f_X8_isSheet; rw [ps_isIn, gw_bdS, ps_z, pz_0, pz_3]
theorem ps_isLane {x : Int32} {S : gw_S} : f_X8_isLane x S = some (if 0 ≤ x.toInt ∧ x.toInt ≤ 2 then 1 else 0) := by unfold f_X8_isLane; rw [ps_isIn, gw_bdS, ps_z, pz_0, pz_2]
theorem pm_isTown {x : Int32} {S : gw_S} : f_X9_isTown x S = some (if 0 ≤ x.toInt ∧ x.toInt ≤ 8 then 1 else 0) := by unfold f_X9_isTown; rw [ps_in, gw_bdS, ps_z, pq_0, pq_8]
theorem pm_isMaker {x : Int32} {S : gw_S} : f_X9_isMaker x S = some (if 0 ≤ x.toInt ∧ x.toInt ≤ 5 then 1 else 0) := by unfold f_X9_isMaker; rw [ps_in, gw_bdS, ps_z, pq_0, pq_5]
theorem pm_isLabel {x : Int32} {S : gw_S} : f_X9_isLabel x S = some (if 1 ≤ x.toInt ∧ x.toInt ≤ 40 then 1 else 0) := by unfold f_X9_isLabel; rw [ps_in, gw_bdS, ps_z, pq_1, pq_40]
/-- a whole number behind its checks -/
theorem ps_nI {x : Int32} {n : Nat} (h : 0 ≤ x.toInt ∧ x.toInt ≤ n) (hn : n < 2 ^ 31) : ∃ j : Nat, j ≤ n ∧ x = nI j := by
  obtain ⟨j, hj, rfl⟩ := nI_of (x := x) (by rw [Int32.lt_iff_toInt_lt, Int32.toInt_zero]; omega)
  rw [nI_toInt hj] at h
  exact ⟨j, by omega, rfl⟩
theorem ps_gin {x : Int32} {n : Nat} (h : 0 ≤ x.toInt ∧ x.toInt < n) : gw_in x n := by
  rw [gw_in, Int32.lt_iff_toInt_lt, Int32.toInt_zero]
  show ¬ (x.toInt < 0 ∨ n ≤ x.toInt.toNat)
  omega
theorem ps_law2 {f1 f2 : Option (Int32 × gw_S)} {r : Int32} {S1 M1 : gw_S} {K : gw_S → gw_S → Option Int32} (h1 : f1 = some (r, S1)) (h2 : f2 = some (r, M1)) : gw_b2 f1 (fun r1 S1 => gw_b2 f2 (fun r2 M1 => if r1 = r2 then K S1 M1 else some 0)) = K S1 M1 := by
  subst h1; subst h2; simp [gw_b2]
