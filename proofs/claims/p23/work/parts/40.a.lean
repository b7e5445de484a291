section
/-! pure rows: the small functions, said in whole numbers -/
theorem gw_bdS {α β : Type} {x : α} {k : α → Option β} : gw_bd (some x) k = k x := rfl
theorem gw_b2S {β : Type} {r : Int32} {S : gw_S} {k : Int32 → gw_S → Option β} : gw_b2 (some (r, S)) k = k r S := rfl
theorem gw_gdT {β : Type} {c : Prop} [Decidable c] {k : Option β} (h : c) : gw_gd c k = k := by unfold gw_gd; rw [if_pos h]
theorem gw_letS {α β : Type} {x : α} {k : α → Option β} : gw_let x k = k x := rfl
theorem pz_m1 : (-1 : Int32).toInt = -1 := by decide
theorem pz_0 : (0 : Int32).toInt = 0 := by decide
theorem pz_1 : (1 : Int32).toInt = 1 := by decide
theorem pz_2 : (2 : Int32).toInt = 2 := by decide
theorem pz_3 : (3 : Int32).toInt = 3 := by decide
theorem pz_4 : (4 : Int32).toInt = 4 := by decide
theorem pz_5 : (5 : Int32).toInt = 5 := by decide
theorem pz_6 : (6 : Int32).toInt = 6 := by decide
theorem pz_7 : (7 : Int32).toInt = 7 := by decide
theorem pz_8 : (8 : Int32).toInt = 8 := by decide
theorem pz_9 : (9 : Int32).toInt = 9 := by decide
theorem pz_20 : (20 : Int32).toInt = 20 := by decide
theorem pz_32 : (32 : Int32).toInt = 32 := by decide
theorem pz_36 : (36 : Int32).toInt = 36 := by decide
theorem pz_40 : (40 : Int32).toInt = 40 := by decide
theorem pz_60 : (60 : Int32).toInt = 60 := by decide
theorem pz_99 : (99 : Int32).toInt = 99 := by decide
theorem pz_126 : (126 : Int32).toInt = 126 := by decide
theorem pz_380 : (380 : Int32).toInt = 380 := by decide
theorem pz_399 : (399 : Int32).toInt = 399 := by decide
theorem pz_4095 : (4095 : Int32).toInt = 4095 := by decide
theorem pz_9999 : (9999 : Int32).toInt = 9999 := by decide
theorem ps_isIn {x lo hi : Int32} {S : gw_S} : f_X8_isIn x lo hi S = some (if lo.toInt ≤ x.toInt ∧ x.toInt ≤ hi.toInt then 1 else 0) := by
  unfold f_X8_isIn
  simp only [Int32.lt_iff_toInt_lt]
  by_cases h1 : x.toInt < lo.toInt
  · rw [if_pos h1, if_neg (by omega)]
  · rw [if_neg h1]
    by_cases h2 : hi.toInt < x.toInt
    · rw [if_pos h2, if_neg (by omega)]
    · rw [if_neg h2, if_pos (by omega)]
theorem ps_c1 {x y : Int64} : lg_cmp x y < 0 ↔ x.toInt < y.toInt := by
  unfold lg_cmp
  simp only [gt_iff_lt, Int64.lt_iff_toInt_lt, ← Int64.toInt_inj]
  by_cases h1 : y.toInt < x.toInt
  · rw [if_pos h1]; constructor
    · intro h; exact absurd h (by decide)
    · intro h; omega
  · rw [if_neg h1]
    by_cases h2 : x.toInt = y.toInt
    · rw [if_pos h2]; constructor
      · intro h; exact absurd h (by decide)
      · intro h; omega
    · rw [if_neg h2]; constructor
      · intro h; omega
      · intro h; decide
theorem ps_c2 {x y : Int64} : 0 < lg_cmp x y ↔ y.toInt < x.toInt := by
  unfold lg_cmp
  simp only [gt_iff_lt, Int64.lt_iff_toInt_lt, ← Int64.toInt_inj]
  by_cases h1 : y.toInt < x.toInt
  · rw [if_pos h1]; constructor
    · intro h; exact h1
    · intro h; decide
  · rw [if_neg h1]
    by_cases h2 : x.toInt = y.toInt
    · rw [if_pos h2]; constructor
      · intro h; exact absurd h (by decide)
      · intro h; omega
    · rw [if_neg h2]; constructor
      · intro h; exact absurd h (by decide)
      · intro h; omega
theorem ps_in64 {v lo hi : Int64} {S : gw_S} : f_X9_in v lo hi S = some (if lo.toInt ≤ v.toInt ∧ v.toInt ≤ hi.toInt then 1 else 0) := by
  unfold f_X9_in
  simp only [ps_c1, ps_c2]
  by_cases h1 : v.toInt < lo.toInt
  · rw [if_pos h1, if_neg (by omega)]
  · rw [if_neg h1]
    by_cases h2 : hi.toInt < v.toInt
    · rw [if_pos h2, if_neg (by omega)]
    · rw [if_neg h2, if_pos (by omega)]
theorem ps_in {x : Int32} {lo hi : Int64} {S : gw_S} : f_X9_in x.toInt64 lo hi S = some (if lo.toInt ≤ x.toInt ∧ x.toInt ≤ hi.toInt then 1 else 0) := by
  rw [ps_in64, Int32.toInt_toInt64]
theorem pq_m1 : (-1 : Int64).toInt = -1 := by decide
theorem pq_0 : (0 : Int64).toInt = 0 := by decide
theorem pq_1 : (1 : Int64).toInt = 1 := by decide
theorem pq_2 : (2 : Int64).toInt = 2 := by decide
theorem pq_3 : (3 : Int64).toInt = 3 := by decide
theorem pq_4 : (4 : Int64).toInt = 4 := by decide
theorem pq_5 : (5 : Int64).toInt = 5 := by decide
theorem pq_6 : (6 : Int64).toInt = 6 := by decide
theorem pq_8 : (8 : Int64).toInt = 8 := by decide
theorem pq_9 : (9 : Int64).toInt = 9 := by decide
theorem pq_20 : (20 : Int64).toInt = 20 := by decide
theorem pq_32 : (32 : Int64).toInt = 32 := by decide
theorem pq_40 : (40 : Int64).toInt = 40 := by decide
theorem pq_48 : (48 : Int64).toInt = 48 := by decide
theorem pq_57 : (57 : Int64).toInt = 57 := by decide
theorem pq_99 : (99 : Int64).toInt = 99 := by decide
theorem pq_126 : (126 : Int64).toInt = 126 := by decide
theorem pq_380 : (380 : Int64).toInt = 380 := by decide
theorem pq_399 : (399 : Int64).toInt = 399 := by decide
theorem pq_4095 : (4095 : Int64).toInt = 4095 := by decide
theorem pq_9999 : (9999 : Int64).toInt = 9999 := by decide
theorem ps_z {c : Prop} [Decidable c] : gw_gd ((if c then (1 : Int32) else 0) = 0 ∨ (if c then (1 : Int32) else 0) = 1) (some (if c then (1 : Int32) else 0)) = some (if c then 1 else 0) := by
  by_cases h : c
  · simp [gw_gd, h]
  · simp [gw_gd, h]
theorem ps_br {β : Type} {c : Prop} [Decidable c] {X Y : Option β} : gw_bd (some (if c then (1 : Int32) else 0)) (fun r => if r = 0 then X else Y) = if c then Y else X := by
  by_cases h : c
  · simp [gw_bd, h]
  · simp [gw_bd, h]
theorem ps_isTown {x : Int32} {S : gw_S} : f_X8_isTown x S = some (if 0 ≤ x.toInt ∧ x.toInt ≤ 8 then 1 else 0) := by unfold f_X8_isTown; rw [ps_isIn, gw_bdS, ps_z, pz_0, pz_8]
theorem ps_isMaker {x : Int32} {S : gw_S} : f_X8_isMaker x S = some (if 0 ≤ x.toInt ∧ x.toInt ≤ 5 then 1 else 0) := by unfold f_X8_isMaker; rw [ps_isIn, gw_bdS, ps_z, pz_0, pz_5]
theorem ps_isLabel {x : Int32} {S : gw_S} : f_X8_isLabel x S = some (if 1 ≤ x.toInt ∧ x.toInt ≤ 40 then 1 else 0) := by unfold f_X8_isLabel; rw [ps_isIn, gw_bdS, ps_z, pz_1, pz_40]
theorem ps_isDay {x : Int32} {S : gw_S} : f_X8_isDay x S = some (if 0 ≤ x.toInt ∧ x.toInt ≤ 399 then 1 else 0) := by unfold f_X8_isDay; rw [ps_isIn, gw_bdS, ps_z, pz_0, pz_399]
theorem ps_isSheet {x : Int32} {S : gw_S} : f_X8_isSheet x S = some (if 0 ≤ x.toInt ∧ x.toInt ≤ 3 then 1 else 0) := by unfold f_X8_isSheet; rw [ps_isIn, gw_bdS, ps_z, pz_0, pz_3]
theorem ps_isLane {x : Int32} {S : gw_S} : f_X8_isLane x S = some (if 0 ≤ x.toInt ∧ x.toInt ≤ 2 then 1 else 0) := by unfold f_X8_isLane; rw [ps_isIn, gw_bdS, ps_z, pz_0, pz_2]
theorem pm_isTown {x : Int32} {S : gw_S} : f_X9_isTown x S = some (if 0 ≤ x.toInt ∧ x.toInt ≤ 8 then 1 else 0) := by unfold f_X9_isTown; rw [ps_in, gw_bdS, ps_z, pq_0, pq_8]
theorem pm_isMaker {x : Int32} {S : gw_S} : f_X9_isMaker x S = some (if 0 ≤ x.toInt ∧ x.toInt ≤ 5 then 1 else 0) := by unfold f_X9_isMaker; rw [ps_in, gw_bdS, ps_z, pq_0, pq_5]
theorem pm_isLabel {x : Int32} {S : gw_S} : f_X9_isLabel x S = some (if 1 ≤ x.toInt ∧ x.toInt ≤ 40 then 1 else 0) := by unfold f_X9_isLabel; rw [ps_in, gw_bdS, ps_z, pq_1, pq_40]
/-- a whole number behind its checks -/
theorem ps_nI {x : Int32} {n : Nat} (h : 0 ≤ x.toInt ∧ x.toInt ≤ n) (hn : n < 2 ^ 31) : ∃ j : Nat, j ≤ n ∧ x = nI j := by
  obtain ⟨j, hj, rfl⟩ := nI_of (x := x) (by rw [Int32.lt_iff_toInt_lt, Int32.toInt_zero]; omega)
  rw [nI_toInt hj] at h
  exact ⟨j, by omega, rfl⟩
theorem ps_gin {x : Int32} {n : Nat} (h : 0 ≤ x.toInt ∧ x.toInt < n) : gw_in x n := by
  rw [gw_in, Int32.lt_iff_toInt_lt, Int32.toInt_zero]
  show ¬ (x.toInt < 0 ∨ n ≤ x.toInt.toNat)
  omega
theorem ps_law2 {f1 f2 : Option (Int32 × gw_S)} {r : Int32} {S1 M1 : gw_S} {K : gw_S → gw_S → Option Int32} (h1 : f1 = some (r, S1)) (h2 : f2 = some (r, M1)) : gw_b2 f1 (fun r1 S1 => gw_b2 f2 (fun r2 M1 => if r1 = r2 then K S1 M1 else some 0)) = K S1 M1 := by
  subst h1; subst h2; simp [gw_b2]
theorem zs_pieceAt {x : Int32} {S : gw_S} (h : S 3 6 = 0) : f_X2_pieceAt x S = some (-1) := by
  unfold f_X2_pieceAt
  rw [h]
  by_cases h1 : x < 0
  · rw [if_pos h1]
  · rw [if_neg h1, if_pos (by rw [Int32.le_iff_toInt_le]; rw [Int32.lt_iff_toInt_lt] at h1; omega)]
theorem zs_bookingAt {x : Int32} {S : gw_S} (h : S 3 7 = 0) : f_X2_bookingAt x S = some (-1) := by
  unfold f_X2_bookingAt
  rw [h]
  by_cases h1 : x < 0
  · rw [if_pos h1]
  · rw [if_neg h1, if_pos (by rw [Int32.le_iff_toInt_le]; rw [Int32.lt_iff_toInt_lt] at h1; omega)]
theorem pz_q : ((0 : Int32) - 1).toInt64.toInt = -1 := by decide
theorem zm_isPiece {x : Int32} {S : gw_S} (h : S 0 8 = 0) : f_X9_isPiece x S = some 0 := by
  unfold f_X9_isPiece
  rw [h, ps_in, gw_bdS, ps_z, if_neg (by rw [pz_q, pq_0]; omega)]
theorem zm_isThere {x : Int32} {S : gw_S} (h : S 0 29 = 0) : f_X9_isThere x S = some 0 := by
  unfold f_X9_isThere
  rw [h, ps_in, gw_bdS, ps_z, if_neg (by rw [pz_q, pq_0]; omega)]
theorem zl_22 {f1 f2 : Option (Int32 × gw_S)} {r : Int32} {S1 M1 : gw_S} {K : gw_S → gw_S → Option Int32} (h1 : f1 = some (r, S1)) (h2 : f2 = some (r, M1)) (hK : ∀ S M, K S M = some 1) : gw_b2 f1 (fun r1 S1 => gw_b2 f2 (fun r2 M1 => if r1 = r2 then K S1 M1 else some 0)) = some 1 := by
  subst h1; subst h2; simp [gw_b2, hK]
theorem zl_11 {f1 f2 : Option Int32} {r : Int32} {S1 M1 : gw_S} {K : gw_S → gw_S → Option Int32} (h1 : f1 = some r) (h2 : f2 = some r) (hK : ∀ S M, K S M = some 1) : gw_bd f1 (fun r1 => gw_bd f2 (fun r2 => if r1 = r2 then K S1 M1 else some 0)) = some 1 := by
  subst h1; subst h2; simp [gw_bd, hK]
theorem zl_12 {f1 : Option Int32} {f2 : Option (Int32 × gw_S)} {r : Int32} {S1 M1 : gw_S} {K : gw_S → gw_S → Option Int32} (h1 : f1 = some r) (h2 : f2 = some (r, M1)) (hK : ∀ S M, K S M = some 1) : gw_bd f1 (fun r1 => gw_b2 f2 (fun r2 M1 => if r1 = r2 then K S1 M1 else some 0)) = some 1 := by
  subst h1; subst h2; simp [gw_bd, gw_b2, hK]
theorem ps_br0 {β : Type} {c : Prop} [Decidable c] {r : Int32} {X Y : Option β} : gw_bd (some (-1 : Int32)) (fun r => if r = -1 then X else Y) = X := by simp [gw_bd]
section Z
variable {S M : gw_S} {x1 x2 x3 x4 : Int32}
theorem zs_hem (h : S 3 6 = 0) : f_X8_hem x1 x2 S = some (-1, S) := by unfold f_X8_hem; rw [zs_pieceAt h, gw_bdS, if_pos rfl]
theorem zm_hem (h : M 0 8 = 0) : f_X9_hem x1 x2 M = some (-1, M) := by unfold f_X9_hem; rw [zm_isPiece h, gw_bdS, if_pos rfl]
theorem zs_told (h : S 3 6 = 0) : f_X8_told x1 x2 S = some (-1) := by unfold f_X8_told; rw [zs_pieceAt h, gw_bdS, if_pos rfl]
theorem zm_told (h : M 0 8 = 0) : f_X9_told x1 x2 M = some (-1) := by unfold f_X9_told; rw [zm_isPiece h, gw_bdS, if_pos rfl]
theorem zs_fits (h : S 3 6 = 0) : f_X8_fits x1 x2 x3 S = some (-1) := by unfold f_X8_fits; rw [zs_pieceAt h, gw_bdS, if_pos rfl]
theorem zm_fits (h : M 0 8 = 0) : f_X9_fits x1 x2 x3 M = some (-1, M) := by unfold f_X9_fits; rw [zm_isPiece h, gw_bdS, if_pos rfl]
theorem zs_off (h : S 3 7 = 0) : f_X8_off x1 x2 S = some (-1, S) := by unfold f_X8_off; rw [zs_bookingAt h, gw_bdS, if_pos rfl]
theorem zm_off (h : M 0 29 = 0) : f_X9_off x1 x2 M = some (-1, M) := by unfold f_X9_off; rw [zm_isThere h, gw_bdS, if_pos rfl]
theorem zs_give (h : S 3 7 = 0) : f_X8_give x1 S = some (-1, S) := by unfold f_X8_give; rw [zs_bookingAt h, gw_bdS, if_pos rfl]
theorem zm_give (h : M 0 29 = 0) : f_X9_give x1 M = some (-1, M) := by unfold f_X9_give; rw [zm_isThere h, gw_bdS, if_pos rfl]
theorem zs_has (h : S 3 7 = 0) : f_X8_has x1 S = some (-1) := by unfold f_X8_has; rw [zs_bookingAt h, gw_bdS, if_pos rfl]
theorem zm_has (h : M 0 29 = 0) : f_X9_has x1 M = some (-1) := by unfold f_X9_has; rw [zm_isThere h, gw_bdS, if_pos rfl]
theorem zs_free (h : S 3 6 = 0) (h7 : S 3 7 = 0) : f_X8_free x1 x2 S = some (-1) := by unfold f_X8_free; rw [zs_pieceAt h, gw_bdS, zs_bookingAt h7, gw_bdS, if_pos rfl]
theorem zm_free (h : M 0 8 = 0) : f_X9_free x1 x2 M = some (-1) := by unfold f_X9_free; rw [zm_isPiece h, gw_bdS, if_pos rfl]
theorem zs_away (h : S 3 6 = 0) (h7 : S 3 7 = 0) : f_X8_away x1 x2 x3 S = some (-1) := by unfold f_X8_away; rw [zs_pieceAt h, gw_bdS, zs_bookingAt h7, gw_bdS, if_pos rfl]
theorem zm_away (h : M 0 8 = 0) : f_X9_away x1 x2 x3 M = some (-1) := by unfold f_X9_away; rw [zm_isPiece h, gw_bdS, if_pos rfl]
theorem zs_tear (h : S 3 6 = 0) : f_X8_tear x1 x2 S = some (-1, S) := by unfold f_X8_tear; rw [zs_pieceAt h, gw_bdS, if_pos rfl]
theorem zm_tear (h : M 0 8 = 0) : f_X9_tear x1 x2 M = some (-1, M) := by unfold f_X9_tear; rw [zm_isPiece h, gw_bdS, if_pos rfl]
theorem zs_mend (h : S 3 6 = 0) : f_X8_mend x1 S = some (-1, S) := by unfold f_X8_mend; rw [zs_pieceAt h, gw_bdS, if_pos rfl]
theorem zm_mend (h : M 0 8 = 0) : f_X9_mend x1 M = some (-1, M) := by unfold f_X9_mend; rw [zm_isPiece h, gw_bdS, if_pos rfl]
theorem zs_chain (h : S 3 7 = 0) : f_X8_chain x1 S = some (-1, S) := by unfold f_X8_chain; rw [zs_bookingAt h, gw_bdS, if_pos rfl]
theorem zm_chain (h : M 0 29 = 0) : f_X9_chain x1 M = some (-1, M) := by unfold f_X9_chain; rw [zm_isThere h, gw_bdS, if_pos rfl]
theorem zs_link (h : S 3 7 = 0) : f_X8_link x1 x2 x3 S = some (-1, S) := by
  unfold f_X8_link
  rw [zs_chain h, gw_b2S, ps_isIn, ps_br, if_neg (show ¬ (0 : Int32) ≤ -1 by decide)]
  split
  · rfl
  · split <;> rfl
theorem zm_link (h : M 0 29 = 0) : f_X9_link x1 x2 x3 M = some (-1, M) := by unfold f_X9_link; rw [zm_isThere h, gw_bdS, if_pos rfl]
theorem zs_swap (h : S 3 7 = 0) : f_X8_swap x1 S = some (-1, S) := by unfold f_X8_swap; rw [zs_chain h, gw_b2S, if_pos (by decide)]
theorem zm_swap (h : M 0 29 = 0) : f_X9_swap x1 M = some (-1, M) := by unfold f_X9_swap; rw [zm_isThere h, gw_bdS, if_pos rfl]
theorem zs_out (h : S 3 7 = 0) : f_X8_out x1 x2 S = some (-1, S) := by unfold f_X8_out; rw [zs_bookingAt h, gw_bdS, if_pos rfl]
theorem zm_out (h : M 0 29 = 0) : f_X9_out x1 x2 M = some (-1, M) := by unfold f_X9_out; rw [zm_isThere h, gw_bdS, if_pos rfl]
theorem zs_home (h : S 3 7 = 0) : f_X8_home x1 x2 x3 S = some (-1000001, S) := by unfold f_X8_home; rw [zs_bookingAt h, gw_bdS, if_pos rfl]
theorem zm_home (h : M 0 29 = 0) : f_X9_home x1 x2 x3 M = some (-1000001, M) := by unfold f_X9_home; rw [zm_isThere h, gw_bdS, if_pos rfl]
theorem zs_about (h : S 3 7 = 0) : f_X8_about x1 x2 S = some (-1) := by unfold f_X8_about; rw [zs_bookingAt h, gw_bdS, if_pos rfl]
theorem zm_about (h : M 0 29 = 0) : f_X9_about x1 x2 M = some (-1) := by unfold f_X9_about; rw [zm_isThere h, gw_bdS, if_pos rfl]
theorem zs_retire (h : S 3 6 = 0) : f_X8_retire x1 S = some (-1, S) := by unfold f_X8_retire; rw [zs_pieceAt h, gw_bdS, if_pos rfl]
theorem zm_retire (h : M 0 8 = 0) : f_X9_retire x1 M = some (-1, M) := by unfold f_X9_retire; rw [zm_isPiece h, gw_bdS, if_pos rfl]
end Z
def gw_zL : gw_S := (f_X3_init_t (fun _ _ => 0)).getD (fun _ _ => 0)
def gw_zH : gw_S := (f_X2_init_t (gw_SH gw_zL)).getD (fun _ _ => 0)
def gw_zM : gw_S := (f_X9_init_t gw_SM).getD (fun _ _ => 0)
set_option maxRecDepth 100000 in
theorem gw_zLi : (f_X3_init_t (fun _ _ => 0)).isSome = true := by decide +kernel
set_option maxRecDepth 100000 in
theorem gw_zMi : (f_X9_init_t gw_SM).isSome = true := by decide +kernel
set_option maxRecDepth 100000 in
theorem gw_zHi : (f_X2_init_t (gw_SH gw_zL)).isSome = true := by decide +kernel
theorem gw_isS {α : Type} {o : Option α} {x : α} (h : o.isSome = true) : o = some (o.getD x) := by cases o with | none => cases h | some y => rfl
theorem gw_zLe : f_X3_init_t (fun _ _ => 0) = some gw_zL := gw_isS gw_zLi
theorem gw_zHe : f_X2_init_t (gw_SH gw_zL) = some gw_zH := gw_isS gw_zHi
theorem gw_zMe : f_X9_init_t gw_SM = some gw_zM := gw_isS gw_zMi
def z_S : gw_S := gw_SG gw_zH
theorem z_a : z_S 3 6 = 0 ∧ z_S 3 7 = 0 ∧ z_S 1 1 = 0 ∧ z_S 7 3 = 0 ∧ z_S 7 4 = 0 := by decide +kernel
theorem z_b : ∀ i, i < 8 → z_S 5 i = gw_zM 3 i := by decide +kernel
theorem z_c : ∀ i, i < 8 → gw_LET i = gw_zM 1 i := by decide +kernel
theorem z_d : ∀ i, i < 81 → z_S 11 i = gw_zM 6 i := by decide +kernel
def gw_zN : gw_S := (f_X9_findLies gw_zM).getD (fun _ _ => 0)
set_option maxRecDepth 100000 in
theorem gw_zNi : (f_X9_findLies gw_zM).isSome = true := by decide +kernel
theorem gw_zNe : f_X9_findLies gw_zM = some gw_zN := gw_isS gw_zNi
theorem z_m : gw_zM 0 5 = 0 ∧ gw_zM 0 8 = 0 ∧ gw_zM 0 29 = 0 ∧ gw_zM 0 21 = 0 ∧ gw_zN 0 28 = 0 := by decide +kernel
theorem z_lo : ∀ i, i < 6 → z_S 9 i = gw_zN 23 i := by decide +kernel
theorem z_hi : ∀ i, i < 6 → z_S 10 i = gw_zN 24 i := by decide +kernel
set_option maxRecDepth 100000 in
theorem z_terms : (f_X8_terms z_S).isSome = true ∧ (f_X9_terms gw_zM).isSome = true ∧ ((f_X8_terms z_S).getD (0, fun _ _ => 0)).1 = ((f_X9_terms gw_zM).getD (0, fun _ _ => 0)).1 := by decide +kernel
theorem zl_ex {f1 f2 : Option (Int32 × gw_S)} {d1 d2 : Int32 × gw_S} (h : f1.isSome = true ∧ f2.isSome = true ∧ (f1.getD d1).1 = (f2.getD d2).1) : ∃ r S1 M1, f1 = some (r, S1) ∧ f2 = some (r, M1) := by
  obtain ⟨h1, h2, h3⟩ := h
  cases f1 with
  | none => cases h1
  | some a => cases f2 with
    | none => cases h2
    | some b => exact ⟨a.1, a.2, b.2, rfl, by rw [show a.1 = b.1 from h3]⟩
theorem zl_22x {f1 f2 : Option (Int32 × gw_S)} {K : gw_S → gw_S → Option Int32} (h : ∃ r S1 M1, f1 = some (r, S1) ∧ f2 = some (r, M1)) (hK : ∀ S M, K S M = some 1) : gw_b2 f1 (fun r1 S1 => gw_b2 f2 (fun r2 M1 => if r1 = r2 then K S1 M1 else some 0)) = some 1 := by
  obtain ⟨r, S1, M1, h1, h2⟩ := h
  exact zl_22 h1 h2 hK
theorem zl_12x {f1 : Option Int32} {f2 : Option (Int32 × gw_S)} {S1 : gw_S} {K : gw_S → gw_S → Option Int32} (h : ∃ r M1, f1 = some r ∧ f2 = some (r, M1)) (hK : ∀ S M, K S M = some 1) : gw_bd f1 (fun r1 => gw_b2 f2 (fun r2 M1 => if r1 = r2 then K S1 M1 else some 0)) = some 1 := by
  obtain ⟨r, M1, h1, h2⟩ := h
  exact zl_12 h1 h2 hK
theorem zl_11x {f1 : Option Int32} {f2 : Option Int32} {S1 M1 : gw_S} {K : gw_S → gw_S → Option Int32} (h : ∃ r, f1 = some r ∧ f2 = some r) (hK : ∀ S M, K S M = some 1) : gw_bd f1 (fun r1 => gw_bd f2 (fun r2 => if r1 = r2 then K S1 M1 else some 0)) = some 1 := by
  obtain ⟨r, h1, h2⟩ := h
  exact zl_11 h1 h2 hK
theorem zx {f1 f2 : Option (Int32 × gw_S)} {r r' : Int32} {S1 M1 : gw_S} (h1 : f1 = some (r, S1)) (h2 : f2 = some (r', M1)) (e : r' = r) : ∃ r S1 M1, f1 = some (r, S1) ∧ f2 = some (r, M1) := ⟨r, S1, M1, h1, by rw [h2, e]⟩
theorem gw_gdX {β : Type} {c : Prop} {i : Decidable c} {k : Option β} (h : c) : @gw_gd β c i k = k := by unfold gw_gd; rw [if_pos h]
section Z2
variable {x1 x2 x3 x4 x5 x6 : Int32}
theorem ze_terms : ∃ r S1 M1, f_X8_terms z_S = some (r, S1) ∧ f_X9_terms gw_zM = some (r, M1) := zl_ex z_terms
theorem ze_quarrel : ∃ r M1, f_X8_quarrel z_S = some r ∧ f_X9_quarrel gw_zM = some (r, M1) := by
  refine ⟨0, gw_zN, ?_, ?_⟩
  · unfold f_X8_quarrel; rw [if_pos z_a.2.2.2.2]
  · unfold f_X9_quarrel; rw [gw_zNe, gw_bdS, if_pos z_m.2.2.2.2]
theorem pn_n0 {j : Nat} (h : j < 2 ^ 31) : ¬ nI j < 0 := by rw [Int32.lt_iff_toInt_lt, nI_toInt h, Int32.toInt_zero]; omega
theorem pn_le {j n : Nat} (h : j < n) (hn : n < 2 ^ 31) : ¬ nI n ≤ nI j := by rw [Int32.le_iff_toInt_le, nI_toInt hn, nI_toInt (by omega)]; omega
theorem ps_low {S : gw_S} {j : Nat} (h : j < 6) : f_X3_low (nI j) S = some (S 9 j) := by
  unfold f_X3_low
  rw [if_neg (pn_n0 (by omega)), if_neg (show ¬ (6 : Int32) ≤ nI j from pn_le (n := 6) h (by omega)), gw_gdT (ps_gin (by rw [nI_toInt (by omega)]; omega)), nI_clamp (by omega)]
theorem ps_high {S : gw_S} {j : Nat} (h : j < 6) : f_X3_high (nI j) S = some (S 10 j) := by
  unfold f_X3_high
  rw [if_neg (pn_n0 (by omega)), if_neg (show ¬ (6 : Int32) ≤ nI j from pn_le (n := 6) h (by omega)), gw_gdT (ps_gin (by rw [nI_toInt (by omega)]; omega)), nI_clamp (by omega)]
theorem ze_lie : ∃ r M1, f_X8_lie x1 x2 z_S = some r ∧ f_X9_lie x1 x2 gw_zM = some (r, M1) := by
  unfold f_X8_lie f_X9_lie
  rw [ps_isMaker, ps_br, pm_isMaker, ps_br, ps_isIn, ps_br, ps_in, ps_br, gw_zNe, gw_bdS]
  by_cases h1 : 0 ≤ x1.toInt ∧ x1.toInt ≤ 5
  · rw [if_pos h1, if_pos h1]
    obtain ⟨j, hj, rfl⟩ := ps_nI (n := 5) h1 (by omega)
    rw [pz_0, pz_1, pq_0, pq_1, ps_low (by omega), ps_high (by omega), gw_gdT (ps_gin (by rw [nI_toInt (by omega)]; omega)), gw_gdT (ps_gin (by rw [nI_toInt (by omega)]; omega)), nI_clamp (by omega), ← z_lo j (by omega), ← z_hi j (by omega), gw_bdS, gw_bdS]
    by_cases h2 : 0 ≤ x2.toInt ∧ x2.toInt ≤ 1
    · rw [if_pos h2, if_pos h2]
      by_cases h3 : x2 = 0
      · rw [if_pos h3, if_pos h3]; exact ⟨_, _, rfl, rfl⟩
      · rw [if_neg h3, if_neg h3]; exact ⟨_, _, rfl, rfl⟩
    · rw [if_neg h2, if_neg h2]; exact ⟨_, _, rfl, rfl⟩
  · rw [if_neg h1, if_neg h1]; exact ⟨_, _, rfl, rfl⟩
theorem ze_drop : ∃ r S1 M1, f_X8_drop x1 z_S = some (r, S1) ∧ f_X9_drop x1 gw_zM = some (r, M1) := by
  unfold f_X8_drop f_X9_drop
  rw [ps_isSheet, ps_br, ps_in, ps_br, pq_0, pq_3]
  by_cases h1 : 0 ≤ x1.toInt ∧ x1.toInt ≤ 3
  · rw [if_pos h1, if_pos h1]
    obtain ⟨j, hj, rfl⟩ := ps_nI (n := 3) h1 (by omega)
    have hz : ∀ j, j ≤ 3 → z_S (21 + j) 1 = 0 ∧ ¬ 0 ≤ gw_zM 43 j := by decide +kernel
    have hg : gw_in (nI j) 4 := ps_gin (by rw [nI_toInt (by omega)]; omega)
    rw [gw_gdT hg, gw_gdT hg, gw_gdT (show (nI j).toNatClampNeg < 4 by rw [nI_clamp (by omega)]; omega), nI_clamp (by omega), if_pos (hz j hj).1, if_neg (hz j hj).2]
    exact ⟨_, _, _, rfl, rfl⟩
  · rw [if_neg h1, if_neg h1]; exact ⟨_, _, _, rfl, rfl⟩
end Z2
section Z3
variable {x1 x2 x3 x4 x5 x6 : Int32} {S M : gw_S}
def gw_wp {α : Type} (o : Option α) (P : α → Prop) : Prop := ∃ x, o = some x ∧ P x
theorem gw_wpS {α : Type} {x : α} {P : α → Prop} (h : P x) : gw_wp (some x) P := ⟨x, rfl, h⟩
theorem gw_wpB {α β : Type} {o : Option α} {Q : α → Prop} {k : α → Option β} {P : β → Prop} (h : gw_wp o Q) (hk : ∀ x, Q x → gw_wp (k x) P) : gw_wp (gw_bd o k) P := by
  obtain ⟨x, rfl, hx⟩ := h; exact hk x hx
/-- term -/
theorem ze_place (hL : ∀ i, i < 8 → gw_LET i = M 1 i) (v : Int32) : ∀ k, k ≤ 8 → ∀ n, k < n → ∃ r, f_X7_placeOf_b2 S n v (nI (8 - k)) = some r ∧ f_X9_termOf_b2 M n v (nI (8 - k)) = some r ∧ (r = -1 ∨ ∃ j, j < 8 ∧ r = nI j)
  | 0, _, n + 1, _ => ⟨-1, by rw [f_X7_placeOf_b2, if_pos (by decide)], by rw [f_X9_termOf_b2, if_pos (by decide)], Or.inl rfl⟩
  | k + 1, hk, n + 1, hn => by
    have hj : 8 - (k + 1) < 8 := by omega
    have hg : gw_in (nI (8 - (k + 1))) 8 := ps_gin (by rw [nI_toInt (by omega)]; omega)
    have e1 : nI (8 - (k + 1)) + (1 : Int32) = nI (8 - k) := by rw [nI_1]; congr 1; omega
    rw [f_X7_placeOf_b2, f_X9_termOf_b2, if_neg (show ¬ (8 : Int32) ≤ nI (8 - (k + 1)) from pn_le (n := 8) hj (by omega)), if_neg (show ¬ (8 : Int32) ≤ nI (8 - (k + 1)) from pn_le (n := 8) hj (by omega)), gw_gdT hg, gw_gdT hg, nI_clamp (by omega), hL _ hj]
    by_cases h : M 1 (8 - (k + 1)) = v
    · rw [if_pos h, if_pos h]; exact ⟨_, rfl, rfl, Or.inr ⟨_, hj, rfl⟩⟩
    · rw [if_neg h, if_neg h, gw_letS, gw_letS, e1]
      exact ze_place hL v k (by omega) n (by omega)
theorem ps_at {j : Nat} (h : j < 8) : f_X7_at (nI j) S = some (S 5 j) := by
  unfold f_X7_at
  rw [if_neg (pn_n0 (by omega)), if_neg (show ¬ (8 : Int32) ≤ nI j from pn_le (n := 8) h (by omega)), gw_gdT (ps_gin (by rw [nI_toInt (by omega)]; omega)), nI_clamp (by omega)]
theorem pn_p0 {j : Nat} (h : j < 2 ^ 31) : 0 ≤ nI j := by rw [Int32.le_iff_toInt_le, nI_toInt h, Int32.toInt_zero]; omega
theorem ze_term : ∃ r, f_X8_term x1 z_S = some r ∧ f_X9_term x1 gw_zM = some r := by
  unfold f_X8_term f_X9_term f_X7_placeOf f_X9_termOf
  obtain ⟨r, h1, h2, h3⟩ := ze_place (S := z_S) z_c x1 8 (Nat.le_refl 8) gw_F (by decide)
  rw [show nI (8 - 8) = (0 : Int32) from rfl] at h1 h2
  rw [h1, h2, gw_bdS, gw_bdS]
  rcases h3 with rfl | ⟨j, hj, rfl⟩
  · rw [if_neg (by decide), if_neg (by decide)]; exact ⟨_, rfl, rfl⟩
  · rw [if_pos (pn_p0 (by omega)), if_pos (pn_p0 (by omega)), ps_at hj, gw_bdS, gw_gdT (ps_gin (by rw [nI_toInt (by omega)]; omega)), nI_clamp (by omega)]; exact ⟨_, rfl, congrArg some (z_b j hj).symm⟩
/-- post -/
theorem p_mul9 : ∀ i, i ≤ 8 → ∀ j, j ≤ 8 → nI i * 9 + nI j = nI (9 * i + j) ∧ 9 * nI i + nI j = nI (9 * i + j) := by decide +kernel
theorem pi_in {j n : Nat} (h : j < n) (hn : n < 2 ^ 31) : gw_in (nI j) n := ps_gin (by rw [nI_toInt (by omega)]; omega)
theorem ps_setPost {i j : Nat} (hi : i ≤ 8) (hj : j ≤ 8) : ∃ S1, f_X2_setPost (nI i) (nI j) x3 S = some S1 := by
  unfold f_X2_setPost
  rw [ps_isTown, ps_br, if_pos (by rw [nI_toInt (by omega)]; omega), ps_isTown, ps_br, if_pos (by rw [nI_toInt (by omega)]; omega), (p_mul9 i hi j hj).1, (p_mul9 j hj i hi).1, gw_gdT (pi_in (by omega) (by omega)), gw_letS, gw_gdT (pi_in (by omega) (by omega)), gw_letS]
  exact ⟨_, rfl⟩
theorem ps_postB {i j : Nat} (hi : i ≤ 8) (hj : j ≤ 8) : f_X2_postBetween (nI i) (nI j) S = some (S 11 (9 * i + j)) := by
  unfold f_X2_postBetween
  rw [(p_mul9 i hi j hj).1, gw_letS, if_neg (pn_n0 (by omega)), if_neg (show ¬ (81 : Int32) ≤ nI (9 * i + j) from pn_le (n := 81) (by omega) (by omega)), gw_gdT (pi_in (by omega) (by omega)), nI_clamp (by omega)]
theorem ze_post : ∃ r S1 M1, f_X8_post x1 x2 x3 z_S = some (r, S1) ∧ f_X9_post x1 x2 x3 gw_zM = some (r, M1) := by
  unfold f_X8_post f_X9_post
  rw [ps_isTown, ps_br, pm_isTown, ps_br, ps_isTown, ps_br, pm_isTown, ps_br, ps_isIn, ps_br, ps_in, ps_br, pz_0, pz_9, pq_0, pq_9]
  by_cases h1 : 0 ≤ x1.toInt ∧ x1.toInt ≤ 8
  · rw [if_pos h1, if_pos h1]
    by_cases h2 : 0 ≤ x2.toInt ∧ x2.toInt ≤ 8
    · rw [if_pos h2, if_pos h2]
      by_cases h3 : x1 = x2
      · rw [if_pos h3, if_pos h3]; exact ⟨_, _, _, rfl, rfl⟩
      · rw [if_neg h3, if_neg h3]
        by_cases h4 : 0 ≤ x3.toInt ∧ x3.toInt ≤ 9
        · rw [if_pos h4, if_pos h4]
          obtain ⟨i, hi, rfl⟩ := ps_nI (n := 8) h1 (by omega)
          obtain ⟨j, hj, rfl⟩ := ps_nI (n := 8) h2 (by omega)
          obtain ⟨S1, hS⟩ := ps_setPost (S := z_S) (x3 := x3) hi hj
          rw [ps_postB hi hj, gw_bdS, hS, gw_bdS, (p_mul9 i hi j hj).2, (p_mul9 j hj i hi).2, gw_gdT (pi_in (by omega) (by omega)), gw_letS, gw_letS, gw_gdT (pi_in (by omega) (by omega)), gw_letS, nI_clamp (by omega)]
          exact zx rfl rfl (z_d _ (by omega)).symm
        · rw [if_neg h4, if_neg h4]; exact ⟨_, _, _, rfl, rfl⟩
    · rw [if_neg h2, if_neg h2]; exact ⟨_, _, _, rfl, rfl⟩
  · rw [if_neg h1, if_neg h1]; exact ⟨_, _, _, rfl, rfl⟩
end Z3
section Z4
variable {x1 x2 x3 x4 x5 x6 : Int32} {S M : gw_S}
theorem p0_7 {i : Nat} {v : Int32} : gw_up S 7 i v 0 = S 0 := rfl
theorem p0_8 {i : Nat} {v : Int32} : gw_up S 8 i v 0 = S 0 := rfl
theorem p0_9 {i : Nat} {v : Int32} : gw_up S 9 i v 0 = S 0 := rfl
theorem p0_10 {i : Nat} {v : Int32} : gw_up S 10 i v 0 = S 0 := rfl
theorem p0_11 {i : Nat} {v : Int32} : gw_up S 11 i v 0 = S 0 := rfl
theorem p0_12 {i : Nat} {v : Int32} : gw_up S 12 i v 0 = S 0 := rfl
theorem p0_13 {i : Nat} {v : Int32} : gw_up S 13 i v 0 = S 0 := rfl
theorem p0_25 {i : Nat} {v : Int32} : gw_up S 25 i v 0 = S 0 := rfl
theorem p0_26 {i : Nat} {v : Int32} : gw_up S 26 i v 0 = S 0 := rfl
theorem p0_27 {i : Nat} {v : Int32} : gw_up S 27 i v 0 = S 0 := rfl
theorem p0_28 {i : Nat} {v : Int32} : gw_up S 28 i v 0 = S 0 := rfl
theorem p0_29 {i : Nat} {v : Int32} : gw_up S 29 i v 0 = S 0 := rfl
theorem p0_30 {i : Nat} {v : Int32} : gw_up S 30 i v 0 = S 0 := rfl
theorem p0_31 {i : Nat} {v : Int32} : gw_up S 31 i v 0 = S 0 := rfl
theorem p0_32 {i : Nat} {v : Int32} : gw_up S 32 i v 0 = S 0 := rfl
/-- a gown, a long gown, a suit: the first piece -/
theorem ps_keep {x : Int32} (h36 : S 3 6 = 0) (hx : x = 0) (hnp : 0 < gw_np S) : ∃ S1, f_X2_keep x S = some (0, S1) := by
  subst hx
  unfold f_X2_keep
  have e0 : (0 : Int32).toNatClampNeg = 0 := by decide
  rw [if_pos (by rw [h36]; decide), gw_gdT (by decide), e0, gw_gdT hnp, gw_letS, gw_gdT (by simpa [gw_np, gw_up] using hnp), gw_gdT (show gw_in (gw_up S (2 * 0 + 30) 7 (S 3 6) 3 6) 24 by rw [show gw_up S (2 * 0 + 30) 7 (S 3 6) 3 6 = S 3 6 from rfl, h36]; decide), gw_letS, gw_letS, gw_gdT (by simpa [gw_np, gw_up] using hnp)]
  exact ⟨_, congrArg (fun z => some (z, _)) h36⟩
set_option maxRecDepth 100000 in
theorem z_okP : gw_okP z_S := by decide +kernel
set_option maxRecDepth 100000 in
theorem z_okB : gw_okB z_S := by decide +kernel
theorem z_29 : z_S 29 0 = 0 ∧ z_S 29 1 = 0 := by decide +kernel
theorem ze_add {k : Int32} : ∃ r S1 M1, f_X8_addPiece k x1 x2 x3 x4 x5 x6 z_S = some (r, S1) ∧ f_X9_add k x1 x2 x3 x4 x5 x6 gw_zM = some (r, M1) := by
  unfold f_X8_addPiece f_X9_add
  rw [ps_isMaker, ps_br, pm_isMaker, ps_br, ps_isLabel, ps_br, pm_isLabel, ps_br, ps_isIn, ps_br, ps_in, ps_br, ps_isTown, ps_br, pm_isTown, ps_br, ps_isIn, ps_br, ps_in, ps_br, ps_isIn, ps_br, ps_in, ps_br, pz_0, pz_1, pz_9, pz_9999, pz_99, pq_0, pq_1, pq_9, pq_9999, pq_99]
  by_cases h1 : 0 ≤ x1.toInt ∧ x1.toInt ≤ 5
  · rw [if_pos h1, if_pos h1]
    by_cases h2 : 1 ≤ x2.toInt ∧ x2.toInt ≤ 40
    · rw [if_pos h2, if_pos h2]
      by_cases h3 : 0 ≤ x3.toInt ∧ x3.toInt ≤ 9
      · rw [if_pos h3, if_pos h3]
        by_cases h4 : 0 ≤ x4.toInt ∧ x4.toInt ≤ 8
        · rw [if_pos h4, if_pos h4]
          by_cases h5 : 1 ≤ x5.toInt ∧ x5.toInt ≤ 9999
          · rw [if_pos h5, if_pos h5]
            by_cases h6 : 1 ≤ x6.toInt ∧ x6.toInt ≤ 99
            · rw [if_pos h6, if_pos h6, if_pos (show z_S 3 6 < 24 by rw [z_a.1]; decide), gw_gdT z_okP, gw_letS]
              obtain ⟨S1, hS1⟩ := ps_keep (S := gw_addP z_S k x1 x2 x3 x4 x5 x6) (x := z_S 29 0) z_a.1 z_29.1 (by
                show 0 < (z_S 29 0 + 1).toNatClampNeg
                rw [z_29.1]; decide)
              rw [hS1, gw_b2S]
              have h8 := z_m.2.1
              rw [if_neg (show ¬ gw_zM 0 8 = 24 by rw [h8]; decide), gw_gdT (by rw [h8]; decide), gw_letS]
              rw [gw_gdT (by rw [p0_7, h8]; decide), gw_letS, gw_gdT (by rw [p0_8, p0_7, h8]; decide), gw_letS, gw_gdT (by rw [p0_9, p0_8, p0_7, h8]; decide), gw_letS, gw_gdT (by rw [p0_10, p0_9, p0_8, p0_7, h8]; decide), gw_letS, gw_gdT (by rw [p0_11, p0_10, p0_9, p0_8, p0_7, h8]; decide), gw_letS, gw_gdT (by rw [p0_12, p0_11, p0_10, p0_9, p0_8, p0_7, h8]; decide), gw_letS, gw_letS]
              refine zx rfl rfl ?_
              show gw_zM 0 8 + 1 - 1 = 0
              rw [h8]; decide
            · rw [if_neg h6, if_neg h6]; exact ⟨_, _, _, rfl, rfl⟩
          · rw [if_neg h5, if_neg h5]; exact ⟨_, _, _, rfl, rfl⟩
        · rw [if_neg h4, if_neg h4]; exact ⟨_, _, _, rfl, rfl⟩
      · rw [if_neg h3, if_neg h3]; exact ⟨_, _, _, rfl, rfl⟩
    · rw [if_neg h2, if_neg h2]; exact ⟨_, _, _, rfl, rfl⟩
  · rw [if_neg h1, if_neg h1]; exact ⟨_, _, _, rfl, rfl⟩
theorem zl_b2 {f1 f2 : Option (Int32 × gw_S)} (h : ∃ r S1 M1, f1 = some (r, S1) ∧ f2 = some (r, M1)) : ∃ r S1 M1, gw_b2 f1 (fun r S => some (r, S)) = some (r, S1) ∧ gw_b2 f2 (fun r S => some (r, S)) = some (r, M1) := by
  obtain ⟨r, S1, M1, rfl, rfl⟩ := h
  exact ⟨r, S1, M1, rfl, rfl⟩
theorem ze_gown : ∃ r S1 M1, f_X8_gown x1 x2 x3 x4 x5 x6 z_S = some (r, S1) ∧ f_X9_gown x1 x2 x3 x4 x5 x6 gw_zM = some (r, M1) := zl_b2 ze_add
theorem ze_longGown : ∃ r S1 M1, f_X8_longGown x1 x2 x3 x4 x5 x6 z_S = some (r, S1) ∧ f_X9_longGown x1 x2 x3 x4 x5 x6 gw_zM = some (r, M1) := zl_b2 ze_add
theorem ze_suit : ∃ r S1 M1, f_X8_suit x1 x2 x3 x4 x5 x6 z_S = some (r, S1) ∧ f_X9_suit x1 x2 x3 x4 x5 x6 gw_zM = some (r, M1) := zl_b2 ze_add
/-- a booking -/
theorem ps_room {n : Int32} (h : S 3 7 = 0) : f_X2_hasRoomForBookings 1 S = some 1 := by
  unfold f_X2_hasRoomForBookings
  rw [h, if_neg (by decide)]
theorem ps_isB : f_X8_isBookingAsTold x1 x2 x3 x4 x5 x6 S = some (if (1 ≤ x1.toInt ∧ x1.toInt ≤ 40) ∧ (0 ≤ x2.toInt ∧ x2.toInt ≤ 2) ∧ (20 ≤ x3.toInt ∧ x3.toInt ≤ 380) ∧ (0 ≤ x4.toInt ∧ x4.toInt ≤ 8) ∧ (0 ≤ x5.toInt ∧ x5.toInt ≤ 399) ∧ (-1 ≤ x6.toInt ∧ x6.toInt ≤ 4) then 1 else 0) := by
  unfold f_X8_isBookingAsTold
  rw [ps_isLabel, ps_br, ps_isIn, ps_br, ps_isIn, ps_br, ps_isTown, ps_br, ps_isDay, ps_br, ps_isIn, ps_br, pz_0, pz_2, pz_20, pz_380, pz_m1, pz_4]
  by_cases h1 : 1 ≤ x1.toInt ∧ x1.toInt ≤ 40 <;> by_cases h2 : 0 ≤ x2.toInt ∧ x2.toInt ≤ 2 <;> by_cases h3 : 20 ≤ x3.toInt ∧ x3.toInt ≤ 380 <;> by_cases h4 : 0 ≤ x4.toInt ∧ x4.toInt ≤ 8 <;> by_cases h5 : 0 ≤ x5.toInt ∧ x5.toInt ≤ 399 <;> by_cases h6 : -1 ≤ x6.toInt ∧ x6.toInt ≤ 4 <;> simp only [h1, h2, h3, h4, h5, h6, if_true, if_false, and_true, true_and, and_false, false_and, and_self, ite_true, ite_false]
theorem pm_isB : f_X9_isBooking x1 x2 x3 x4 x5 x6 S = some (if (1 ≤ x1.toInt ∧ x1.toInt ≤ 40) ∧ (0 ≤ x2.toInt ∧ x2.toInt ≤ 2) ∧ (20 ≤ x3.toInt ∧ x3.toInt ≤ 380) ∧ (0 ≤ x4.toInt ∧ x4.toInt ≤ 8) ∧ (0 ≤ x5.toInt ∧ x5.toInt ≤ 399) ∧ (-1 ≤ x6.toInt ∧ x6.toInt ≤ 4) then 1 else 0) := by
  unfold f_X9_isBooking
  rw [ps_in, ps_br, ps_in, ps_br, ps_in, ps_br, pm_isTown, ps_br, ps_in, ps_br, ps_in, ps_br, pq_1, pq_40, pq_0, pq_2, pq_20, pq_380, pq_399, pq_m1, pq_4]
  by_cases h1 : 1 ≤ x1.toInt ∧ x1.toInt ≤ 40 <;> by_cases h2 : 0 ≤ x2.toInt ∧ x2.toInt ≤ 2 <;> by_cases h3 : 20 ≤ x3.toInt ∧ x3.toInt ≤ 380 <;> by_cases h4 : 0 ≤ x4.toInt ∧ x4.toInt ≤ 8 <;> by_cases h5 : 0 ≤ x5.toInt ∧ x5.toInt ≤ 399 <;> by_cases h6 : -1 ≤ x6.toInt ∧ x6.toInt ≤ 4 <;> simp only [h1, h2, h3, h4, h5, h6, if_true, if_false, and_true, true_and, and_false, false_and, and_self, ite_true, ite_false]
theorem ze_book : ∃ r S1 M1, f_X8_book x1 x2 x3 x4 x5 x6 z_S = some (r, S1) ∧ f_X9_book x1 x2 x3 x4 x5 x6 gw_zM = some (r, M1) := by
  unfold f_X8_book f_X9_book
  rw [ps_isB, ps_br, pm_isB, ps_br]
  split
  · rw [ps_room (n := 0) z_a.2.1, gw_bdS, if_neg (by decide)]
    unfold f_X2_addBooking
    rw [ps_room (n := 0) z_a.2.1, gw_bdS, if_neg (by decide), gw_gdT z_okB, gw_letS, gw_gdT (by rw [z_29.2]; decide), gw_gdT (by rw [z_29.2]; show 0 < (z_S 29 1 + 1).toNatClampNeg; rw [z_29.2]; decide), gw_gdT (by rw [z_a.2.1]; decide), gw_letS, gw_letS, gw_bdS]
    have h8 := z_m.2.2.1
    rw [if_neg (show ¬ gw_zM 0 29 = 30 by rw [h8]; decide)]
    unfold f_X9_addBooking
    rw [gw_gdT (by rw [h8]; decide), gw_letS, gw_gdT (by rw [p0_25, h8]; decide), gw_letS, gw_gdT (by rw [p0_26, p0_25, h8]; decide), gw_letS, gw_gdT (by rw [p0_27, p0_26, p0_25, h8]; decide), gw_letS, gw_gdT (by rw [p0_28, p0_27, p0_26, p0_25, h8]; decide), gw_letS, gw_gdT (by rw [p0_29, p0_28, p0_27, p0_26, p0_25, h8]; decide), gw_letS, gw_gdT (by rw [p0_30, p0_29, p0_28, p0_27, p0_26, p0_25, h8]; decide), gw_letS, gw_gdT (by rw [p0_31, p0_30, p0_29, p0_28, p0_27, p0_26, p0_25, h8]; decide), gw_letS, gw_letS, gw_bdS]
    refine zx rfl rfl ?_
    show gw_zM 0 29 + 1 - 1 = z_S 3 7 + 1 - 1
    rw [h8, z_a.2.1]
  · exact ⟨_, _, _, rfl, rfl⟩
end Z4
section Z5
variable {x1 x2 x3 x4 x5 x6 : Int32} {S M : gw_S}
theorem ze_match : ∃ r S1 M1, f_X8_match x1 x2 z_S = some (r, S1) ∧ f_X9_match x1 x2 gw_zM = some (r, M1) := by
  have e1 : f_X2_membersOf x1 z_S = some 0 := by
    unfold f_X2_membersOf
    show f_X2_membersOf_b4 z_S (999999999 + 1) x1 0 0 = some 0
    rw [f_X2_membersOf_b4, z_a.2.1, if_pos (by decide)]
  have e2 : f_X9_match_b31 gw_F x1 x2 0 0 gw_zM = some (-4, gw_zM) := by
    show f_X9_match_b31 (999999999 + 1) x1 x2 0 0 gw_zM = some (-4, gw_zM)
    rw [f_X9_match_b31, z_m.2.2.1, if_pos (by decide), if_pos rfl]
  unfold f_X8_match f_X9_match
  rw [ps_isIn, ps_br, ps_in, ps_br, ps_isIn, ps_br, ps_in, ps_br, e1, gw_bdS, if_pos rfl, e2, pz_0, pz_4, pz_2, pq_0, pq_4, pq_2]
  split
  · split
    · exact zx rfl rfl rfl
    · exact zx rfl rfl rfl
  · exact zx rfl rfl rfl
theorem ze_asOf : ∃ r, f_X8_asOf x1 x2 x3 x4 z_S = some r ∧ f_X9_asOf x1 x2 x3 x4 gw_zM = some r := by
  have e1 : ∀ a b c, f_X2_knownOn a b c z_S = some 0 := by
    intro a b c
    unfold f_X2_knownOn
    show f_X2_knownOn_b6 z_S (999999999 + 1) a b c 0 0 = some 0
    rw [f_X2_knownOn_b6, z_a.2.1, if_pos (by decide)]
  have e2 : f_X9_asOf_b30 gw_zM gw_F x1 x2 x3 x4 0 0 = some 0 := by
    show f_X9_asOf_b30 gw_zM (999999999 + 1) x1 x2 x3 x4 0 0 = some 0
    rw [f_X9_asOf_b30, z_m.2.2.1, if_pos (by decide)]
  unfold f_X8_asOf f_X9_asOf
  rw [ps_isDay, ps_br, ps_in, ps_br, ps_isIn, ps_br, ps_in, ps_br, e1, gw_bdS, e1, gw_bdS, e2, pz_0, pz_1, pq_0, pq_1, pq_399]
  split
  · split
    · split
      · exact ⟨_, rfl, rfl⟩
      · exact ⟨_, rfl, rfl⟩
    · exact ⟨_, rfl, rfl⟩
  · exact ⟨_, rfl, rfl⟩
theorem ze_count : ∃ r, f_X8_count x1 z_S = some r ∧ f_X9_count x1 gw_zM = some r := by
  have e1 : f_X8_count_b56 z_S x1 = some 0 := by
    unfold f_X8_count_b56 f_X2_tallyPieces
    show gw_bd (f_X2_tallyPieces_b4 z_S (999999999 + 1) x1 0 0) _ = some 0
    rw [f_X2_tallyPieces_b4, z_a.1, if_pos (by decide)]; rfl
  have e2 : f_X8_count_b84 z_S x1 = some 0 := by
    unfold f_X8_count_b84 f_X2_tallyBookings
    show gw_bd (f_X2_tallyBookings_b4 z_S (999999999 + 1) x1 0 0) _ = some 0
    rw [f_X2_tallyBookings_b4, z_a.2.1, if_pos (by decide)]; rfl
  have e3 : f_X9_count_b53 gw_zM x1 0 = some 0 := by
    unfold f_X9_count_b53
    show f_X9_count_b55 gw_zM (999999999 + 1) x1 0 0 = some 0
    rw [f_X9_count_b55, z_m.2.1, if_pos (by decide)]
  have e4 : f_X9_count_b129 gw_zM x1 0 = some 0 := by
    unfold f_X9_count_b129
    show f_X9_count_b131 gw_zM (999999999 + 1) x1 0 0 = some 0
    rw [f_X9_count_b131, z_m.2.2.1, if_pos (by decide)]
  unfold f_X8_count f_X9_count
  rw [e1, e2, e3, e4, z_a.1, z_a.2.1, z_a.2.2.2.1, z_m.2.1, z_m.2.2.1, z_m.2.2.2.1]
  have e : ∀ o : Option Int32, o.isSome = true → ∃ r, o = some r ∧ o = some r := fun o h => by
    cases o with
    | none => cases h
    | some y => exact ⟨y, rfl, rfl⟩
  apply e
  repeat' split
  all_goals rfl
theorem pm_isSheet : f_X9_isSheet x1 x2 S = some (if (0 ≤ x1.toInt ∧ x1.toInt ≤ 3) ∧ (0 ≤ x2.toInt ∧ x2.toInt ≤ 2) then 1 else 0) := by
  unfold f_X9_isSheet
  rw [ps_in, ps_br, ps_in, ps_br, pq_0, pq_3, pq_2]
  by_cases h1 : 0 ≤ x1.toInt ∧ x1.toInt ≤ 3 <;> by_cases h2 : 0 ≤ x2.toInt ∧ x2.toInt ≤ 2 <;> simp only [h1, h2, if_true, if_false, and_true, true_and, and_false, false_and, and_self, ite_true, ite_false]
theorem z_sh : ∀ j, j ≤ 3 → z_S (21 + j) 1 = 0 ∧ gw_zM 43 j = -1 := by decide +kernel
theorem ps_ref {j : Nat} (hj : j ≤ 3) : f_X5_refusalAs (nI j) x2 z_S = some (-11) := by
  unfold f_X5_refusalAs
  rw [gw_gdT (show (nI j).toNatClampNeg < 4 by rw [nI_clamp (by omega)]; omega), nI_clamp (by omega), if_pos (z_sh j hj).1]
theorem pm_ag {j : Nat} (hj : j ≤ 3) (h2 : 0 ≤ x2.toInt ∧ x2.toInt ≤ 2) : f_X9_against (nI j) x2 x3 x4 gw_zM = some (-11) := by
  unfold f_X9_against
  rw [gw_gdT (pi_in (by omega) (by omega)), nI_clamp (by omega), (z_sh j hj).2, if_neg (by rintro rfl; exact absurd h2.1 (by decide)), if_neg (by decide)]
theorem ze_item : ∃ r S1 M1, f_X8_item x1 x2 x3 x4 z_S = some (r, S1) ∧ f_X9_item x1 x2 x3 x4 gw_zM = some (r, M1) := by
  unfold f_X8_item f_X9_item
  rw [ps_isSheet, ps_br, ps_isLane, ps_br, pm_isSheet, ps_br]
  by_cases h1 : 0 ≤ x1.toInt ∧ x1.toInt ≤ 3
  · by_cases h2 : 0 ≤ x2.toInt ∧ x2.toInt ≤ 2
    · rw [if_pos h1, if_pos h2, if_pos ⟨h1, h2⟩]
      obtain ⟨j, hj, rfl⟩ := ps_nI (n := 3) h1 (by omega)
      rw [gw_gdT (pi_in (by omega) (by omega)), gw_gdT (show (nI j).toNatClampNeg < 4 by rw [nI_clamp (by omega)]; omega), ps_ref hj, gw_bdS, if_neg (by decide), pm_ag hj h2, gw_bdS, if_neg (by decide)]
      exact zx rfl rfl rfl
    · rw [if_pos h1, if_neg h2, if_neg (fun h => h2 h.2)]; exact zx rfl rfl rfl
  · rw [if_neg h1, if_neg (fun h => h1 h.1)]; exact zx rfl rfl rfl
theorem ze_books : ∃ r S1 M1, f_X8_books x1 x2 x3 x4 z_S = some (r, S1) ∧ f_X9_books x1 x2 x3 x4 gw_zM = some (r, M1) := by
  unfold f_X8_books f_X9_books
  rw [ps_isSheet, ps_br, ps_isLane, ps_br, pm_isSheet, ps_br, ps_isIn, ps_br, ps_in, ps_br, pz_0, pz_6, pq_0, pq_6]
  by_cases h1 : 0 ≤ x1.toInt ∧ x1.toInt ≤ 3
  · by_cases h2 : 0 ≤ x2.toInt ∧ x2.toInt ≤ 2
    · rw [if_pos h1, if_pos h2, if_pos (show (0 ≤ x1.toInt ∧ x1.toInt ≤ 3) ∧ (0 ≤ x2.toInt ∧ x2.toInt ≤ 2) from ⟨h1, h2⟩)]
      obtain ⟨j, hj, rfl⟩ := ps_nI (n := 3) h1 (by omega)
      rw [gw_gdT (pi_in (by omega) (by omega)), gw_gdT (show (nI j).toNatClampNeg < 4 by rw [nI_clamp (by omega)]; omega), ps_ref hj, gw_bdS, if_neg (show ¬ (-11 : Int32) = 0 by decide), pm_ag hj h2, gw_bdS, if_neg (show ¬ 0 ≤ (-11 : Int32) by decide)]
      split
      · exact zx rfl rfl rfl
      · exact zx rfl rfl rfl
    · rw [if_pos h1, if_neg h2, if_neg (show ¬ ((0 ≤ x1.toInt ∧ x1.toInt ≤ 3) ∧ (0 ≤ x2.toInt ∧ x2.toInt ≤ 2)) from fun h => h2 h.2)]; exact zx rfl rfl rfl
  · rw [if_neg h1, if_neg (show ¬ ((0 ≤ x1.toInt ∧ x1.toInt ≤ 3) ∧ (0 ≤ x2.toInt ∧ x2.toInt ≤ 2)) from fun h => h1 h.1)]; exact zx rfl rfl rfl
end Z5
theorem pc_b8 (v : Int64) (k : Nat) (hk : k < 8) : ((v.toUInt64 >>> (((8 : Int32) * nI k).toInt64.toUInt64 &&& Int64.toUInt64 63)).toInt64).toInt32 &&& 255 = (((v >>> (((8 : Int32) * nI k).toInt64 &&& 63)) &&& (255 : Int64))).toInt32 := by
  have h : ∀ k, k < 8 → ((((8 : Int32) * nI k).toInt64 &&& 63).toBitVec.smod 64).toNat = 8 * k ∧ ((((8 : Int32) * nI k).toInt64.toUInt64 &&& Int64.toUInt64 63).toBitVec % 64).toNat = 8 * k := by decide
  obtain ⟨h1, h2⟩ := h k hk
  apply Int32.toBitVec_inj.mp
  apply BitVec.eq_of_getLsbD_eq
  intro i hi
  show (BitVec.signExtend 32 (v.toBitVec >>> ((((8 : Int32) * nI k).toInt64.toUInt64 &&& Int64.toUInt64 63).toBitVec % 64)) &&& 255#32).getLsbD i = (BitVec.signExtend 32 (v.toBitVec.sshiftRight ((((8 : Int32) * nI k).toInt64 &&& 63).toBitVec.smod 64).toNat &&& 255#64)).getLsbD i
  rw [h1, BitVec.ushiftRight_eq', h2]
  simp only [BitVec.getLsbD_and, BitVec.getLsbD_signExtend, BitVec.getLsbD_ushiftRight, BitVec.getLsbD_sshiftRight, hi, show i < 64 by omega, if_true, if_pos, decide_true, Bool.true_and]
  by_cases h8 : i < 8
  · have h7 : ∀ i, i < 8 → (255#32).getLsbD i = (255#64).getLsbD i := by decide
    rw [h7 i h8]
    simp [show ¬ 64 ≤ i by omega, show 8 * k + i < 64 by omega]
  · have h9 : ∀ i, i < 32 → ¬ i < 8 → (255#32).getLsbD i = false ∧ (255#64).getLsbD i = false := by decide
    rw [(h9 i hi h8).1, (h9 i hi h8).2]; simp
theorem pc_r8 (v : Int64) : 0 ≤ (v &&& (255 : Int64)).toInt ∧ (v &&& (255 : Int64)).toInt ≤ 255 := by
  show 0 ≤ (v.toBitVec &&& 255#64).toInt ∧ (v.toBitVec &&& 255#64).toInt ≤ 255
  have h : (v.toBitVec &&& 255#64).toNat ≤ 255 := by rw [BitVec.toNat_and]; exact Nat.and_le_right
  rw [BitVec.toInt_eq_toNat_cond, if_pos (by omega)]; omega
theorem pc_i32 {x : Int64} (h : 0 ≤ x.toInt ∧ x.toInt ≤ 255) : x.toInt32.toInt = x.toInt := by
  rw [Int64.toInt_toInt32]
  rw [Int.bmod_eq_of_le] <;> omega
section Z6
variable {x1 x2 x3 x4 x5 x6 : Int32} {S M : gw_S}
theorem pn_pred {j : Nat} : nI (j + 1) - 1 = nI j := nI_pred j
theorem pn_addm {x : Int32} : x + -1 = x - 1 := (Int32.sub_eq_add_neg x 1).symm
theorem ze_t65 (v : Int64) : ∀ (j n t : Nat) (S : gw_S), j < n → t + j ≤ 60 → S 1 1 = nI t → j ≤ 8 → ∃ S1, f_X8_type_b65 n v (nI j - 1) S = some (nI (t + j), S1)
  | 0, n + 1, t, S, _, _, h, _ => by
    rw [f_X8_type_b65, if_pos (by decide), h]; exact ⟨_, rfl⟩
  | j + 1, n + 1, t, S, hn, ht, h, h8 => by
    rw [f_X8_type_b65, pn_pred, if_neg (pn_n0 (by omega))]
    unfold f_X8_byteOf f_X6_append
    rw [gw_bdS, h, if_neg (show ¬ (60 : Int32) ≤ nI t from pn_le (n := 60) (by omega) (by omega)), gw_gdT (pi_in (by omega) (by omega)), gw_letS, gw_letS, gw_bdS, gw_letS, pn_addm]
    obtain ⟨S1, e⟩ := ze_t65 v j n (t + 1) _ (by omega) (by omega) (show gw_up (gw_up S 2 (nI t).toNatClampNeg _) 1 1 (gw_up S 2 (nI t).toNatClampNeg _ 1 1 + 1) 1 1 = nI (t + 1) by
      show S 1 1 + 1 = nI (t + 1)
      rw [h, nI_1]) (by omega)
    rw [e]; exact ⟨S1, by congr 3; omega⟩
theorem ze_t74 (v : Int64) : ∀ (j n t : Nat) (S : gw_S), j < n → t + j ≤ 60 → S 0 5 = nI t → j ≤ 8 → ∃ S1, f_X9_type_b74 n v (nI j - 1) S = some (nI (t + j), S1)
  | 0, n + 1, t, S, _, _, h, _ => by
    rw [f_X9_type_b74, if_pos (by decide), h]; exact ⟨_, rfl⟩
  | j + 1, n + 1, t, S, hn, ht, h, h8 => by
    rw [f_X9_type_b74, pn_pred, if_neg (pn_n0 (by omega)), gw_gdT (by rw [h]; exact pi_in (by omega) (by omega)), gw_letS, gw_letS, gw_letS, pn_addm]
    obtain ⟨S1, e⟩ := ze_t74 v j n (t + 1) _ (by omega) (by omega) (show gw_up (gw_up S 5 (S 0 5).toNatClampNeg _) 0 5 (gw_up S 5 (S 0 5).toNatClampNeg _ 0 5 + 1) 0 5 = nI (t + 1) by
      show S 0 5 + 1 = nI (t + 1)
      rw [h, nI_1]) (by omega)
    rw [e]; exact ⟨S1, by congr 3; omega⟩
theorem ze_tloop (v : Int64) (x : Int32) : ∀ (j n : Nat), j ≤ 8 → j < n → (f_X8_type_b17 n v x (nI j - 1) S = some (-1, S) ∧ f_X9_type_b19 n v x (nI j - 1) M = some (-1, M)) ∨ (f_X8_type_b17 n v x (nI j - 1) S = gw_bd (f_X6_hasRoomFor x S) (fun r9 => (if r9 = 0 then some ((-3 : Int32), S) else gw_let ((x - (1 : Int32)) : Int32) (fun y12 => f_X8_type_b65 gw_F v y12 S))) ∧ f_X9_type_b19 n v x (nI j - 1) M = (if ((M 0 5) + x) ≤ (60 : Int32) then gw_let ((x - (1 : Int32)) : Int32) (fun y11 => f_X9_type_b74 gw_F v y11 M) else some ((-3 : Int32), M)))
  | 0, n + 1, _, _ => Or.inr ⟨by rw [f_X8_type_b17, if_pos (by decide)], by rw [f_X9_type_b19, if_pos (by decide)]⟩
  | j + 1, n + 1, hj, hn => by
    rw [f_X8_type_b17, f_X9_type_b19, pn_pred, if_neg (pn_n0 (by omega)), if_neg (pn_n0 (by omega))]
    unfold f_X8_byteOf
    rw [gw_bdS, ps_isIn, ps_br, ps_in64, ps_br, pc_b8 v j (by omega), pc_i32 (pc_r8 _), pz_32, pz_126, pq_32, pq_126, gw_letS, gw_letS, pn_addm]
    split
    · exact ze_tloop v x j n (by omega) (by omega)
    · exact Or.inl ⟨rfl, rfl⟩
theorem ze_type {v : Int64} : ∃ r S1 M1, f_X8_type v x3 z_S = some (r, S1) ∧ f_X9_type v x3 gw_zM = some (r, M1) := by
  unfold f_X8_type f_X9_type
  rw [ps_isIn, ps_br, ps_in, ps_br, pz_1, pz_8, pq_1, pq_8, gw_letS, gw_letS]
  by_cases h1 : 1 ≤ x3.toInt ∧ x3.toInt ≤ 8
  · rw [if_pos h1, if_pos h1]
    obtain ⟨j, hj, rfl⟩ := ps_nI (x := x3) (n := 8) (by omega) (by omega)
    rcases ze_tloop (S := z_S) (M := gw_zM) v (nI j) j gw_F hj (Nat.lt_of_le_of_lt hj (by decide)) with ⟨e1, e2⟩ | ⟨e1, e2⟩
    · rw [e1, e2]; exact zx rfl rfl rfl
    · rw [e1, e2]
      unfold f_X6_hasRoomFor
      have hd : ∀ j, j ≤ 8 → ¬ (60 : Int32) - 0 < nI j ∧ (0 : Int32) + nI j ≤ 60 := by decide
      rw [z_a.2.2.1, z_m.1, if_neg (hd j hj).1, gw_bdS, if_neg (by decide), if_pos (hd j hj).2, gw_letS, gw_letS]
      obtain ⟨S1, k1⟩ := ze_t65 v j gw_F 0 z_S (Nat.lt_of_le_of_lt hj (by decide)) (by omega) z_a.2.2.1 hj
      obtain ⟨M1, k2⟩ := ze_t74 v j gw_F 0 gw_zM (Nat.lt_of_le_of_lt hj (by decide)) (by omega) z_m.1 hj
      rw [k1, k2]; exact zx rfl rfl rfl
  · rw [if_neg h1, if_neg h1]; exact zx rfl rfl rfl
end Z6
section Z7
variable {x1 x2 x3 x4 x5 x6 : Int32} {S M : gw_S}
theorem pn_s {n k : Nat} (h : k + 1 ≤ n) : nI (n - (k + 1)) + (1 : Int32) = nI (n - k) := by rw [nI_1]; congr 1; omega
theorem ze_begin {a : Nat} (ha : a ≤ 3) (u w : Int32) : ∀ (k n : Nat) (S : gw_S), k ≤ 36 → k < n → ∃ S1, f_X5_begin_b2 n (nI a) u w (nI (36 - k)) S = some S1
  | 0, n + 1, S, _, _ => by
    rw [f_X5_begin_b2, if_pos (by decide), gw_gdT (by rw [nI_clamp (by omega)]; omega), gw_letS, gw_letS, gw_letS]; exact ⟨_, rfl⟩
  | k + 1, n + 1, S, hk, hn => by
    rw [f_X5_begin_b2, if_neg (show ¬ (36 : Int32) ≤ nI (36 - (k + 1)) from pn_le (n := 36) (by omega) (by omega)), gw_gdT (by rw [nI_clamp (by omega)]; omega), gw_gdT (pi_in (by omega) (by omega)), gw_letS, gw_letS, pn_s hk]
    exact ze_begin ha u w k n _ (by omega) (by omega)
theorem p_36 : ∀ a, a ≤ 3 → ∀ j, j < 36 → gw_in (36 * nI a + nI j) 144 := by decide
theorem ze_sh40 {a : Nat} (ha : a ≤ 3) (w : Int32) : ∀ (k n : Nat) (S : gw_S), k ≤ 36 → k < n → ∃ S1, f_X9_sheet_b40 n (nI a) w (nI (36 - k)) S = some (w, S1)
  | 0, n + 1, S, _, _ => by
    rw [f_X9_sheet_b40, if_pos (by decide)]; exact ⟨_, rfl⟩
  | k + 1, n + 1, S, hk, hn => by
    rw [f_X9_sheet_b40, if_neg (show ¬ (36 : Int32) ≤ nI (36 - (k + 1)) from pn_le (n := 36) (by omega) (by omega)), gw_gdT (p_36 a ha _ (by omega)), gw_letS, gw_letS, pn_s hk]
    exact ze_sh40 ha w k n _ (by omega) (by omega)
theorem ze_sheet : ∃ r S1 M1, f_X8_sheet x1 x2 x3 z_S = some (r, S1) ∧ f_X9_sheet x1 x2 x3 gw_zM = some (r, M1) := by
  unfold f_X8_sheet f_X9_sheet
  rw [ps_isSheet, ps_br, ps_isLane, ps_br, pm_isSheet, ps_br]
  by_cases h1 : 0 ≤ x1.toInt ∧ x1.toInt ≤ 3
  · by_cases h2 : 0 ≤ x2.toInt ∧ x2.toInt ≤ 2
    · rw [if_pos h1, if_pos h2, if_pos (show (0 ≤ x1.toInt ∧ x1.toInt ≤ 3) ∧ (0 ≤ x2.toInt ∧ x2.toInt ≤ 2) from ⟨h1, h2⟩)]
      obtain ⟨j, hj, rfl⟩ := ps_nI (n := 3) h1 (by omega)
      obtain ⟨S1, e1⟩ := ze_begin hj x2 x3 36 gw_F z_S (Nat.le_refl 36) (by decide)
      obtain ⟨M1, e2⟩ := ze_sh40 hj x3 36 gw_F (gw_up (gw_up gw_zM 43 (nI j).toNatClampNeg x2) 44 (nI j).toNatClampNeg x3) (Nat.le_refl 36) (by decide)
      rw [show nI (36 - 36) = (0 : Int32) from rfl] at e1 e2
      unfold f_X5_begin
      rw [gw_gdT (pi_in (by omega) (by omega)), gw_gdT (show (nI j).toNatClampNeg < 4 by rw [nI_clamp (by omega)]; omega), e1, gw_bdS, gw_gdT (pi_in (by omega) (by omega)), gw_letS, gw_letS, e2]
      by_cases h3 : x3 ≤ 36
      · rw [if_pos h3, if_pos h3]
        by_cases h4 : 0 ≤ x3
        · rw [if_pos h4, if_pos h4]; exact zx rfl rfl rfl
        · rw [if_neg h4, if_neg h4]; exact zx rfl rfl rfl
      · rw [if_neg h3, if_neg h3]; exact zx rfl rfl rfl
    · rw [if_pos h1, if_neg h2, if_neg (show ¬ ((0 ≤ x1.toInt ∧ x1.toInt ≤ 3) ∧ (0 ≤ x2.toInt ∧ x2.toInt ≤ 2)) from fun h => h2 h.2)]; exact zx rfl rfl rfl
  · rw [if_neg h1, if_neg (show ¬ ((0 ≤ x1.toInt ∧ x1.toInt ≤ 3) ∧ (0 ≤ x2.toInt ∧ x2.toInt ≤ 2)) from fun h => h1 h.1)]; exact zx rfl rfl rfl
/-- same -/
def z_P (c : Int32) (S : gw_S) : Prop := S 7 3 = c
theorem ps_spanOf : ∃ r, f_X3_spanOf x1 x2 S = some r := by
  unfold f_X3_spanOf
  rw [gw_letS]
  split
  · exact ⟨_, rfl⟩
  · rename_i h1
    split
    · exact ⟨_, rfl⟩
    · rename_i h2
      rw [gw_gdT (ps_gin (by rw [Int32.lt_iff_toInt_lt, Int32.toInt_zero] at h1; rw [Int32.le_iff_toInt_le, pz_36] at h2; omega))]
      exact ⟨_, rfl⟩
theorem ps_tighten {c : Int32} (h : z_P c S) : gw_wp (f_X3_tighten x1 x2 x3 S) (z_P c) := by
  unfold f_X3_tighten
  rw [gw_letS]
  split
  · exact gw_wpS h
  · rename_i h1
    split
    · exact gw_wpS h
    · rename_i h2
      rw [gw_gdT (ps_gin (by rw [Int32.lt_iff_toInt_lt, Int32.toInt_zero] at h1; rw [Int32.le_iff_toInt_le, pz_36] at h2; omega))]
      split
      · exact gw_wpS h
      · exact gw_wpS h
theorem ze_c63 {c : Int32} : ∀ (k n : Nat) (S : gw_S), k ≤ 6 → k < n → z_P c S → gw_wp (f_X3_close_b63 n (nI (6 - k)) S) (z_P c)
  | 0, n + 1, S, _, _, h => by rw [f_X3_close_b63, if_pos (by decide)]; exact gw_wpS h
  | k + 1, n + 1, S, hk, hn, h => by
    rw [f_X3_close_b63, if_neg (show ¬ (6 : Int32) ≤ nI (6 - (k + 1)) from pn_le (n := 6) (by omega) (by omega))]
    obtain ⟨r, e⟩ := ps_spanOf (S := S) (x1 := nI (6 - (k + 1))) (x2 := nI (6 - (k + 1)))
    rw [e, gw_bdS]
    unfold f_X3_close_b83
    simp only [gw_letS, pn_s hk]
    split
    · exact ze_c63 k n S (by omega) (by omega) h
    · exact ze_c63 k n _ (by omega) (by omega) h
theorem ze_c18 {c : Int32} {K2 : Int32 → gw_S → Option gw_S} {K10 : Int32 → Int32 → gw_S → Option gw_S} {v1 v2 : Int32} (hK : ∀ S, z_P c S → gw_wp (K10 v1 (v2 + 1) S) (z_P c)) : ∀ (k n : Nat) (S : gw_S), k ≤ 6 → k < n → z_P c S → gw_wp (f_X3_close_b18 K2 K10 n v1 v2 (nI (6 - k)) S) (z_P c)
  | 0, n + 1, S, _, _, h => by rw [f_X3_close_b18, if_pos (by decide), gw_letS]; exact hK S h
  | k + 1, n + 1, S, hk, hn, h => by
    rw [f_X3_close_b18, if_neg (show ¬ (6 : Int32) ≤ nI (6 - (k + 1)) from pn_le (n := 6) (by omega) (by omega))]
    obtain ⟨r, e⟩ := ps_spanOf (S := S) (x1 := v2) (x2 := v1)
    obtain ⟨r', e'⟩ := ps_spanOf (S := S) (x1 := v1) (x2 := nI (6 - (k + 1)))
    rw [e, gw_bdS, e', gw_bdS]
    refine gw_wpB (ps_tighten h) (fun S1 h1 => ?_)
    rw [gw_letS, pn_s hk]
    exact ze_c18 hK k n S1 (by omega) (by omega) h1
theorem ze_c10 {c : Int32} {K2 : Int32 → gw_S → Option gw_S} {v1 : Int32} (hK : ∀ S, z_P c S → gw_wp (K2 (v1 + 1) S) (z_P c)) : ∀ (k n : Nat) (S : gw_S), k ≤ 6 → k < n → z_P c S → gw_wp (f_X3_close_b10 K2 n v1 (nI (6 - k)) S) (z_P c)
  | 0, n + 1, S, _, _, h => by rw [f_X3_close_b10, if_pos (by decide), gw_letS]; exact hK S h
  | k + 1, n + 1, S, hk, hn, h => by
    rw [f_X3_close_b10, if_neg (show ¬ (6 : Int32) ≤ nI (6 - (k + 1)) from pn_le (n := 6) (by omega) (by omega))]
    refine ze_c18 (fun S1 h1 => ?_) 6 gw_F S (Nat.le_refl 6) (by decide) h
    rw [pn_s hk]
    exact ze_c10 hK k n S1 (by omega) (by omega) h1
theorem ze_c2 {c : Int32} : ∀ (k n : Nat) (S : gw_S), k ≤ 6 → k < n → z_P c S → gw_wp (f_X3_close_b2 n (nI (6 - k)) S) (z_P c)
  | 0, n + 1, S, _, _, h => by rw [f_X3_close_b2, if_pos (by decide)]; exact ze_c63 6 gw_F S (Nat.le_refl 6) (by decide) h
  | k + 1, n + 1, S, hk, hn, h => by
    rw [f_X3_close_b2, if_neg (show ¬ (6 : Int32) ≤ nI (6 - (k + 1)) from pn_le (n := 6) (by omega) (by omega))]
    refine ze_c10 (fun S1 h1 => ?_) 6 gw_F S (Nat.le_refl 6) (by decide) h
    rw [pn_s hk]
    exact ze_c2 k n S1 (by omega) (by omega) h1
theorem ze_re {c : Int32} : ∀ (k n : Nat) (S : gw_S), k ≤ 5 → k < n → z_P c S → gw_wp (f_X3_readEnds_b2 n (nI (6 - k)) S) (z_P c)
  | 0, n + 1, S, _, _, h => by rw [f_X3_readEnds_b2, if_pos (by decide)]; exact gw_wpS h
  | k + 1, n + 1, S, hk, hn, h => by
    have e56 : ∀ (r : Int32) (S : gw_S), z_P c S → gw_wp (f_X3_readEnds_b56 (f_X3_readEnds_b2 n) (nI (6 - (k + 1))) r (nI (6 - (k + 1))) S) (z_P c) := fun r S h => by
      unfold f_X3_readEnds_b56
      rw [gw_gdT (pi_in (by omega) (by omega)), gw_letS, gw_letS, pn_s (by omega)]
      exact ze_re k n _ (by omega) (by omega) h
    have e32 : ∀ (r : Int32) (S : gw_S), z_P c S → gw_wp (f_X3_readEnds_b32 (f_X3_readEnds_b2 n) (nI (6 - (k + 1))) r (nI (6 - (k + 1))) S) (z_P c) := fun r S h => by
      unfold f_X3_readEnds_b32
      rw [gw_gdT (pi_in (by omega) (by omega)), gw_letS]
      split
      · obtain ⟨r, e⟩ := ps_spanOf (S := gw_up S 9 (nI (6 - (k + 1))).toNatClampNeg r) (x1 := 0) (x2 := nI (6 - (k + 1)))
        rw [e, gw_bdS]
        exact e56 _ _ h
      · exact e56 _ _ h
    rw [f_X3_readEnds_b2, if_neg (show ¬ (6 : Int32) ≤ nI (6 - (k + 1)) from pn_le (n := 6) (by omega) (by omega))]
    split
    · obtain ⟨r, e⟩ := ps_spanOf (S := S) (x1 := nI (6 - (k + 1))) (x2 := 0)
      rw [e, gw_bdS]
      exact e32 _ _ h
    · exact e32 _ _ h
theorem ps_learn {c : Int32} (h : S 7 3 + 1 = c) : gw_wp (f_X3_learn x1 x2 x3 x4 S) (z_P c) := by
  unfold f_X3_learn
  rw [gw_letS]
  have h0 : z_P c (gw_up S 7 3 (S 7 3 + 1)) := h
  split
  · refine gw_wpB (ps_tighten h0) (fun S1 h1 => ?_)
    refine gw_wpB (ps_tighten h1) (fun S2 h2 => ?_)
    refine gw_wpB (ze_c2 6 gw_F S2 (Nat.le_refl 6) (by decide) h2) (fun S3 h3 => ?_)
    exact gw_wpB (ze_re 5 gw_F S3 (Nat.le_refl 5) (by decide) h3) (fun S4 h4 => gw_wpS h4)
  · exact gw_wpS h0
theorem ze_same : ∃ r S1 M1, f_X8_same x1 x2 x3 x4 z_S = some (r, S1) ∧ f_X9_same x1 x2 x3 x4 gw_zM = some (r, M1) := by
  unfold f_X8_same f_X9_same
  rw [ps_isMaker, ps_br, pm_isMaker, ps_br, ps_isMaker, ps_br, pm_isMaker, ps_br, ps_isLabel, ps_br, pm_isLabel, ps_br, ps_isLabel, ps_br, pm_isLabel, ps_br]
  by_cases h1 : 0 ≤ x1.toInt ∧ x1.toInt ≤ 5
  · rw [if_pos h1, if_pos h1]
    by_cases h3 : 0 ≤ x3.toInt ∧ x3.toInt ≤ 5
    · rw [if_pos h3, if_pos h3]
      by_cases h2 : 1 ≤ x2.toInt ∧ x2.toInt ≤ 40
      · rw [if_pos h2, if_pos h2]
        by_cases h4 : 1 ≤ x4.toInt ∧ x4.toInt ≤ 40
        · rw [if_pos h4, if_pos h4]
          by_cases h5 : x1 = x3
          · rw [if_pos h5, if_pos h5]; exact zx rfl rfl rfl
          · rw [if_neg h5, if_neg h5, if_pos (show z_S 7 3 < 20 by rw [z_a.2.2.2.1]; decide)]
            obtain ⟨S1, e1, p1⟩ := ps_learn (S := z_S) (x1 := x1) (x2 := x2) (x3 := x3) (x4 := x4) (c := 1) (by rw [z_a.2.2.2.1]; decide)
            have p1 : S1 7 3 = 1 := p1
            have h8 := z_m.2.2.2.1
            rw [e1, gw_bdS, p1, if_neg (show ¬ gw_zM 0 21 = 20 by rw [h8]; decide), gw_gdT (by rw [h8]; decide), gw_letS, gw_gdT (by show gw_in (gw_zM 0 21) 20; rw [h8]; decide), gw_letS, gw_gdT (by show gw_in (gw_zM 0 21) 20; rw [h8]; decide), gw_letS, gw_gdT (by show gw_in (gw_zM 0 21) 20; rw [h8]; decide), gw_letS, gw_letS]
            refine zx rfl rfl ?_
            show gw_zM 0 21 + 1 - 1 = 1 - 1
            rw [h8]; decide
        · rw [if_neg h4, if_neg h4]
          split <;> exact zx rfl rfl rfl
      · rw [if_neg h2, if_neg h2]
        split <;> exact zx rfl rfl rfl
    · rw [if_neg h3, if_neg h3]
      split <;> exact zx rfl rfl rfl
  · rw [if_neg h1, if_neg h1]; exact zx rfl rfl rfl
end Z7
end
section
/-! what stands between the two: one relation -/
def rg (lo hi : Int) (x : Int32) : Prop := lo ≤ x.toInt ∧ x.toInt ≤ hi
def rN (np nb : Nat) (S M : gw_S) : Prop := (np ≤ 24 ∧ nb ≤ 30) ∧ (S 3 6 = nI np ∧ S 3 7 = nI nb ∧ S 29 0 = nI np ∧ S 29 1 = nI nb) ∧ (M 0 8 = nI np ∧ M 0 29 = nI nb) ∧ (∀ i, i < 24 → S 12 i = if i < np then nI i else -1) ∧ ∀ j, j < 30 → S 13 j = if j < nb then nI j else -1
def rP (w i : Nat) (S M : gw_S) : Prop := (S (2 * i + 30) 0 = M 7 i ∧ S (2 * i + 30) 1 = M 8 i ∧ S (2 * i + 30) 2 = M 9 i ∧ S (2 * i + 30) 3 = M 10 i ∧ S (2 * i + 30) 4 = M 11 i ∧ S (2 * i + 30) 5 = M 12 i ∧ S (2 * i + 30) 6 = M 13 i) ∧ (S (2 * i + 30) 7 = nI i ∧ S (2 * i + 30) 8 = M 14 i ∧ S (2 * i + 30) 9 = M 15 i ∧ S (2 * i + 30) 11 = M 16 i) ∧ ((M 17 i = 0 ∧ S (2 * i + 30) 10 = -4) ∨ (M 17 i = 1 ∧ S (2 * i + 30) 10 = M 18 i)) ∧ (rg 0 2 (M 7 i) ∧ rg 0 5 (M 8 i) ∧ rg 1 40 (M 9 i) ∧ rg 0 9 (M 10 i) ∧ rg 0 8 (M 11 i) ∧ rg 1 9999 (M 12 i) ∧ rg 1 99 (M 13 i)) ∧ (rg 0 3 (M 14 i) ∧ rg 0 w (M 15 i) ∧ (M 16 i = 0 ∨ M 16 i = 1) ∧ rg 0 399 (M 18 i))
def rP0 (i : Nat) (M : gw_S) : Prop := M 14 i = 0 ∧ M 15 i = 0 ∧ M 16 i = 0 ∧ M 17 i = 0 ∧ M 18 i = 0
def rB (np j : Nat) (S M : gw_S) : Prop := (S (2 * j + 31) 0 = nI j ∧ S (2 * j + 31) 1 = M 25 j ∧ S (2 * j + 31) 2 = M 26 j ∧ S (2 * j + 31) 3 = M 27 j ∧ S (2 * j + 31) 4 = M 28 j ∧ S (2 * j + 31) 5 = M 29 j ∧ S (2 * j + 31) 6 = M 30 j) ∧ ((M 31 j = -1 ∧ S (2 * j + 31) 7 = -4) ∨ (rg 0 399 (M 31 j) ∧ S (2 * j + 31) 7 = M 31 j)) ∧ (S (2 * j + 31) 8 = M 32 j ∧ (M 32 j = -1 ∨ ∃ i, i < np ∧ M 32 j = nI i)) ∧ (S (2 * j + 31) 9 = M 33 j ∧ (M 33 j = 0 ∨ ((M 33 j = 1 ∨ M 33 j = 2) ∧ ¬ M 32 j = -1))) ∧ (S (2 * j + 31) 10 = M 35 j ∧ S (2 * j + 31) 11 = M 34 j) ∧ (rg 1 40 (M 25 j) ∧ rg 0 2 (M 26 j) ∧ rg 20 380 (M 27 j) ∧ rg 0 8 (M 28 j) ∧ rg 0 399 (M 29 j) ∧ rg (-1) 4 (M 30 j))
def rB0 (j : Nat) (M : gw_S) : Prop := M 33 j = 0 ∧ M 34 j = 0 ∧ M 35 j = 0
def rA (w np nb : Nat) (S M : gw_S) : Prop := rN np nb S M ∧ (∀ i, i < np → rP w i S M) ∧ (∀ i, np ≤ i → i < 24 → rP0 i M) ∧ (∀ j, j < nb → rB np j S M) ∧ ∀ j, nb ≤ j → j < 30 → rB0 j M
def rT (S M : gw_S) : Prop := ∀ k, k < 8 → S 5 k = M 3 k ∧ rg 0 (gw_MST k).toInt (M 3 k) ∧ M 1 k = gw_LET k ∧ M 2 k = gw_MST k
def rY (t : Nat) (S M : gw_S) : Prop := t ≤ 60 ∧ S 1 1 = nI t ∧ M 0 5 = nI t ∧ ∀ i, i < t → S 2 i = M 5 i ∧ rg 32 126 (M 5 i)
def rO (S M : gw_S) : Prop := ∀ i, i < 81 → S 11 i = M 6 i ∧ rg 0 9 (M 6 i)
def rS1 (a : Nat) (S M : gw_S) : Prop := ((S (21 + a) 1 = 0 ∧ M 43 a = -1) ∨ (S (21 + a) 1 = 1 ∧ S (21 + a) 2 = M 43 a ∧ rg 0 2 (M 43 a))) ∧ (S (21 + a) 3 = M 44 a ∧ rg 0 36 (M 44 a)) ∧ ∀ i, i < 36 → S (25 + a) i = M 45 (36 * a + i)
def rS (S M : gw_S) : Prop := ∀ a, a < 4 → rS1 a S M
def rI (S : gw_S) : Prop := ∀ j, j < 30 → S 14 j = 0
section RFR
variable {w np nb t : Nat} {S M S' M' : gw_S}
theorem rA.fr (h : rA w np nb S M) (a1 : S' 3 6 = S 3 6) (a2 : S' 3 7 = S 3 7) (a3 : S' 29 0 = S 29 0) (a4 : S' 29 1 = S 29 1) (a5 : S' 12 = S 12) (a6 : S' 13 = S 13) (a7 : ∀ i, S' (2 * i + 30) = S (2 * i + 30)) (a8 : ∀ i, S' (2 * i + 31) = S (2 * i + 31)) (b1 : M' 0 8 = M 0 8) (b2 : M' 0 29 = M 0 29) (b3 : ∀ k, (7 ≤ k ∧ k ≤ 18) ∨ (25 ≤ k ∧ k ≤ 35) → M' k = M k) : rA w np nb S' M' := by
  have c (k : Nat) (hk : (7 ≤ k ∧ k ≤ 18) ∨ (25 ≤ k ∧ k ≤ 35)) := b3 k hk
  unfold rA rN rP rP0 rB rB0 at h ⊢
  rw [a1, a2, a3, a4, a5, a6, b1, b2]
  simp only [a7, a8, c 7 (by omega), c 8 (by omega), c 9 (by omega), c 10 (by omega), c 11 (by omega), c 12 (by omega), c 13 (by omega), c 14 (by omega), c 15 (by omega), c 16 (by omega), c 17 (by omega), c 18 (by omega), c 25 (by omega), c 26 (by omega), c 27 (by omega), c 28 (by omega), c 29 (by omega), c 30 (by omega), c 31 (by omega), c 32 (by omega), c 33 (by omega), c 34 (by omega), c 35 (by omega)]
  exact h
theorem rT.fr (h : rT S M) (a : S' 5 = S 5) (b1 : M' 1 = M 1) (b2 : M' 2 = M 2) (b3 : M' 3 = M 3) : rT S' M' := by unfold rT at h ⊢; rw [a, b1, b2, b3]; exact h
theorem rY.fr (h : rY t S M) (a1 : S' 1 1 = S 1 1) (a2 : S' 2 = S 2) (b1 : M' 0 5 = M 0 5) (b2 : M' 5 = M 5) : rY t S' M' := by unfold rY at h ⊢; rw [a1, a2, b1, b2]; exact h
theorem rO.fr (h : rO S M) (a : S' 11 = S 11) (b : M' 6 = M 6) : rO S' M' := by unfold rO at h ⊢; rw [a, b]; exact h
theorem rS.fr (h : rS S M) (a : ∀ k, 21 ≤ k → k ≤ 28 → S' k = S k) (b1 : M' 43 = M 43) (b2 : M' 44 = M 44) (b3 : M' 45 = M 45) : rS S' M' := by
  intro q hq
  have := h q hq
  unfold rS1 at this ⊢
  rw [a (21 + q) (by omega) (by omega), a (25 + q) (by omega) (by omega), b1, b2, b3]
  exact this
theorem rI.fr (h : rI S) (a : S' 14 = S 14) : rI S' := by unfold rI at h ⊢; rw [a]; exact h
end RFR
section RRD
variable {w np nb t i j : Nat} {S M S' M' : gw_S} {x x1 x2 x3 x4 x5 x6 : Int32}
theorem gdi {β : Type} {c : Prop} [Decidable c] {k : Option β} : gw_gd c k = if c then k else none := rfl
theorem rN.gnp (h : rN np nb S M) : gw_np S = np := by rw [gw_np, h.2.1.2.2.1, nI_clamp (by have := h.1.1; omega)]
theorem rN.gnb (h : rN np nb S M) : gw_nb S = nb := by rw [gw_nb, h.2.1.2.2.2, nI_clamp (by have := h.1.2; omega)]
theorem pn_m1 {n : Nat} (h : n < 2 ^ 31) : ¬ nI n = -1 := by intro e; have e2 := congrArg Int32.toInt e; rw [nI_toInt h, pz_m1] at e2; omega
theorem pn_lt {j n : Nat} (h : j < n) (hn : n < 2 ^ 31) : nI j < nI n := by rw [Int32.lt_iff_toInt_lt, nI_toInt hn, nI_toInt (by omega)]; omega
theorem pn_dec : ∀ n, n ≤ 60 → (nI n - 1).toInt = (n : Int) - 1 := by decide
theorem ps_ltI {x y : Int32} : x < y ↔ x.toInt < y.toInt := Int32.lt_iff_toInt_lt
theorem ps_leI {x y : Int32} : x ≤ y ↔ x.toInt ≤ y.toInt := Int32.le_iff_toInt_le
theorem rN.pieceAt (h : rN np nb S M) (hi : i < np) : f_X2_pieceAt (nI i) S = some (nI i) := by
  have hb := h.1.1
  unfold f_X2_pieceAt
  rw [h.2.1.1, if_neg (pn_n0 (by omega)), if_neg (pn_le hi (by omega)), if_neg (show ¬ (24 : Int32) ≤ nI i from pn_le (n := 24) (by omega) (by omega)), gw_gdT (pi_in (by omega) (by omega)), nI_clamp (by omega), h.2.2.2.1 i (by omega), if_pos hi]
theorem rN.bookingAt (h : rN np nb S M) (hi : i < nb) : f_X2_bookingAt (nI i) S = some (nI i) := by
  have hb := h.1.2
  unfold f_X2_bookingAt
  rw [h.2.1.2.1, if_neg (pn_n0 (by omega)), if_neg (pn_le hi (by omega)), if_neg (show ¬ (30 : Int32) ≤ nI i from pn_le (n := 30) (by omega) (by omega)), gw_gdT (pi_in (by omega) (by omega)), nI_clamp (by omega), h.2.2.2.2 i (by omega), if_pos hi]
theorem rN.piece (h : rN np nb S M) (x : Int32) : (∃ i, i < np ∧ x = nI i ∧ f_X2_pieceAt x S = some (nI i) ∧ f_X9_isPiece x M = some 1) ∨ (f_X2_pieceAt x S = some (-1) ∧ f_X9_isPiece x M = some 0) := by
  have hb := h.1.1
  have hm : f_X9_isPiece x M = some (if 0 ≤ x.toInt ∧ x.toInt ≤ (np : Int) - 1 then 1 else 0) := by
    unfold f_X9_isPiece
    rw [h.2.2.1.1, ps_in, gw_bdS, ps_z, pq_0, Int32.toInt_toInt64, pn_dec np (by omega)]
  by_cases hx : 0 ≤ x.toInt ∧ x.toInt ≤ (np : Int) - 1
  · left
    obtain ⟨i, hi, rfl⟩ := nI_of (x := x) (by rw [ps_ltI, Int32.toInt_zero]; omega)
    rw [nI_toInt hi] at hx
    exact ⟨i, by omega, rfl, h.pieceAt (by omega), by rw [hm, nI_toInt hi, if_pos hx]⟩
  · right
    refine ⟨?_, by rw [hm, if_neg hx]⟩
    unfold f_X2_pieceAt
    by_cases h0 : x < 0
    · rw [if_pos h0]
    · rw [if_neg h0, h.2.1.1, if_pos]
      rw [ps_ltI, Int32.toInt_zero] at h0
      rw [ps_leI, nI_toInt (by omega)]; omega
theorem rN.booking (h : rN np nb S M) (x : Int32) : (∃ i, i < nb ∧ x = nI i ∧ f_X2_bookingAt x S = some (nI i) ∧ f_X9_isThere x M = some 1) ∨ (f_X2_bookingAt x S = some (-1) ∧ f_X9_isThere x M = some 0) := by
  have hb := h.1.2
  have hm : f_X9_isThere x M = some (if 0 ≤ x.toInt ∧ x.toInt ≤ (nb : Int) - 1 then 1 else 0) := by
    unfold f_X9_isThere
    rw [h.2.2.1.2, ps_in, gw_bdS, ps_z, pq_0, Int32.toInt_toInt64, pn_dec nb (by omega)]
  by_cases hx : 0 ≤ x.toInt ∧ x.toInt ≤ (nb : Int) - 1
  · left
    obtain ⟨i, hi, rfl⟩ := nI_of (x := x) (by rw [ps_ltI, Int32.toInt_zero]; omega)
    rw [nI_toInt hi] at hx
    exact ⟨i, by omega, rfl, h.bookingAt (by omega), by rw [hm, nI_toInt hi, if_pos hx]⟩
  · right
    refine ⟨?_, by rw [hm, if_neg hx]⟩
    unfold f_X2_bookingAt
    by_cases h0 : x < 0
    · rw [if_pos h0]
    · rw [if_neg h0, h.2.1.2.1, if_pos]
      rw [ps_ltI, Int32.toInt_zero] at h0
      rw [ps_leI, nI_toInt (by omega)]; omega
/-- a row of small calls -/
theorem rT.at (h : rT S M) {k : Nat} (hk : k < 8) : f_X7_at (nI k) S = some (M 3 k) := by rw [ps_at hk, (h k hk).1]
theorem rO.post (h : rO S M) {a b : Nat} (ha : a ≤ 8) (hb : b ≤ 8) : f_X2_postBetween (nI a) (nI b) S = some (M 6 (9 * a + b)) := by rw [ps_postB ha hb, (h _ (by omega)).1]
end RRD
/-! the LIES in it, and the whole of it -/
def lF (nd : Nat) (M : gw_S) (l : Nat → Int) : Prop := l 0 = 0 ∧ (∀ m, m < 6 → -9 ≤ l m ∧ l m ≤ 9) ∧ ∀ k, k < nd → (M 22 k).toInt - (M 20 k).toInt - 1 ≤ l (M 19 k).toNatClampNeg - l (M 21 k).toNatClampNeg ∧ l (M 19 k).toNatClampNeg - l (M 21 k).toNatClampNeg ≤ (M 22 k).toInt - (M 20 k).toInt + 1
def lBox (a b : Nat) : Int := (if a = 0 then 0 else 9) + (if b = 0 then 0 else 9)
def lD (S : gw_S) (a b : Nat) : Int := (S 8 (6 * a + b)).toInt
def rLd (nd : Nat) (S M : gw_S) : Prop := (nd ≤ 20 ∧ S 7 3 = nI nd ∧ M 0 21 = nI nd) ∧ (∀ k, k < nd → rg 0 5 (M 19 k) ∧ rg 1 40 (M 20 k) ∧ rg 0 5 (M 21 k) ∧ rg 1 40 (M 22 k)) ∧ (S 9 0 = 0 ∧ S 10 0 = 0) ∧ ((S 7 4 = 1 ∧ (∀ l, ¬ lF nd M l) ∧ ∀ m, 1 ≤ m → m < 6 → S 9 m = -9 ∧ S 10 m = 9) ∨ (S 7 4 = 0 ∧ (∀ m, 1 ≤ m → m < 6 → (S 9 m).toInt = - lD S m 0 ∧ (S 10 m).toInt = lD S 0 m) ∧ (∀ a, a < 6 → lD S a a = 0) ∧ (∀ a b v, a < 6 → b < 6 → v < 6 → lD S a b ≤ lD S a v + lD S v b) ∧ (∀ a b, a < 6 → b < 6 → lD S a b ≤ lBox a b) ∧ (∀ l, lF nd M l → ∀ a b, a < 6 → b < 6 → l b - l a ≤ lD S a b) ∧ ∀ k, k < nd → lD S (M 21 k).toNatClampNeg (M 19 k).toNatClampNeg ≤ (M 22 k).toInt - (M 20 k).toInt + 1 ∧ lD S (M 19 k).toNatClampNeg (M 21 k).toNatClampNeg ≤ 1 - ((M 22 k).toInt - (M 20 k).toInt)))
def rL (S M : gw_S) : Prop := ∃ nd, rLd nd S M
def rR (w : Nat) (S M : gw_S) : Prop := ∃ np nb t, rA w np nb S M ∧ rT S M ∧ rY t S M ∧ rO S M ∧ rS S M ∧ rI S ∧ rL S M
section RR3
variable {w np nb t i j : Nat} {S M S' M' : gw_S} {x1 x2 x3 x4 x5 x6 : Int32}
theorem rL.fr (h : rL S M) (a1 : S' 7 = S 7) (a2 : S' 8 = S 8) (a3 : S' 9 = S 9) (a4 : S' 10 = S 10) (b1 : M' 0 21 = M 0 21) (b2 : M' 19 = M 19) (b3 : M' 20 = M 20) (b4 : M' 21 = M 21) (b5 : M' 22 = M 22) : rL S' M' := by
  obtain ⟨nd, h⟩ := h
  refine ⟨nd, ?_⟩
  unfold rLd lF lD at h ⊢
  rw [a1, a2, a3, a4, b1, b2, b3, b4, b5]
  exact h
def gw_ex (w : Nat) (f1 f2 : Option (Int32 × gw_S)) : Prop := ∃ r S' M', f1 = some (r, S') ∧ f2 = some (r, M') ∧ rR w S' M'
theorem gx {w : Nat} {r r' : Int32} {S M : gw_S} (e : r' = r) (h : rR w S M) : gw_ex w (some (r, S)) (some (r', M)) := ⟨r, S, M, rfl, by rw [e], h⟩
theorem rO.set (h : rO S M) {a b : Nat} (ha : a < 81) (hx : rg 0 9 x1) : rO (gw_up S 11 a x1) (gw_up M 6 a x1) := by
  intro i hi
  have := h i hi
  simp only [gw_upE, upd]
  by_cases e : i = a
  · simp [e, hx]
  · simp only [if_neg e]; exact this
theorem so_post (h : rR w S M) : gw_ex w (f_X8_post x1 x2 x3 S) (f_X9_post x1 x2 x3 M) := by
  have h0 := h
  obtain ⟨np, nb, t, hA, hT, hY, hO, hS, hI, hL⟩ := h
  unfold f_X8_post f_X9_post
  rw [ps_isTown, ps_br, pm_isTown, ps_br, ps_isTown, ps_br, pm_isTown, ps_br, ps_isIn, ps_br, ps_in, ps_br, pz_0, pz_9, pq_0, pq_9]
  by_cases h1 : 0 ≤ x1.toInt ∧ x1.toInt ≤ 8
  · rw [if_pos h1, if_pos h1]
    by_cases h2 : 0 ≤ x2.toInt ∧ x2.toInt ≤ 8
    · rw [if_pos h2, if_pos h2]
      by_cases h3 : x1 = x2
      · rw [if_pos h3, if_pos h3]; exact gx rfl h0
      · rw [if_neg h3, if_neg h3]
        by_cases h4 : 0 ≤ x3.toInt ∧ x3.toInt ≤ 9
        · rw [if_pos h4, if_pos h4]
          obtain ⟨i, hi, rfl⟩ := ps_nI (n := 8) h1 (by omega)
          obtain ⟨j, hj, rfl⟩ := ps_nI (n := 8) h2 (by omega)
          rw [hO.post hi hj, gw_bdS]
          unfold f_X2_setPost
          rw [ps_isTown, ps_br, if_pos h1, ps_isTown, ps_br, if_pos h2, (p_mul9 i hi j hj).1, (p_mul9 j hj i hi).1, gw_gdT (pi_in (by omega) (by omega)), gw_letS, gw_gdT (pi_in (by omega) (by omega)), gw_letS, gw_bdS, (p_mul9 i hi j hj).2, (p_mul9 j hj i hi).2, gw_gdT (pi_in (by omega) (by omega)), gw_letS, gw_letS, gw_gdT (pi_in (by omega) (by omega)), gw_letS, nI_clamp (by omega), nI_clamp (by omega)]
          refine gx rfl ⟨np, nb, t, hA.fr rfl rfl rfl rfl rfl rfl (fun i => ?_) (fun i => ?_) rfl rfl (fun k hk => ?_), hT.fr rfl rfl rfl rfl, hY.fr rfl rfl rfl rfl, (hO.set (b := 0) (by omega) h4).set (b := 0) (by omega) h4, hS.fr (fun k hk hk' => ?_) rfl rfl rfl, hI.fr rfl, hL.fr rfl rfl rfl rfl rfl rfl rfl rfl rfl⟩
          · rw [gw_upN (by omega), gw_upN (by omega)]
          · rw [gw_upN (by omega), gw_upN (by omega)]
          · rw [gw_upN (by omega), gw_upN (by omega)]
          · rw [gw_upN (by omega), gw_upN (by omega)]
        · rw [if_neg h4, if_neg h4]; exact gx rfl h0
    · rw [if_neg h2, if_neg h2]; exact gx rfl h0
  · rw [if_neg h1, if_neg h1]; exact gx rfl h0
end RR3
section RR4
variable {w np nb t i j : Nat} {S M S' M' : gw_S} {x x1 x2 x3 x4 x5 x6 : Int32} {v : Int64}
def ty_b (v : Int64) (k : Nat) : Int32 := ((v >>> (((8 : Int32) * nI k).toInt64 &&& 63)) &&& (255 : Int64)).toInt32
theorem ty_nar : ∀ k, k < 127 → vp_nar .byte ((nI k).toInt8.toInt32) = nI k := by decide +kernel
theorem ty_nar' (h : rg 32 126 x) : vp_nar .byte (x.toInt8.toInt32) = x := by
  obtain ⟨k, hk, rfl⟩ := nI_of (x := x) (by rw [ps_ltI, Int32.toInt_zero]; have := h.1; omega)
  have := h.2; rw [nI_toInt hk] at this
  exact ty_nar k (by omega)
theorem rY.app (h : rY t S M) (ht : t < 60) (hx : rg 32 126 x) : rY (t + 1) (gw_up (gw_up S 2 t x) 1 1 (nI (t + 1))) (gw_up (gw_up M 5 t x) 0 5 (nI (t + 1))) := by
  refine ⟨by omega, rfl, rfl, fun i hi => ?_⟩
  show upd (S 2) t x i = upd (M 5) t x i ∧ rg 32 126 (upd (M 5) t x i)
  unfold upd
  by_cases e : i = t
  · rw [if_pos e, if_pos e]; exact ⟨rfl, hx⟩
  · rw [if_neg e, if_neg e]; exact h.2.2.2 i (by omega)
theorem ty_app (v : Int64) : ∀ (j n n' t : Nat) (S M : gw_S), j < n → j < n' → t + j ≤ 60 → j ≤ 8 → (∀ k, k < j → rg 32 126 (ty_b v k)) → rY t S M → ∃ S1 M1, f_X8_type_b65 n v (nI j - 1) S = some (nI (t + j), S1) ∧ f_X9_type_b74 n' v (nI j - 1) M = some (nI (t + j), M1) ∧ rY (t + j) S1 M1 ∧ (∀ k, k ≠ 1 → k ≠ 2 → S1 k = S k) ∧ (∀ k, k ≠ 0 → k ≠ 5 → M1 k = M k) ∧ ∀ i, i ≠ 5 → M1 0 i = M 0 i
  | 0, n + 1, n' + 1, t, S, M, _, _, _, _, _, h => by
    rw [f_X8_type_b65, f_X9_type_b74, if_pos (by decide), if_pos (by decide), h.2.1, h.2.2.1]
    exact ⟨S, M, rfl, rfl, h, fun _ _ _ => rfl, fun _ _ _ => rfl, fun _ _ => rfl⟩
  | j + 1, n + 1, n' + 1, t, S, M, hn, hn', ht, h8, hb, h => by
    have hj := hb j (by omega)
    rw [f_X8_type_b65, f_X9_type_b74, pn_pred, if_neg (pn_n0 (by omega)), if_neg (pn_n0 (by omega))]
    unfold f_X8_byteOf f_X6_append
    rw [gw_bdS, pc_b8 v j (by omega)]
    show ∃ S1 M1, gw_bd (if (60 : Int32) ≤ S 1 1 then some S else gw_gd (gw_in (S 1 1) 60) (gw_let (gw_up S 2 (S 1 1).toNatClampNeg (vp_nar .byte ((ty_b v j).toInt8.toInt32))) _)) _ = _ ∧ gw_gd (gw_in (M 0 5) 60) (gw_let (gw_up M 5 (M 0 5).toNatClampNeg (ty_b v j)) _) = _ ∧ _
    rw [ty_nar' hj, h.2.1, h.2.2.1, if_neg (show ¬ (60 : Int32) ≤ nI t from pn_le (n := 60) (by omega) (by omega)), gw_gdT (pi_in (by omega) (by omega)), gw_letS, gw_letS, gw_bdS, gw_letS, pn_addm, gw_gdT (pi_in (by omega) (by omega)), gw_letS, gw_letS, gw_letS, nI_clamp (by omega)]
    have e1 : gw_up S 2 t (ty_b v j) 1 1 + 1 = nI (t + 1) := by show S 1 1 + 1 = _; rw [h.2.1, nI_1]
    have e2 : gw_up M 5 t (ty_b v j) 0 5 + 1 = nI (t + 1) := by show M 0 5 + 1 = _; rw [h.2.2.1, nI_1]
    rw [e1, e2]
    obtain ⟨S1, M1, k1, k2, k3, k4, k5, k6⟩ := ty_app v j n n' (t + 1) _ _ (by omega) (by omega) (by omega) (by omega) (fun k hk => hb k (by omega)) (h.app (by omega) hj)
    rw [k1, k2]
    refine ⟨S1, M1, by congr 3; omega, by congr 3; omega, by rw [show t + (j + 1) = t + 1 + j by omega]; exact k3, fun k q1 q2 => ?_, fun k q1 q2 => ?_, fun i hi => ?_⟩
    · rw [k4 k q1 q2, gw_upN q1, gw_upN q2]
    · rw [k5 k q1 q2, gw_upN q1, gw_upN q2]
    · rw [k6 i hi]; show upd (M 0) 5 _ i = _; unfold upd; rw [if_neg hi]
theorem ty_loop (v : Int64) (x : Int32) : ∀ (j n n' : Nat), j ≤ 8 → j < n → j < n' → (f_X8_type_b17 n v x (nI j - 1) S = some (-1, S) ∧ f_X9_type_b19 n' v x (nI j - 1) M = some (-1, M)) ∨ ((∀ k, k < j → rg 32 126 (ty_b v k)) ∧ f_X8_type_b17 n v x (nI j - 1) S = gw_bd (f_X6_hasRoomFor x S) (fun r9 => (if r9 = 0 then some ((-3 : Int32), S) else gw_let ((x - (1 : Int32)) : Int32) (fun y12 => f_X8_type_b65 gw_F v y12 S))) ∧ f_X9_type_b19 n' v x (nI j - 1) M = (if ((M 0 5) + x) ≤ (60 : Int32) then gw_let ((x - (1 : Int32)) : Int32) (fun y11 => f_X9_type_b74 gw_F v y11 M) else some ((-3 : Int32), M)))
  | 0, n + 1, n' + 1, _, _, _ => Or.inr ⟨fun k hk => absurd hk (Nat.not_lt_zero k), by rw [f_X8_type_b17, if_pos (by decide)], by rw [f_X9_type_b19, if_pos (by decide)]⟩
  | j + 1, n + 1, n' + 1, hj, hn, hn' => by
    rw [f_X8_type_b17, f_X9_type_b19, pn_pred, if_neg (pn_n0 (by omega)), if_neg (pn_n0 (by omega))]
    unfold f_X8_byteOf
    rw [gw_bdS, ps_isIn, ps_br, ps_in64, ps_br, pc_b8 v j (by omega)]
    by_cases hb : rg 32 126 (ty_b v j)
    · have hb' := hb
      unfold rg ty_b at hb'
      have hb2 := hb'
      rw [pc_i32 (pc_r8 _)] at hb2
      rw [pz_32, pz_126, pq_32, pq_126, if_pos hb', if_pos hb2, gw_letS, gw_letS, pn_addm]
      rcases ty_loop v x j n n' (by omega) (by omega) (by omega) with h | ⟨h1, h2, h3⟩
      · exact Or.inl h
      · refine Or.inr ⟨fun k hk => ?_, h2, h3⟩
        by_cases e : k = j
        · subst e; exact hb
        · exact h1 k (by omega)
    · have hb' := hb
      unfold rg ty_b at hb'
      have hb2 := hb'
      rw [pc_i32 (pc_r8 _)] at hb2
      rw [pz_32, pz_126, pq_32, pq_126, if_neg hb', if_neg hb2]
      exact Or.inl ⟨rfl, rfl⟩
theorem pn_sub {a b : Nat} (h : b ≤ a) (ha : a < 2 ^ 31) : (nI a - nI b).toInt = (a : Int) - b := by
  rw [Int32.toInt_sub, nI_toInt ha, nI_toInt (by omega), Int.bmod_eq_of_le] <;> omega
theorem so_type (h : rR w S M) : gw_ex w (f_X8_type v x S) (f_X9_type v x M) := by
  have h0 := h
  obtain ⟨np, nb, t, hA, hT, hY, hO, hS, hI, hL⟩ := h
  unfold f_X8_type f_X9_type
  rw [ps_isIn, ps_br, ps_in, ps_br, pz_1, pz_8, pq_1, pq_8, gw_letS, gw_letS]
  by_cases h1 : 1 ≤ x.toInt ∧ x.toInt ≤ 8
  · rw [if_pos h1, if_pos h1]
    obtain ⟨j, hj, rfl⟩ := ps_nI (x := x) (n := 8) (by omega) (by omega)
    rcases ty_loop (S := S) (M := M) v (nI j) j gw_F gw_F hj (Nat.lt_of_le_of_lt hj (by decide)) (Nat.lt_of_le_of_lt hj (by decide)) with ⟨e1, e2⟩ | ⟨hb, e1, e2⟩
    · rw [e1, e2]; exact gx rfl h0
    · rw [e1, e2]
      unfold f_X6_hasRoomFor
      have ht := hY.1
      have c1 : (60 : Int32) - S 1 1 < nI j ↔ 60 < t + j := by
        rw [hY.2.1, ps_ltI, show (60 : Int32) = nI 60 from rfl, pn_sub (by omega) (by omega), nI_toInt (by omega)]; omega
      have c2 : M 0 5 + nI j ≤ (60 : Int32) ↔ t + j ≤ 60 := by
        rw [hY.2.2.1, nI_add, show (60 : Int32) = nI 60 from rfl, nI_leI (by omega) (by omega)]
      by_cases c : t + j ≤ 60
      · rw [if_neg (by rw [c1]; omega), gw_bdS, if_neg (by decide), if_pos (c2.mpr c), gw_letS, gw_letS]
        obtain ⟨S1, M1, k1, k2, k3, k4, k5, k6⟩ := ty_app v j gw_F gw_F t S M (Nat.lt_of_le_of_lt hj (by decide)) (Nat.lt_of_le_of_lt hj (by decide)) c hj hb hY
        rw [k1, k2]
        exact gx rfl ⟨np, nb, t + j, hA.fr (by rw [k4 _ (by omega) (by omega)]) (by rw [k4 _ (by omega) (by omega)]) (by rw [k4 _ (by omega) (by omega)]) (by rw [k4 _ (by omega) (by omega)]) (k4 _ (by omega) (by omega)) (k4 _ (by omega) (by omega)) (fun i => k4 _ (by omega) (by omega)) (fun i => k4 _ (by omega) (by omega)) (k6 _ (by omega)) (k6 _ (by omega)) (fun k hk => k5 k (by omega) (by omega)),
          hT.fr (k4 _ (by omega) (by omega)) (k5 _ (by omega) (by omega)) (k5 _ (by omega) (by omega)) (k5 _ (by omega) (by omega)), k3, hO.fr (k4 _ (by omega) (by omega)) (k5 _ (by omega) (by omega)), hS.fr (fun k _ _ => k4 k (by omega) (by omega)) (k5 _ (by omega) (by omega)) (k5 _ (by omega) (by omega)) (k5 _ (by omega) (by omega)), hI.fr (k4 _ (by omega) (by omega)),
          hL.fr (k4 _ (by omega) (by omega)) (k4 _ (by omega) (by omega)) (k4 _ (by omega) (by omega)) (k4 _ (by omega) (by omega)) (k6 _ (by omega)) (k5 _ (by omega) (by omega)) (k5 _ (by omega) (by omega)) (k5 _ (by omega) (by omega)) (k5 _ (by omega) (by omega))⟩
      · rw [if_pos (by rw [c1]; omega), gw_bdS, if_pos rfl, if_neg (fun q => c (c2.mp q))]; exact gx rfl h0
  · rw [if_neg h1, if_neg h1]; exact gx rfl h0
end RR4
section RR5
variable {w np nb t i j : Nat} {S M S' M' : gw_S} {x k x1 x2 x3 x4 x5 x6 : Int32} {v : Int64}
theorem gw_ru {f : Nat → Int32} {a b : Nat} {x : Int32} (h : b ≠ a) : upd f a x b = f b := by unfold upd; rw [if_neg h]
theorem gw_rs {f : Nat → Int32} {a : Nat} {x : Int32} : upd f a x a = x := by unfold upd; rw [if_pos rfl]
/-- a PIECE comes -/
theorem rA.addP (h : rA w np nb S M) (hnp : np < 24) (hr : rg 0 2 k ∧ rg 0 5 x1 ∧ rg 1 40 x2 ∧ rg 0 9 x3 ∧ rg 0 8 x4 ∧ rg 1 9999 x5 ∧ rg 1 99 x6)
    (a1 : S' 3 6 = nI (np + 1)) (a2 : S' 3 7 = S 3 7) (a3 : S' 29 0 = nI (np + 1)) (a4 : S' 29 1 = S 29 1) (a5 : S' 12 = upd (S 12) np (nI np)) (a6 : S' 13 = S 13) (a7 : ∀ i, i ≠ np → S' (2 * i + 30) = S (2 * i + 30)) (a8 : ∀ i, S' (2 * i + 31) = S (2 * i + 31)) (a9 : S' (2 * np + 30) = upd (gw_lst [k, x1, x2, x3, x4, x5, x6, 0, 0, 0, -4, 0]) 7 (nI np))
    (b1 : M' 0 8 = nI (np + 1)) (b2 : M' 0 29 = M 0 29) (b3 : M' 7 = upd (M 7) np k ∧ M' 8 = upd (M 8) np x1 ∧ M' 9 = upd (M 9) np x2 ∧ M' 10 = upd (M 10) np x3 ∧ M' 11 = upd (M 11) np x4 ∧ M' 12 = upd (M 12) np x5 ∧ M' 13 = upd (M 13) np x6) (b4 : ∀ k, (14 ≤ k ∧ k ≤ 18) ∨ (25 ≤ k ∧ k ≤ 35) → M' k = M k) : rA w (np + 1) nb S' M' := by
  obtain ⟨hN, hP, hP0, hB, hB0⟩ := h
  obtain ⟨c7, c8, c9, c10, c11, c12, c13⟩ := b3
  refine ⟨⟨⟨by omega, hN.1.2⟩, ⟨a1, by rw [a2]; exact hN.2.1.2.1, a3, by rw [a4]; exact hN.2.1.2.2.2⟩, ⟨b1, by rw [b2]; exact hN.2.2.1.2⟩, fun i hi => ?_, fun j hj => by rw [a6]; exact hN.2.2.2.2 j hj⟩, fun i hi => ?_, fun i hi hi' => ?_, fun j hj => ?_, fun j hj hj' => ?_⟩
  · rw [a5]
    by_cases e : i = np
    · subst e; rw [gw_rs, if_pos (by omega)]
    · rw [gw_ru e, hN.2.2.2.1 i hi]
      by_cases e2 : i < np
      · rw [if_pos e2, if_pos (by omega)]
      · rw [if_neg e2, if_neg (by omega)]
  · unfold rP
    rw [c7, c8, c9, c10, c11, c12, c13, b4 14 (by omega), b4 15 (by omega), b4 16 (by omega), b4 17 (by omega), b4 18 (by omega)]
    by_cases e : i = np
    · subst e
      obtain ⟨z14, z15, z16, z17, z18⟩ := hP0 i (Nat.le_refl i) hnp
      rw [a9, gw_rs, gw_rs, gw_rs, gw_rs, gw_rs, gw_rs, gw_rs, gw_rs, z14, z15, z16, z17, z18]
      refine ⟨⟨rfl, rfl, rfl, rfl, rfl, rfl, rfl⟩, ⟨rfl, rfl, rfl, rfl⟩, Or.inl ⟨rfl, rfl⟩, hr, ⟨⟨by decide, by decide⟩, ⟨by decide, by rw [Int32.toInt_zero]; omega⟩, Or.inl rfl, ⟨by decide, by decide⟩⟩⟩
    · rw [a7 i e, gw_ru e, gw_ru e, gw_ru e, gw_ru e, gw_ru e, gw_ru e, gw_ru e]
      exact hP i (by omega)
  · have := hP0 i (by omega) hi'
    unfold rP0 at this ⊢
    rw [b4 14 (by omega), b4 15 (by omega), b4 16 (by omega), b4 17 (by omega), b4 18 (by omega)]; exact this
  · have := hB j hj
    unfold rB at this ⊢
    rw [a8, b4 25 (by omega), b4 26 (by omega), b4 27 (by omega), b4 28 (by omega), b4 29 (by omega), b4 30 (by omega), b4 31 (by omega), b4 32 (by omega), b4 33 (by omega), b4 34 (by omega), b4 35 (by omega)]
    obtain ⟨q1, q2, ⟨q3, q4⟩, q5⟩ := this
    refine ⟨q1, q2, ⟨q3, ?_⟩, q5⟩
    rcases q4 with q | ⟨i, hi, q⟩
    · exact Or.inl q
    · exact Or.inr ⟨i, by omega, q⟩
  · have := hB0 j hj hj'
    unfold rB0 at this ⊢
    rw [b4 33 (by omega), b4 34 (by omega), b4 35 (by omega)]; exact this
theorem rN.okP (h : rA w np nb S M) (hn : np < 24) : gw_okP S := by
  obtain ⟨hN, hP, hP0, hB, hB0⟩ := h
  have e1 := hN.gnp; have e2 := hN.gnb
  refine ⟨?_, fun i hi => ?_, fun j hj => ?_⟩
  · rw [hN.2.1.2.2.1]; exact ⟨pn_p0 (by omega), by rw [ps_ltI, nI_toInt (by omega), show (1000 : Int32).toInt = 1000 by decide]; omega⟩
  · rw [hN.2.2.2.1 i hi, e1]
    by_cases e : i < np
    · rw [if_pos e, nI_clamp (by omega)]; exact Or.inr e
    · rw [if_neg e]; exact Or.inl rfl
  · rw [e2] at hj
    have q := (hB j hj).2.2.1
    rw [q.1, e1]
    rcases q.2 with q | ⟨i, hi, q⟩
    · exact Or.inl q
    · rw [q, nI_clamp (by omega)]; exact Or.inr hi
theorem rN.okB (h : rA w np nb S M) (hn : nb < 30) : gw_okB S := by
  obtain ⟨hN, hP, hP0, hB, hB0⟩ := h
  have e2 := hN.gnb
  refine ⟨?_, fun i hi => ?_⟩
  · rw [hN.2.1.2.2.2]; exact ⟨pn_p0 (by omega), by rw [ps_ltI, nI_toInt (by omega), show (1000 : Int32).toInt = 1000 by decide]; omega⟩
  · rw [hN.2.2.2.2 i hi, e2]
    by_cases e : i < nb
    · rw [if_pos e, nI_clamp (by omega)]; exact Or.inr e
    · rw [if_neg e]; exact Or.inl rfl
theorem gw_addPo {S : gw_S} {r : Nat} {k x1 x2 x3 x4 x5 x6 : Int32} (h1 : ¬ r = 2 * gw_np S + 30) (h2 : ¬ r = 29) : gw_addP S k x1 x2 x3 x4 x5 x6 r = S r := by unfold gw_addP; rw [if_neg h1, if_neg h2]
theorem gw_addP9 {S : gw_S} {k x1 x2 x3 x4 x5 x6 : Int32} : gw_addP S k x1 x2 x3 x4 x5 x6 29 = upd (S 29) 0 (S 29 0 + 1) := by unfold gw_addP; rw [if_neg (by omega), if_pos rfl]
theorem gw_addPn {S : gw_S} {k x1 x2 x3 x4 x5 x6 : Int32} : gw_addP S k x1 x2 x3 x4 x5 x6 (2 * gw_np S + 30) = gw_lst [k, x1, x2, x3, x4, x5, x6, 0, 0, 0, -4, 0] := by unfold gw_addP; rw [if_pos rfl]
theorem gw_addBo {S : gw_S} {r : Nat} {k x1 x2 x3 x4 x5 x6 : Int32} (h1 : ¬ r = 2 * gw_nb S + 31) (h2 : ¬ r = 29) : gw_addB S k x1 x2 x3 x4 x5 x6 r = S r := by unfold gw_addB; rw [if_neg h1, if_neg h2]
theorem gw_addB9 {S : gw_S} {k x1 x2 x3 x4 x5 x6 : Int32} : gw_addB S k x1 x2 x3 x4 x5 x6 29 = upd (S 29) 1 (S 29 1 + 1) := by unfold gw_addB; rw [if_neg (by omega), if_pos rfl]
theorem gw_addBn {S : gw_S} {k x1 x2 x3 x4 x5 x6 : Int32} : gw_addB S k x1 x2 x3 x4 x5 x6 (2 * gw_nb S + 31) = gw_lst [k, x1, x2, x3, x4, x5, x6, -4, -1, 0, 0, 0, 0, 0] := by unfold gw_addB; rw [if_pos rfl]
def sP (np : Nat) (S : gw_S) (k x1 x2 x3 x4 x5 x6 : Int32) : gw_S := gw_up (gw_up (gw_up (gw_addP S k x1 x2 x3 x4 x5 x6) (2 * np + 30) 7 (nI np)) 12 np (nI np)) 3 6 (nI (np + 1))
theorem rN.keep (hN : rN np nb S M) (hn : np < 24) : f_X2_keep (nI np) (gw_addP S k x1 x2 x3 x4 x5 x6) = some (nI np, sP np S k x1 x2 x3 x4 x5 x6) := by
  have e1 := hN.gnp
  have h3 : gw_addP S k x1 x2 x3 x4 x5 x6 3 = S 3 := gw_addPo (by omega) (by omega)
  have h36 := hN.2.1.1
  have hp : ∀ S1 : gw_S, S1 29 = upd (S 29) 0 (S 29 0 + 1) → gw_np S1 = np + 1 := fun S1 q => by
    show (S1 29 0).toNatClampNeg = _
    rw [q, gw_rs, hN.2.1.2.2.1, nI_1, nI_clamp (by omega)]
  unfold f_X2_keep
  rw [h3, h36, if_pos (show nI np < (24 : Int32) from pn_lt (n := 24) hn (by omega)), gw_gdT (pn_m1 (by omega)), gw_gdT (by rw [nI_clamp (by omega), hp _ gw_addP9]; omega), gw_letS, nI_clamp (by omega)]
  have f3 : gw_up (gw_addP S k x1 x2 x3 x4 x5 x6) (2 * np + 30) 7 (nI np) 3 = S 3 := by rw [gw_upN (by omega), h3]
  rw [f3, h36, gw_gdT (by rw [hp _ (by rw [gw_upN (by omega)]; exact gw_addP9)]; omega), gw_gdT (pi_in (by omega) (by omega)), gw_letS, nI_clamp (by omega)]
  have f4 : gw_up (gw_up (gw_addP S k x1 x2 x3 x4 x5 x6) (2 * np + 30) 7 (nI np)) 12 np (nI np) 3 = S 3 := by rw [gw_upN (by omega), f3]
  rw [f4, h36, gw_letS, nI_1, gw_gdT (by rw [hp _ (by rw [gw_upN (by omega), gw_upN (by omega), gw_upN (by omega)]; exact gw_addP9)]; omega)]
  refine congrArg (fun z => some (z, _)) ?_
  rw [gw_upN (by omega), gw_upN (by omega), gw_upE, gw_rs]
theorem so_add (hk : rg 0 2 k) (h : rR w S M) : gw_ex w (f_X8_addPiece k x1 x2 x3 x4 x5 x6 S) (f_X9_add k x1 x2 x3 x4 x5 x6 M) := by
  have h0 := h
  obtain ⟨np, nb, t, hA, hT, hY, hO, hS, hI, hL⟩ := h
  have hN := hA.1
  have hnp := hN.1.1
  unfold f_X8_addPiece f_X9_add
  rw [ps_isMaker, ps_br, pm_isMaker, ps_br, ps_isLabel, ps_br, pm_isLabel, ps_br, ps_isIn, ps_br, ps_in, ps_br, ps_isTown, ps_br, pm_isTown, ps_br, ps_isIn, ps_br, ps_in, ps_br, ps_isIn, ps_br, ps_in, ps_br, pz_0, pz_1, pz_9, pz_9999, pz_99, pq_0, pq_1, pq_9, pq_9999, pq_99]
  by_cases h1 : 0 ≤ x1.toInt ∧ x1.toInt ≤ 5
  · rw [if_pos h1, if_pos h1]
    by_cases h2 : 1 ≤ x2.toInt ∧ x2.toInt ≤ 40
    · rw [if_pos h2, if_pos h2]
      by_cases h3 : 0 ≤ x3.toInt ∧ x3.toInt ≤ 9
      · rw [if_pos h3, if_pos h3]
        by_cases h4 : 0 ≤ x4.toInt ∧ x4.toInt ≤ 8
        · rw [if_pos h4, if_pos h4]
          by_cases h5 : 1 ≤ x5.toInt ∧ x5.toInt ≤ 9999
          · rw [if_pos h5, if_pos h5]
            by_cases h6 : 1 ≤ x6.toInt ∧ x6.toInt ≤ 99
            · rw [if_pos h6, if_pos h6, hN.2.1.1, hN.2.2.1.1]
              by_cases hn : np < 24
              · have e1 := hN.gnp
                rw [if_pos (show nI np < (24 : Int32) from pn_lt (n := 24) hn (by omega)), if_neg (show ¬ nI np = (24 : Int32) from fun e => by have := (nI_eq (by omega) (by omega)).mp (show nI np = nI 24 from e); omega), gw_gdT (rN.okP hA hn), gw_letS, hN.2.1.2.2.1, hN.keep hn, gw_b2S]
                have g8 : gw_in (nI np) 24 := pi_in (by omega) (by omega)
                rw [gw_gdT g8, gw_letS, gw_gdT (by rw [p0_7, hN.2.2.1.1]; exact g8), gw_letS, gw_gdT (by rw [p0_8, p0_7, hN.2.2.1.1]; exact g8), gw_letS, gw_gdT (by rw [p0_9, p0_8, p0_7, hN.2.2.1.1]; exact g8), gw_letS, gw_gdT (by rw [p0_10, p0_9, p0_8, p0_7, hN.2.2.1.1]; exact g8), gw_letS, gw_gdT (by rw [p0_11, p0_10, p0_9, p0_8, p0_7, hN.2.2.1.1]; exact g8), gw_letS, gw_gdT (by rw [p0_12, p0_11, p0_10, p0_9, p0_8, p0_7, hN.2.2.1.1]; exact g8), gw_letS, gw_letS]
                simp only [p0_7, p0_8, p0_9, p0_10, p0_11, p0_12, p0_13, hN.2.2.1.1, nI_clamp (show np < 2 ^ 31 by omega), nI_1, gw_upE, gw_rs, pn_pred]
                refine gx rfl ⟨np + 1, nb, t, hA.addP (k := k) (x1 := x1) (x2 := x2) (x3 := x3) (x4 := x4) (x5 := x5) (x6 := x6) hn ⟨hk, h1, h2, h3, h4, h5, h6⟩ rfl ?_ ?_ ?_ ?_ ?_ (fun i hi => ?_) (fun i => ?_) ?_ rfl rfl ⟨rfl, rfl, rfl, rfl, rfl, rfl, rfl⟩ (fun k hk => ?_), hT.fr ?_ rfl rfl rfl, hY.fr ?_ ?_ rfl rfl, hO.fr ?_ rfl, hS.fr (fun k q1 q2 => ?_) rfl rfl rfl, hI.fr ?_, hL.fr ?_ ?_ ?_ ?_ rfl rfl rfl rfl rfl⟩
                all_goals try unfold sP
                · rw [gw_upE, gw_ru (by omega), gw_upN (by omega), gw_upN (by omega), gw_addPo (by omega) (by omega)]
                · rw [gw_upN (by omega), gw_upN (by omega), gw_upN (by omega), gw_addP9, gw_rs, hN.2.1.2.2.1, nI_1]
                · rw [gw_upN (by omega), gw_upN (by omega), gw_upN (by omega), gw_addP9, gw_ru (by omega)]
                · rw [gw_upN (by omega), gw_upE, gw_upN (by omega), gw_addPo (by omega) (by omega)]
                · rw [gw_upN (by omega), gw_upN (by omega), gw_upN (by omega), gw_addPo (by omega) (by omega)]
                · rw [gw_upN (by omega), gw_upN (by omega), gw_upN (by omega), gw_addPo (by omega) (by omega)]
                · rw [gw_upN (by omega), gw_upN (by omega), gw_upN (by omega), gw_addPo (by omega) (by omega)]
                · rw [gw_upN (by omega), gw_upN (by omega), gw_upE, ← e1, gw_addPn]
                · rw [gw_upN (by omega), gw_upN (by omega), gw_upN (by omega), gw_upN (by omega), gw_upN (by omega), gw_upN (by omega), gw_upN (by omega), gw_upN (by omega)]
                all_goals rw [gw_upN (by omega), gw_upN (by omega), gw_upN (by omega), gw_addPo (by omega) (by omega)]
              · have e : np = 24 := by omega
                subst e
                rw [if_neg (by decide), if_pos (show nI 24 = 24 from rfl)]; exact gx rfl h0
            · rw [if_neg h6, if_neg h6]; exact gx rfl h0
          · rw [if_neg h5, if_neg h5]; exact gx rfl h0
        · rw [if_neg h4, if_neg h4]; exact gx rfl h0
      · rw [if_neg h3, if_neg h3]; exact gx rfl h0
    · rw [if_neg h2, if_neg h2]; exact gx rfl h0
  · rw [if_neg h1, if_neg h1]; exact gx rfl h0
theorem gx_b2 {f1 f2 : Option (Int32 × gw_S)} (h : gw_ex w f1 f2) : gw_ex w (gw_b2 f1 (fun r S => some (r, S))) (gw_b2 f2 (fun r S => some (r, S))) := by
  obtain ⟨r, S1, M1, rfl, rfl, h⟩ := h
  exact ⟨r, S1, M1, rfl, rfl, h⟩
theorem so_gown (h : rR w S M) : gw_ex w (f_X8_gown x1 x2 x3 x4 x5 x6 S) (f_X9_gown x1 x2 x3 x4 x5 x6 M) := gx_b2 (so_add ⟨by decide, by decide⟩ h)
theorem so_longGown (h : rR w S M) : gw_ex w (f_X8_longGown x1 x2 x3 x4 x5 x6 S) (f_X9_longGown x1 x2 x3 x4 x5 x6 M) := gx_b2 (so_add ⟨by decide, by decide⟩ h)
theorem so_suit (h : rR w S M) : gw_ex w (f_X8_suit x1 x2 x3 x4 x5 x6 S) (f_X9_suit x1 x2 x3 x4 x5 x6 M) := gx_b2 (so_add ⟨by decide, by decide⟩ h)
end RR5
section RR6
variable {w np nb t i j : Nat} {S M S' M' : gw_S} {x k x1 x2 x3 x4 x5 x6 : Int32} {v : Int64}
abbrev bOK (x1 x2 x3 x4 x5 x6 : Int32) : Prop := (1 ≤ x1.toInt ∧ x1.toInt ≤ 40) ∧ (0 ≤ x2.toInt ∧ x2.toInt ≤ 2) ∧ (20 ≤ x3.toInt ∧ x3.toInt ≤ 380) ∧ (0 ≤ x4.toInt ∧ x4.toInt ≤ 8) ∧ (0 ≤ x5.toInt ∧ x5.toInt ≤ 399) ∧ (-1 ≤ x6.toInt ∧ x6.toInt ≤ 4)
/-- a BOOKING comes -/
theorem rA.addB (h : rA w np nb S M) (hnb : nb < 30) (hr : bOK x1 x2 x3 x4 x5 x6)
    (a1 : S' 3 6 = S 3 6) (a2 : S' 3 7 = nI (nb + 1)) (a3 : S' 29 0 = S 29 0) (a4 : S' 29 1 = nI (nb + 1)) (a5 : S' 12 = S 12) (a6 : S' 13 = upd (S 13) nb (nI nb)) (a7 : ∀ i, S' (2 * i + 30) = S (2 * i + 30)) (a8 : ∀ j, j ≠ nb → S' (2 * j + 31) = S (2 * j + 31)) (a9 : S' (2 * nb + 31) = gw_lst [nI nb, x1, x2, x3, x4, x5, x6, -4, -1, 0, 0, 0, 0, 0])
    (b1 : M' 0 8 = M 0 8) (b2 : M' 0 29 = nI (nb + 1)) (b3 : M' 25 = upd (M 25) nb x1 ∧ M' 26 = upd (M 26) nb x2 ∧ M' 27 = upd (M 27) nb x3 ∧ M' 28 = upd (M 28) nb x4 ∧ M' 29 = upd (M 29) nb x5 ∧ M' 30 = upd (M 30) nb x6 ∧ M' 31 = upd (M 31) nb (-1) ∧ M' 32 = upd (M 32) nb (-1)) (b4 : ∀ k, (7 ≤ k ∧ k ≤ 18) ∨ (33 ≤ k ∧ k ≤ 35) → M' k = M k) : rA w np (nb + 1) S' M' := by
  obtain ⟨hN, hP, hP0, hB, hB0⟩ := h
  obtain ⟨c25, c26, c27, c28, c29, c30, c31, c32⟩ := b3
  refine ⟨⟨⟨hN.1.1, by omega⟩, ⟨by rw [a1]; exact hN.2.1.1, a2, by rw [a3]; exact hN.2.1.2.2.1, a4⟩, ⟨by rw [b1]; exact hN.2.2.1.1, b2⟩, fun i hi => by rw [a5]; exact hN.2.2.2.1 i hi, fun j hj => ?_⟩, fun i hi => ?_, fun i hi hi' => ?_, fun j hj => ?_, fun j hj hj' => ?_⟩
  · rw [a6]
    by_cases e : j = nb
    · subst e; rw [gw_rs, if_pos (by omega)]
    · rw [gw_ru e, hN.2.2.2.2 j hj]
      by_cases e2 : j < nb
      · rw [if_pos e2, if_pos (by omega)]
      · rw [if_neg e2, if_neg (by omega)]
  · have := hP i hi
    unfold rP at this ⊢
    rw [a7, b4 7 (by omega), b4 8 (by omega), b4 9 (by omega), b4 10 (by omega), b4 11 (by omega), b4 12 (by omega), b4 13 (by omega), b4 14 (by omega), b4 15 (by omega), b4 16 (by omega), b4 17 (by omega), b4 18 (by omega)]; exact this
  · have := hP0 i hi hi'
    unfold rP0 at this ⊢
    rw [b4 14 (by omega), b4 15 (by omega), b4 16 (by omega), b4 17 (by omega), b4 18 (by omega)]; exact this
  · unfold rB
    rw [c25, c26, c27, c28, c29, c30, c31, c32, b4 33 (by omega), b4 34 (by omega), b4 35 (by omega)]
    by_cases e : j = nb
    · subst e
      obtain ⟨z33, z34, z35⟩ := hB0 j (Nat.le_refl j) hnb
      rw [a9, gw_rs, gw_rs, gw_rs, gw_rs, gw_rs, gw_rs, gw_rs, gw_rs, z33, z34, z35]
      exact ⟨⟨rfl, rfl, rfl, rfl, rfl, rfl, rfl⟩, Or.inl ⟨rfl, rfl⟩, ⟨rfl, Or.inl rfl⟩, ⟨rfl, Or.inl rfl⟩, ⟨rfl, rfl⟩, hr⟩
    · rw [a8 j e, gw_ru e, gw_ru e, gw_ru e, gw_ru e, gw_ru e, gw_ru e, gw_ru e, gw_ru e]
      exact hB j (by omega)
  · have := hB0 j (by omega) hj'
    unfold rB0 at this ⊢
    rw [b4 33 (by omega), b4 34 (by omega), b4 35 (by omega)]; exact this
def sB (nb : Nat) (S : gw_S) (x1 x2 x3 x4 x5 x6 : Int32) : gw_S := gw_up (gw_up (gw_addB S (nI nb) x1 x2 x3 x4 x5 x6) 13 nb (nI nb)) 3 7 (nI (nb + 1))
def sBm (nb : Nat) (M : gw_S) (x1 x2 x3 x4 x5 x6 : Int32) : gw_S := gw_up (gw_up (gw_up (gw_up (gw_up (gw_up (gw_up (gw_up (gw_up M 25 nb x1) 26 nb x2) 27 nb x3) 28 nb x4) 29 nb x5) 30 nb x6) 31 nb (-1)) 32 nb (-1)) 0 29 (nI (nb + 1))
theorem rN.room (hN : rN np nb S M) {n : Nat} (hn : n ≤ 30) : f_X2_hasRoomForBookings (nI n) S = some (if nb + n ≤ 30 then 1 else 0) := by
  have h1 := hN.1.2
  unfold f_X2_hasRoomForBookings
  rw [hN.2.1.2.1]
  have e : (30 : Int32) - nI nb < nI n ↔ ¬ nb + n ≤ 30 := by rw [ps_ltI, show (30 : Int32) = nI 30 from rfl, pn_sub (by omega) (by omega), nI_toInt (by omega)]; omega
  by_cases c : nb + n ≤ 30
  · rw [if_neg (fun q => e.mp q c), if_pos c]
  · rw [if_pos (e.mpr c), if_neg c]
theorem rN.room1 (hN : rN np nb S M) : f_X2_hasRoomForBookings 1 S = some (if nb < 30 then 1 else 0) := by
  have e : f_X2_hasRoomForBookings 1 S = some (if nb + 1 ≤ 30 then 1 else 0) := hN.room (n := 1) (by omega)
  rw [e]
  by_cases c : nb < 30
  · rw [if_pos c, if_pos (by omega)]
  · rw [if_neg c, if_neg (by omega)]
theorem rA.addBooking (h : rA w np nb S M) (hn : nb < 30) : f_X2_addBooking x1 x2 x3 x4 x5 x6 S = some (sB nb S x1 x2 x3 x4 x5 x6) := by
  have hN := h.1
  have e2 := hN.gnb
  unfold f_X2_addBooking
  rw [hN.room1, ps_br, if_pos hn, gw_gdT (rN.okB h hn), gw_letS, hN.2.1.2.1, hN.2.1.2.2.2, gw_gdT (pn_m1 (by omega)), gw_gdT (by
    rw [nI_clamp (by omega)]
    show nb < (gw_addB S _ x1 x2 x3 x4 x5 x6 29 1).toNatClampNeg
    rw [gw_addB9, gw_rs, hN.2.1.2.2.2, nI_1, nI_clamp (by omega)]; omega), gw_gdT (pi_in (by omega) (by omega)), gw_letS, gw_letS, nI_clamp (by omega)]
  have e3 : gw_up (gw_addB S (nI nb) x1 x2 x3 x4 x5 x6) 13 nb (nI nb) 3 7 = nI nb := by rw [gw_upN (by omega), gw_addBo (by omega) (by omega)]; exact hN.2.1.2.1
  rw [e3, nI_1]
  rfl
theorem rA.addBookingM (h : rA w np nb S M) (hn : nb < 30) : f_X9_addBooking x1 x2 x3 x4 x5 x6 M = some (sBm nb M x1 x2 x3 x4 x5 x6) := by
  have hN := h.1
  have h8 := hN.2.2.1.2
  have g8 : gw_in (nI nb) 30 := pi_in (by omega) (by omega)
  unfold f_X9_addBooking
  rw [gw_gdT (by rw [h8]; exact g8), gw_letS, gw_gdT (by rw [p0_25, h8]; exact g8), gw_letS, gw_gdT (by rw [p0_26, p0_25, h8]; exact g8), gw_letS, gw_gdT (by rw [p0_27, p0_26, p0_25, h8]; exact g8), gw_letS, gw_gdT (by rw [p0_28, p0_27, p0_26, p0_25, h8]; exact g8), gw_letS, gw_gdT (by rw [p0_29, p0_28, p0_27, p0_26, p0_25, h8]; exact g8), gw_letS, gw_gdT (by rw [p0_30, p0_29, p0_28, p0_27, p0_26, p0_25, h8]; exact g8), gw_letS, gw_gdT (by rw [p0_31, p0_30, p0_29, p0_28, p0_27, p0_26, p0_25, h8]; exact g8), gw_letS, gw_letS]
  simp only [p0_25, p0_26, p0_27, p0_28, p0_29, p0_30, p0_31, p0_32, h8, nI_clamp (show nb < 2 ^ 31 by omega), nI_1]
  rfl
theorem sB_o {r : Nat} (h1 : ¬ r = 2 * gw_nb S + 31) (h2 : ¬ r = 29) (h3 : ¬ r = 13) (h4 : ¬ r = 3) : sB nb S x1 x2 x3 x4 x5 x6 r = S r := by unfold sB; rw [gw_upN h4, gw_upN h3, gw_addBo h1 h2]
theorem sBm_o {r : Nat} (h1 : ¬ (25 ≤ r ∧ r ≤ 32)) (h2 : ¬ r = 0) : sBm nb M x1 x2 x3 x4 x5 x6 r = M r := by unfold sBm; rw [gw_upN (by omega), gw_upN (by omega), gw_upN (by omega), gw_upN (by omega), gw_upN (by omega), gw_upN (by omega), gw_upN (by omega), gw_upN (by omega), gw_upN (by omega)]
theorem rA.addB' (h : rA w np nb S M) (hn : nb < 30) (hr : bOK x1 x2 x3 x4 x5 x6) : rA w np (nb + 1) (sB nb S x1 x2 x3 x4 x5 x6) (sBm nb M x1 x2 x3 x4 x5 x6) := by
  have hN := h.1
  have e2 := hN.gnb
  refine h.addB hn hr ?_ rfl ?_ ?_ ?_ ?_ (fun i => ?_) (fun i hi => ?_) ?_ rfl rfl ⟨rfl, rfl, rfl, rfl, rfl, rfl, rfl, rfl⟩ (fun k hk => ?_)
  · unfold sB; rw [gw_upE, gw_ru (by omega), gw_upN (by omega), gw_addBo (by omega) (by omega)]
  · unfold sB; rw [gw_upN (by omega), gw_upN (by omega), gw_addB9, gw_ru (by omega)]
  · unfold sB; rw [gw_upN (by omega), gw_upN (by omega), gw_addB9, gw_rs, hN.2.1.2.2.2, nI_1]
  · exact sB_o (by omega) (by omega) (by omega) (by omega)
  · unfold sB; rw [gw_upN (by omega), gw_upE, gw_addBo (by omega) (by omega)]
  · exact sB_o (by omega) (by omega) (by omega) (by omega)
  · exact sB_o (by omega) (by omega) (by omega) (by omega)
  · unfold sB; rw [gw_upN (by omega), gw_upN (by omega), ← e2, gw_addBn]
  · exact sBm_o (by omega) (by omega)
theorem rR.addB (hA : rA w np nb S M) (hT : rT S M) (hY : rY t S M) (hO : rO S M) (hS : rS S M) (hI : rI S) (hL : rL S M) (hn : nb < 30) (hr : bOK x1 x2 x3 x4 x5 x6) : rT (sB nb S x1 x2 x3 x4 x5 x6) (sBm nb M x1 x2 x3 x4 x5 x6) ∧ rY t (sB nb S x1 x2 x3 x4 x5 x6) (sBm nb M x1 x2 x3 x4 x5 x6) ∧ rO (sB nb S x1 x2 x3 x4 x5 x6) (sBm nb M x1 x2 x3 x4 x5 x6) ∧ rS (sB nb S x1 x2 x3 x4 x5 x6) (sBm nb M x1 x2 x3 x4 x5 x6) ∧ rI (sB nb S x1 x2 x3 x4 x5 x6) ∧ rL (sB nb S x1 x2 x3 x4 x5 x6) (sBm nb M x1 x2 x3 x4 x5 x6) := by
  have q : ∀ r, ¬ r = 29 → ¬ r = 13 → ¬ r = 3 → r < 31 → sB nb S x1 x2 x3 x4 x5 x6 r = S r := fun r h1 h2 h3 h4 => sB_o (by omega) h1 h2 h3
  have p : ∀ r, ¬ r = 0 → ¬ (25 ≤ r ∧ r ≤ 32) → sBm nb M x1 x2 x3 x4 x5 x6 r = M r := fun r h1 h2 => sBm_o h2 h1
  exact ⟨hT.fr (q 5 (by omega) (by omega) (by omega) (by omega)) (p 1 (by omega) (by omega)) (p 2 (by omega) (by omega)) (p 3 (by omega) (by omega)),
    hY.fr (by rw [q 1 (by omega) (by omega) (by omega) (by omega)]) (q 2 (by omega) (by omega) (by omega) (by omega)) rfl (p 5 (by omega) (by omega)),
    hO.fr (q 11 (by omega) (by omega) (by omega) (by omega)) (p 6 (by omega) (by omega)),
    hS.fr (fun k h1 h2 => q k (by omega) (by omega) (by omega) (by omega)) (p 43 (by omega) (by omega)) (p 44 (by omega) (by omega)) (p 45 (by omega) (by omega)),
    hI.fr (q 14 (by omega) (by omega) (by omega) (by omega)),
    hL.fr (q 7 (by omega) (by omega) (by omega) (by omega)) (q 8 (by omega) (by omega) (by omega) (by omega)) (q 9 (by omega) (by omega) (by omega) (by omega)) (q 10 (by omega) (by omega) (by omega) (by omega)) rfl (p 19 (by omega) (by omega)) (p 20 (by omega) (by omega)) (p 21 (by omega) (by omega)) (p 22 (by omega) (by omega))⟩
theorem so_book (h : rR w S M) : gw_ex w (f_X8_book x1 x2 x3 x4 x5 x6 S) (f_X9_book x1 x2 x3 x4 x5 x6 M) := by
  have h0 := h
  obtain ⟨np, nb, t, hA, hT, hY, hO, hS, hI, hL⟩ := h
  have hN := hA.1
  have hnb := hN.1.2
  unfold f_X8_book f_X9_book
  rw [ps_isB, ps_br, pm_isB, ps_br]
  by_cases hr : (1 ≤ x1.toInt ∧ x1.toInt ≤ 40) ∧ (0 ≤ x2.toInt ∧ x2.toInt ≤ 2) ∧ (20 ≤ x3.toInt ∧ x3.toInt ≤ 380) ∧ (0 ≤ x4.toInt ∧ x4.toInt ≤ 8) ∧ (0 ≤ x5.toInt ∧ x5.toInt ≤ 399) ∧ (-1 ≤ x6.toInt ∧ x6.toInt ≤ 4)
  · rw [if_pos hr, if_pos hr, hN.room1, ps_br, hN.2.2.1.2]
    by_cases c : nb < 30
    · rw [if_pos c, if_neg (show ¬ nI nb = (30 : Int32) from fun e => by have := (nI_eq (by omega) (by omega)).mp (show nI nb = nI 30 from e); omega), hA.addBooking c, gw_bdS, hA.addBookingM c, gw_bdS]
      obtain ⟨k1, k2, k3, k4, k5, k6⟩ := rR.addB hA hT hY hO hS hI hL c hr
      refine gx ?_ ⟨np, nb + 1, t, hA.addB' c hr, k1, k2, k3, k4, k5, k6⟩
      rfl
    · have e : nb = 30 := by omega
      subst e
      rw [if_neg c, if_pos (show nI 30 = (30 : Int32) from rfl)]; exact gx rfl h0
  · rw [if_neg hr, if_neg hr]; exact gx rfl h0
end RR6
section RR7
variable {w np nb t i j a : Nat} {S M S' M' : gw_S} {x k x1 x2 x3 x4 x5 x6 u z : Int32}
theorem sh_begin {a : Nat} (ha : a < 4) (u z : Int32) : ∀ (k n : Nat) (S : gw_S), k ≤ 36 → k < n → ∃ S1, f_X5_begin_b2 n (nI a) u z (nI (36 - k)) S = some S1 ∧ S1 (21 + a) = upd (upd (upd (S (21 + a)) 1 1) 2 u) 3 z ∧ (∀ i, i < 36 → S1 (25 + a) i = if 36 - k ≤ i then 0 else S (25 + a) i) ∧ ∀ r, r ≠ 21 + a → r ≠ 25 + a → S1 r = S r
  | 0, n + 1, S, _, _ => by
    rw [f_X5_begin_b2, if_pos (by decide), gw_gdT (by rw [nI_clamp (by omega)]; omega), gw_letS, gw_letS, gw_letS, nI_clamp (by omega)]
    refine ⟨_, rfl, ?_, fun i hi => ?_, fun r h1 h2 => ?_⟩
    · rw [gw_upE, gw_upE, gw_upE]
    · rw [gw_upN (by omega), gw_upN (by omega), gw_upN (by omega), if_neg (by omega)]
    · rw [gw_upN h1, gw_upN h1, gw_upN h1]
  | k + 1, n + 1, S, hk, hn => by
    rw [f_X5_begin_b2, if_neg (show ¬ (36 : Int32) ≤ nI (36 - (k + 1)) from pn_le (n := 36) (by omega) (by omega)), gw_gdT (by rw [nI_clamp (by omega)]; omega), gw_gdT (pi_in (by omega) (by omega)), gw_letS, gw_letS, pn_s hk, nI_clamp (by omega), nI_clamp (by omega)]
    obtain ⟨S1, e, h1, h2, h3⟩ := sh_begin ha u z k n (gw_up S (25 + a) (36 - (k + 1)) 0) (by omega) (by omega)
    refine ⟨S1, e, by rw [h1, gw_upN (by omega)], fun i hi => ?_, fun r q1 q2 => by rw [h3 r q1 q2, gw_upN q2]⟩
    rw [h2 i hi, gw_upE]
    by_cases c : 36 - k ≤ i
    · rw [if_pos c, if_pos (by omega)]
    · rw [if_neg c]
      by_cases e : i = 36 - (k + 1)
      · rw [e, gw_rs, if_pos (by omega)]
      · rw [gw_ru e, if_neg (by omega)]
theorem p_36e : ∀ a, a ≤ 3 → ∀ j, j < 36 → 36 * nI a + nI j = nI (36 * a + j) := by decide +kernel
theorem sh_zero {a : Nat} (ha : a < 4) (z : Int32) : ∀ (k n : Nat) (M : gw_S), k ≤ 36 → k < n → ∃ M1, f_X9_sheet_b40 n (nI a) z (nI (36 - k)) M = some (z, M1) ∧ (∀ i, M1 45 i = if 36 * a + (36 - k) ≤ i ∧ i < 36 * a + 36 then 0 else M 45 i) ∧ ∀ r, r ≠ 45 → M1 r = M r
  | 0, n + 1, M, _, _ => by
    rw [f_X9_sheet_b40, if_pos (by decide)]
    exact ⟨M, rfl, fun i => by rw [if_neg (by omega)], fun _ _ => rfl⟩
  | k + 1, n + 1, M, hk, hn => by
    rw [f_X9_sheet_b40, if_neg (show ¬ (36 : Int32) ≤ nI (36 - (k + 1)) from pn_le (n := 36) (by omega) (by omega)), p_36e a (by omega) _ (by omega), gw_gdT (pi_in (by omega) (by omega)), gw_letS, gw_letS, pn_s hk, nI_clamp (by omega)]
    obtain ⟨M1, e, h2, h3⟩ := sh_zero ha z k n (gw_up M 45 (36 * a + (36 - (k + 1))) 0) (by omega) (by omega)
    refine ⟨M1, e, fun i => ?_, fun r q => by rw [h3 r q, gw_upN q]⟩
    rw [h2 i, gw_upE]
    by_cases c : 36 * a + (36 - k) ≤ i ∧ i < 36 * a + 36
    · rw [if_pos c, if_pos (by omega)]
    · rw [if_neg c]
      by_cases e : i = 36 * a + (36 - (k + 1))
      · rw [e, gw_rs, if_pos (by omega)]
      · rw [gw_ru e, if_neg (by omega)]
/-- a state that differs in the sheets alone -/
theorem rR.sheet (h : rR w S M) (hS : rS S' M') (q : ∀ r, ¬ (21 ≤ r ∧ r ≤ 28) → S' r = S r) (p : ∀ r, ¬ (43 ≤ r ∧ r ≤ 45) → M' r = M r) : rR w S' M' := by
  obtain ⟨np, nb, t, hA, hT, hY, hO, -, hI, hL⟩ := h
  exact ⟨np, nb, t, hA.fr (by rw [q 3 (by omega)]) (by rw [q 3 (by omega)]) (by rw [q 29 (by omega)]) (by rw [q 29 (by omega)]) (q 12 (by omega)) (q 13 (by omega)) (fun i => q _ (by omega)) (fun i => q _ (by omega)) (by rw [p 0 (by omega)]) (by rw [p 0 (by omega)]) (fun k hk => p k (by omega)),
    hT.fr (q 5 (by omega)) (p 1 (by omega)) (p 2 (by omega)) (p 3 (by omega)), hY.fr (by rw [q 1 (by omega)]) (q 2 (by omega)) (by rw [p 0 (by omega)]) (p 5 (by omega)), hO.fr (q 11 (by omega)) (p 6 (by omega)), hS, hI.fr (q 14 (by omega)),
    hL.fr (q 7 (by omega)) (q 8 (by omega)) (q 9 (by omega)) (q 10 (by omega)) (by rw [p 0 (by omega)]) (p 19 (by omega)) (p 20 (by omega)) (p 21 (by omega)) (p 22 (by omega))⟩
theorem rR.s (h : rR w S M) : rS S M := by obtain ⟨np, nb, t, hA, hT, hY, hO, hS, hI, hL⟩ := h; exact hS
theorem so_sheet (h : rR w S M) : gw_ex w (f_X8_sheet x1 x2 x3 S) (f_X9_sheet x1 x2 x3 M) := by
  have hS := h.s
  unfold f_X8_sheet f_X9_sheet
  rw [ps_isSheet, ps_br, ps_isLane, ps_br, pm_isSheet, ps_br]
  by_cases h1 : 0 ≤ x1.toInt ∧ x1.toInt ≤ 3
  · by_cases h2 : 0 ≤ x2.toInt ∧ x2.toInt ≤ 2
    · rw [if_pos h1, if_pos h2, if_pos (show (0 ≤ x1.toInt ∧ x1.toInt ≤ 3) ∧ (0 ≤ x2.toInt ∧ x2.toInt ≤ 2) from ⟨h1, h2⟩)]
      obtain ⟨a, ha, rfl⟩ := ps_nI (n := 3) h1 (by omega)
      obtain ⟨S1, e1, c1, c2, c3⟩ := sh_begin (a := a) (by omega) x2 x3 36 gw_F S (Nat.le_refl 36) (by decide)
      obtain ⟨M1, e2, d2, d3⟩ := sh_zero (a := a) (by omega) x3 36 gw_F (gw_up (gw_up M 43 a x2) 44 a x3) (Nat.le_refl 36) (by decide)
      rw [show nI (36 - 36) = (0 : Int32) from rfl] at e1 e2
      unfold f_X5_begin
      rw [gw_gdT (pi_in (by omega) (by omega)), gw_gdT (show (nI a).toNatClampNeg < 4 by rw [nI_clamp (by omega)]; omega), e1, gw_bdS, gw_gdT (pi_in (by omega) (by omega)), gw_letS, gw_letS, nI_clamp (by omega), e2]
      by_cases h3 : x3 ≤ 36
      · rw [if_pos h3, if_pos h3]
        by_cases h4 : 0 ≤ x3
        · rw [if_pos h4, if_pos h4]
          refine gx rfl (h.sheet (fun q hq => ?_) (fun r hr => c3 r (by omega) (by omega)) (fun r hr => by rw [d3 r (by omega), gw_upN (by omega), gw_upN (by omega)]))
          rw [ps_leI] at h3 h4
          unfold rS1
          rw [d3 43 (by omega), d3 44 (by omega)]
          show _ ∧ (_ = upd (M 44) a x3 q ∧ rg 0 36 (upd (M 44) a x3 q)) ∧ _
          show ((_ ∧ upd (M 43) a x2 q = -1) ∨ (_ ∧ _ = upd (M 43) a x2 q ∧ rg 0 2 (upd (M 43) a x2 q))) ∧ _
          by_cases e : q = a
          · subst e
            rw [c1, gw_rs, gw_rs, gw_rs]
            refine ⟨Or.inr ⟨rfl, rfl, h2⟩, ⟨rfl, by rw [Int32.toInt_zero] at h4; exact h4, by rw [pz_36] at h3; exact h3⟩, fun i hi => ?_⟩
            rw [c2 i hi, d2, if_pos (by omega), if_pos (by omega)]
          · rw [c3 _ (by omega) (by omega), c3 _ (by omega) (by omega), gw_ru e, gw_ru e]
            obtain ⟨g1, g2, g3⟩ := hS q hq
            refine ⟨g1, g2, fun i hi => ?_⟩
            rw [g3 i hi, d2, if_neg (by omega)]
            rfl
        · rw [if_neg h4, if_neg h4]; exact gx rfl h
      · rw [if_neg h3, if_neg h3]; exact gx rfl h
    · rw [if_pos h1, if_neg h2, if_neg (show ¬ ((0 ≤ x1.toInt ∧ x1.toInt ≤ 3) ∧ (0 ≤ x2.toInt ∧ x2.toInt ≤ 2)) from fun h => h2 h.2)]; exact gx rfl h
  · rw [if_neg h1, if_neg (show ¬ ((0 ≤ x1.toInt ∧ x1.toInt ≤ 3) ∧ (0 ≤ x2.toInt ∧ x2.toInt ≤ 2)) from fun h => h1 h.1)]; exact gx rfl h
theorem so_drop (h : rR w S M) : gw_ex w (f_X8_drop x1 S) (f_X9_drop x1 M) := by
  have hS := h.s
  unfold f_X8_drop f_X9_drop
  rw [ps_isSheet, ps_br, ps_in, ps_br, pq_0, pq_3]
  by_cases h1 : 0 ≤ x1.toInt ∧ x1.toInt ≤ 3
  · rw [if_pos h1, if_pos h1]
    obtain ⟨a, ha, rfl⟩ := ps_nI (n := 3) h1 (by omega)
    have g := hS a (by omega)
    have hg : gw_in (nI a) 4 := pi_in (by omega) (by omega)
    rw [gw_gdT hg, gw_gdT hg, gw_gdT (show (nI a).toNatClampNeg < 4 by rw [nI_clamp (by omega)]; omega), nI_clamp (by omega), gw_letS, gw_letS]
    rcases g.1 with ⟨g1, g2⟩ | ⟨g1, g2, g3⟩
    · rw [if_pos g1, g2, if_neg (by decide)]; exact gx rfl h
    · rw [if_neg (by rw [g1]; decide), if_pos (by rw [ps_leI, Int32.toInt_zero]; exact g3.1)]
      refine gx ?_ (h.sheet (fun q hq => ?_) (fun r hr => gw_upN (by omega)) (fun r hr => gw_upN (by omega)))
      · rw [gw_upE, gw_ru (by omega), gw_upN (by omega), g.2.1.1]
      · unfold rS1
        show ((_ ∧ upd (M 43) a (-1) q = -1) ∨ (_ ∧ _ = upd (M 43) a (-1) q ∧ rg 0 2 (upd (M 43) a (-1) q))) ∧ _
        rw [gw_upN (show 25 + q ≠ 21 + a by omega), gw_upN (show 44 ≠ 43 by omega), gw_upN (show 45 ≠ 43 by omega)]
        by_cases e : q = a
        · subst e
          rw [gw_upE, gw_rs, gw_rs, gw_ru (by omega)]
          exact ⟨Or.inl ⟨rfl, rfl⟩, g.2⟩
        · rw [gw_upN (show 21 + q ≠ 21 + a by omega), gw_ru e]
          exact hS q hq
  · rw [if_neg h1, if_neg h1]; exact gx rfl h
end RR7
section RR8
variable {w np nb t i j a : Nat} {S M S' M' : gw_S} {x k x1 x2 x3 x4 x5 x6 u z : Int32}
theorem it_8 : x.toInt8.toInt32 = (x <<< ((24 : Int32) &&& 31)) >>> ((24 : Int32) &&& 31) := by
  apply Int32.toBitVec_inj.mp
  apply BitVec.eq_of_getLsbD_eq
  intro i hi
  show (BitVec.signExtend 32 (BitVec.signExtend 8 x.toBitVec)).getLsbD i = ((x.toBitVec <<< (((24 : Int32) &&& 31).toBitVec.smod 32)).sshiftRight (((24 : Int32) &&& 31).toBitVec.smod 32).toNat).getLsbD i
  have e : (((24 : Int32) &&& 31).toBitVec.smod 32) = 24#32 := by decide
  have e2 : (24#32).toNat = 24 := by decide
  rw [e, BitVec.shiftLeft_eq', e2]
  simp only [BitVec.getLsbD_signExtend, BitVec.getLsbD_sshiftRight, BitVec.getLsbD_shiftLeft, BitVec.msb_eq_getLsbD_last, hi]
  by_cases h : i < 8
  · simp [h, show 24 + i < 32 by omega, show i < 32 by omega, show ¬ 32 ≤ i by omega, show ¬ 24 + i < 24 by omega]
  · simp [h, show ¬ 24 + i < 32 by omega, show i < 32 by omega]
theorem it_16 : x.toInt16.toInt32 = (x <<< ((16 : Int32) &&& 31)) >>> ((16 : Int32) &&& 31) := by
  apply Int32.toBitVec_inj.mp
  apply BitVec.eq_of_getLsbD_eq
  intro i hi
  show (BitVec.signExtend 32 (BitVec.signExtend 16 x.toBitVec)).getLsbD i = ((x.toBitVec <<< (((16 : Int32) &&& 31).toBitVec.smod 32)).sshiftRight (((16 : Int32) &&& 31).toBitVec.smod 32).toNat).getLsbD i
  have e : (((16 : Int32) &&& 31).toBitVec.smod 32) = 16#32 := by decide
  have e2 : (16#32).toNat = 16 := by decide
  rw [e, BitVec.shiftLeft_eq', e2]
  simp only [BitVec.getLsbD_signExtend, BitVec.getLsbD_sshiftRight, BitVec.getLsbD_shiftLeft, BitVec.msb_eq_getLsbD_last, hi]
  by_cases h : i < 16
  · simp [h, show 16 + i < 32 by omega, show i < 32 by omega, show ¬ 32 ≤ i by omega, show ¬ 16 + i < 16 by omega]
  · simp [h, show ¬ 16 + i < 32 by omega, show i < 32 by omega]
/-- what stands against a row -/
theorem rS.ref (hS : rS S M) (ha : a < 4) (h2 : 0 ≤ x2.toInt ∧ x2.toInt ≤ 2) : (f_X5_refusalAs (nI a) x2 S = some (-11) ∧ f_X9_against (nI a) x2 x3 x4 M = some (-11)) ∨ (f_X5_refusalAs (nI a) x2 S = some (-12) ∧ f_X9_against (nI a) x2 x3 x4 M = some (-12)) ∨ (f_X5_refusalAs (nI a) x2 S = some 0 ∧ S (21 + a) 2 = x2 ∧ f_X9_against (nI a) x2 x3 x4 M = some (if 0 ≤ x3.toInt ∧ x3.toInt ≤ (M 44 a - x4).toInt then 0 else -13)) := by
  unfold f_X5_refusalAs f_X9_against
  rw [gw_gdT (show (nI a).toNatClampNeg < 4 by rw [nI_clamp (by omega)]; omega), gw_gdT (pi_in (by omega) (by omega)), nI_clamp (by omega), ps_in, ps_br, pq_0, Int32.toInt_toInt64]
  rcases (hS a ha).1 with ⟨g1, g2⟩ | ⟨g1, g2, g3⟩
  · rw [if_pos g1, g2, if_neg (by rintro rfl; exact absurd h2.1 (by decide)), if_neg (by decide)]
    exact Or.inl ⟨rfl, rfl⟩
  · rw [if_neg (by rw [g1]; decide), g2]
    by_cases e : M 43 a = x2
    · rw [if_pos e, if_pos e]
      refine Or.inr (Or.inr ⟨rfl, e, ?_⟩)
      split <;> rfl
    · rw [if_neg e, if_neg e, if_pos (by rw [ps_leI, Int32.toInt_zero]; exact g3.1)]
      exact Or.inr (Or.inl ⟨rfl, rfl⟩)
theorem pn_len : ∀ n, n ≤ 36 → ∀ m, m ≤ 36 → (nI n - nI m).toInt = (n : Int) - m := fun n hn m hm => by
  rw [Int32.toInt_sub, nI_toInt (by omega), nI_toInt (by omega), Int.bmod_eq_of_le] <;> omega
theorem rS.has (hS : rS S M) (ha : a < 4) {m : Nat} (hm : m ≤ 36) : f_X5_hasItems (nI a) x3 (nI m) S = some (if 0 ≤ x3.toInt ∧ x3.toInt ≤ (M 44 a - nI m).toInt then 1 else 0) := by
  unfold f_X5_hasItems
  rw [gw_gdT (show (nI a).toNatClampNeg < 4 by rw [nI_clamp (by omega)]; omega), nI_clamp (by omega), (hS a ha).2.1.1]
  simp only [ps_ltI, Int32.toInt_zero]
  by_cases c1 : x3.toInt < 0
  · rw [if_pos c1, if_neg (by omega)]
  · rw [if_neg c1]
    by_cases c2 : (M 44 a - nI m).toInt < x3.toInt
    · rw [if_pos c2, if_neg (by omega)]
    · rw [if_neg c2, if_pos (by omega)]
theorem rS.len (hS : rS S M) (ha : a < 4) : ∃ n, n ≤ 36 ∧ M 44 a = nI n := by
  obtain ⟨n, hn, e⟩ := ps_nI (n := 36) (hS a ha).2.1.2 (by omega)
  exact ⟨n, hn, e⟩
theorem rS.put (hS : rS S M) (ha : a < 4) (hi : i < 36) : rS (gw_up S (25 + a) i z) (gw_up M 45 (36 * a + i) z) := by
  intro q hq
  obtain ⟨g1, g2, g3⟩ := hS q hq
  unfold rS1
  rw [gw_upN (show 21 + q ≠ 25 + a by omega), gw_upN (show 43 ≠ 45 by omega), gw_upN (show 44 ≠ 45 by omega), gw_upE]
  refine ⟨g1, g2, fun b hb => ?_⟩
  by_cases e : q = a
  · subst e
    rw [gw_upE]
    by_cases e2 : b = i
    · rw [e2, gw_rs, gw_rs]
    · rw [gw_ru e2, gw_ru (by omega), g3 b hb]
  · rw [gw_upN (show 25 + q ≠ 25 + a by omega), gw_ru (by omega), g3 b hb]
theorem so_item (h : rR w S M) : gw_ex w (f_X8_item x1 x2 x3 x4 S) (f_X9_item x1 x2 x3 x4 M) := by
  have hS := h.s
  unfold f_X8_item f_X9_item
  rw [ps_isSheet, ps_br, ps_isLane, ps_br, pm_isSheet, ps_br]
  by_cases h1 : 0 ≤ x1.toInt ∧ x1.toInt ≤ 3
  · by_cases h2 : 0 ≤ x2.toInt ∧ x2.toInt ≤ 2
    · rw [if_pos h1, if_pos h2, if_pos (show (0 ≤ x1.toInt ∧ x1.toInt ≤ 3) ∧ (0 ≤ x2.toInt ∧ x2.toInt ≤ 2) from ⟨h1, h2⟩)]
      obtain ⟨a, ha, rfl⟩ := ps_nI (n := 3) h1 (by omega)
      rw [gw_gdT (pi_in (by omega) (by omega)), gw_gdT (show (nI a).toNatClampNeg < 4 by rw [nI_clamp (by omega)]; omega)]
      rcases hS.ref (a := a) (x3 := x3) (x4 := 1) (by omega) h2 with ⟨r1, r2⟩ | ⟨r1, r2⟩ | ⟨r1, rl, r2⟩
      · rw [r1, r2, gw_bdS, gw_bdS, if_neg (by decide), if_neg (by decide)]; exact gx rfl h
      · rw [r1, r2, gw_bdS, gw_bdS, if_neg (by decide), if_neg (by decide)]; exact gx rfl h
      · obtain ⟨n, hn, en⟩ := hS.len (a := a) (by omega)
        have hh := hS.has (a := a) (x3 := x3) (m := 1) (by omega) (by omega)
        rw [show nI 1 = (1 : Int32) from rfl] at hh
        rw [r1, r2, gw_bdS, gw_bdS, if_pos rfl, hh, ps_br]
        by_cases c : 0 ≤ x3.toInt ∧ x3.toInt ≤ (M 44 a - 1).toInt
        · rw [if_pos c, if_pos c, if_pos (by decide)]
          rw [en, show (1 : Int32) = nI 1 from rfl, pn_len n hn 1 (by omega)] at c
          obtain ⟨i, hi, rfl⟩ := ps_nI (x := x3) (n := 35) (by omega) (by omega)
          have hw : ∀ z : Int32, gw_ex w (gw_bd (f_X5_put_b41 z (nI i) (nI a) S) (fun S15 => some (1, S15))) (f_X9_item_b71 z (36 * nI a + nI i) M) := fun z => by
            unfold f_X5_put_b41 f_X9_item_b71
            rw [gw_gdT (show (nI a).toNatClampNeg < 4 by rw [nI_clamp (by omega)]; omega), gw_gdT (pi_in (by omega) (by omega)), gw_letS, gw_bdS, nI_clamp (by omega), nI_clamp (by omega), p_36e a (by omega) i (by omega), gw_gdT (pi_in (by omega) (by omega)), gw_letS, nI_clamp (by omega)]
            exact gx rfl (h.sheet (hS.put (by omega) (by omega)) (fun r hr => gw_upN (by omega)) (fun r hr => gw_upN (by omega)))
          unfold f_X5_put
          rw [if_neg (pn_n0 (by omega)), if_neg (show ¬ (36 : Int32) ≤ nI i from pn_le (n := 36) (by omega) (by omega)), gw_gdT (show (nI a).toNatClampNeg < 4 by rw [nI_clamp (by omega)]; omega), nI_clamp (show a < 2 ^ 31 by omega), rl]
          by_cases l0 : x2 = 0
          · rw [if_pos l0, if_pos l0, ← it_8]; exact hw _
          · rw [if_neg l0, if_neg l0]
            by_cases l1 : x2 = 1
            · rw [if_pos l1, if_pos l1, ← it_16]; exact hw _
            · rw [if_neg l1, if_neg l1]; exact hw _
        · rw [if_neg c, if_neg c, if_neg (by decide)]; exact gx rfl h
    · rw [if_pos h1, if_neg h2, if_neg (show ¬ ((0 ≤ x1.toInt ∧ x1.toInt ≤ 3) ∧ (0 ≤ x2.toInt ∧ x2.toInt ≤ 2)) from fun h => h2 h.2)]; exact gx rfl h
  · rw [if_neg h1, if_neg (show ¬ ((0 ≤ x1.toInt ∧ x1.toInt ≤ 3) ∧ (0 ≤ x2.toInt ∧ x2.toInt ≤ 2)) from fun h => h1 h.1)]; exact gx rfl h
end RR8
section RR9
variable {w np nb t i j a f : Nat} {S M S' M' : gw_S} {x k x1 x2 x3 x4 x5 x6 u z : Int32}
abbrev bAt (M : gw_S) (i : Nat) : Prop := bOK (M 45 i) (M 45 (i + 1)) (M 45 (i + 2)) (M 45 (i + 3)) (M 45 (i + 4)) (M 45 (i + 5))
theorem rS.get (hS : rS S M) (ha : a < 4) (hi : i < 36) : f_X5_get (nI a) (nI i) S = some (M 45 (36 * a + i)) := by
  unfold f_X5_get
  rw [if_neg (pn_n0 (by omega)), if_neg (show ¬ (36 : Int32) ≤ nI i from pn_le (n := 36) (by omega) (by omega)), gw_gdT (show (nI a).toNatClampNeg < 4 by rw [nI_clamp (by omega)]; omega), gw_gdT (pi_in (by omega) (by omega)), nI_clamp (by omega), nI_clamp (by omega), (hS a ha).2.2 i hi]
theorem pn_a1 {i : Nat} : nI i + (1 : Int32) = nI (i + 1) := nI_add i 1
theorem pn_a2 {i : Nat} : nI i + (2 : Int32) = nI (i + 2) := nI_add i 2
theorem pn_a3 {i : Nat} : nI i + (3 : Int32) = nI (i + 3) := nI_add i 3
theorem pn_a4 {i : Nat} : nI i + (4 : Int32) = nI (i + 4) := nI_add i 4
theorem pn_a5 {i : Nat} : nI i + (5 : Int32) = nI (i + 5) := nI_add i 5
theorem pn_a6 {i : Nat} : nI i + (6 : Int32) = nI (i + 6) := nI_add i 6
theorem p_f6 : ∀ f, f ≤ 36 → ∀ k, k ≤ 6 → nI f + nI k * 6 = nI (f + 6 * k) := by decide +kernel
theorem p_6n : ∀ k, k ≤ 6 → (6 : Int32) * nI k = nI (6 * k) ∧ nI k * 6 = nI (6 * k) := by decide +kernel
theorem p_36f : ∀ a, a ≤ 3 → ∀ j, j ≤ 36 → 36 * nI a + nI j = nI (36 * a + j) := by decide +kernel
theorem bk_isS (hS : rS S M) (ha : a < 4) (hi : i + 6 ≤ 36) : f_X8_isBookingOnSheet (nI a) (nI i) S = f_X8_isBookingAsTold (M 45 (36 * a + i)) (M 45 (36 * a + i + 1)) (M 45 (36 * a + i + 2)) (M 45 (36 * a + i + 3)) (M 45 (36 * a + i + 4)) (M 45 (36 * a + i + 5)) S := by
  unfold f_X8_isBookingOnSheet
  rw [gw_gdT (show (nI a).toNatClampNeg < 4 by rw [nI_clamp (by omega)]; omega), pn_a1, pn_a2, pn_a3, pn_a4, pn_a5, hS.get ha (by omega), gw_bdS, hS.get ha (by omega), gw_bdS, hS.get ha (by omega), gw_bdS, hS.get ha (by omega), gw_bdS, hS.get ha (by omega), gw_bdS, hS.get ha (by omega), gw_bdS, ps_isB, gw_bdS, ps_z, ps_isB]
  rfl
theorem bk_chk (hS : rS S M) (ha : a < 4) {n : Nat} (hn : n ≤ 6) (hf : f + 6 * n ≤ 36) : ∀ (m k fu fu' : Nat), k + m = n → m < fu → m < fu' → (f_X8_books_b71 fu (nI f) (nI n) (nI a) (nI k) S = some (-2, S) ∧ f_X9_books_b57 fu' (nI n) (nI (36 * a + f)) (nI (36 * a + f + 6 * k)) M = some (-2, M)) ∨ ((∀ q, k ≤ q → q < n → bAt M (36 * a + f + 6 * q)) ∧ f_X8_books_b71 fu (nI f) (nI n) (nI a) (nI k) S = gw_bd (f_X2_hasRoomForBookings (nI n) S) (fun r9 => (if r9 = 0 then some ((-3 : Int32), S) else f_X8_books_b120 7 (nI f) (nI n) (nI a) (0 : Int32) S)) ∧ f_X9_books_b57 fu' (nI n) (nI (36 * a + f)) (nI (36 * a + f + 6 * k)) M = (if ((M 0 29) + nI n) ≤ (30 : Int32) then f_X9_books_b156 gw_F (nI n) (nI (36 * a + f)) (nI (36 * a + f)) M else some ((-3 : Int32), M)))
  | 0, k, fu + 1, fu' + 1, hk, _, _ => by
    refine Or.inr ⟨fun q h1 h2 => absurd h2 (by omega), ?_, ?_⟩
    · rw [f_X8_books_b71, if_pos (by rw [nI_leI (by omega) (by omega)]; omega)]
    · rw [f_X9_books_b57, (p_6n n hn).1, nI_add, if_pos (by rw [nI_leI (by omega) (by omega)]; omega)]
  | m + 1, k, fu + 1, fu' + 1, hk, hm, hm' => by
    have e1 : f_X8_books_b71 (fu + 1) (nI f) (nI n) (nI a) (nI k) S = if bAt M (36 * a + f + 6 * k) then f_X8_books_b71 fu (nI f) (nI n) (nI a) (nI (k + 1)) S else some (-2, S) := by
      rw [f_X8_books_b71, if_neg (by rw [nI_leI (by omega) (by omega)]; omega), p_f6 f (by omega) k (by omega), bk_isS hS ha (by omega), ps_isB, ps_br, gw_letS, pn_a1, ← Nat.add_assoc]
    have g : ∀ d, d ≤ 5 → gw_in (nI (36 * a + f + 6 * k + d)) 144 := fun d hd => pi_in (by omega) (by omega)
    have e2 : f_X9_books_b57 (fu' + 1) (nI n) (nI (36 * a + f)) (nI (36 * a + f + 6 * k)) M = if bAt M (36 * a + f + 6 * k) then f_X9_books_b57 fu' (nI n) (nI (36 * a + f)) (nI (36 * a + f + 6 * (k + 1))) M else some (-2, M) := by
      rw [f_X9_books_b57, (p_6n n hn).1, nI_add, if_neg (by rw [nI_leI (by omega) (by omega)]; omega), pn_a1, pn_a2, pn_a3, pn_a4, pn_a5, gw_gdT (show gw_in (nI (36 * a + f + 6 * k)) 144 from g 0 (by omega)), gw_gdT (g 1 (by omega)), gw_gdT (g 2 (by omega)), gw_gdT (g 3 (by omega)), gw_gdT (g 4 (by omega)), gw_gdT (g 5 (by omega)), nI_clamp (by omega), nI_clamp (by omega), nI_clamp (by omega), nI_clamp (by omega), nI_clamp (by omega), nI_clamp (by omega), pm_isB, ps_br, gw_letS, pn_a6]
      rfl
    rw [e1, e2]
    by_cases c : bAt M (36 * a + f + 6 * k)
    · rw [if_pos c, if_pos c]
      rcases bk_chk hS ha hn hf m (k + 1) fu fu' (by omega) (by omega) (by omega) with h | ⟨h1, h2, h3⟩
      · exact Or.inl h
      · refine Or.inr ⟨fun q q1 q2 => ?_, h2, h3⟩
        by_cases e : q = k
        · subst e; exact c
        · exact h1 q (by omega) q2
    · rw [if_neg c, if_neg c]; exact Or.inl ⟨rfl, rfl⟩
theorem bk_add (ha : a < 4) {n : Nat} (hn : n ≤ 6) (hf : f + 6 * n ≤ 36) : ∀ (m k fu fu' nb : Nat) (S M : gw_S), k + m = n → m < fu → m < fu' → nb + m ≤ 30 → (∀ q, k ≤ q → q < n → bAt M (36 * a + f + 6 * q)) → rA w np nb S M → rT S M → rY t S M → rO S M → rS S M → rI S → rL S M → gw_ex w (f_X8_books_b120 fu (nI f) (nI n) (nI a) (nI k) S) (f_X9_books_b156 fu' (nI n) (nI (36 * a + f)) (nI (36 * a + f + 6 * k)) M)
  | 0, k, fu + 1, fu' + 1, nb, S, M, hk, _, _, hb, hq, hA, hT, hY, hO, hS, hI, hL => by
    rw [f_X8_books_b120, if_pos (by rw [nI_leI (by omega) (by omega)]; omega), f_X9_books_b156, (p_6n n hn).1, nI_add, if_pos (by rw [nI_leI (by omega) (by omega)]; omega), hA.1.2.1.2.1, hA.1.2.2.1.2]
    exact gx rfl ⟨np, nb, t, hA, hT, hY, hO, hS, hI, hL⟩
  | m + 1, k, fu + 1, fu' + 1, nb, S, M, hk, hm, hm', hb, hq, hA, hT, hY, hO, hS, hI, hL => by
    have g : ∀ d, d ≤ 5 → gw_in (nI (36 * a + f + 6 * k + d)) 144 := fun d hd => pi_in (by omega) (by omega)
    have c := hq k (Nat.le_refl k) (by omega)
    have e1 : f_X8_addBookingOnSheet (nI a) (nI (f + 6 * k)) S = some (sB nb S (M 45 (36 * a + f + 6 * k)) (M 45 (36 * a + f + 6 * k + 1)) (M 45 (36 * a + f + 6 * k + 2)) (M 45 (36 * a + f + 6 * k + 3)) (M 45 (36 * a + f + 6 * k + 4)) (M 45 (36 * a + f + 6 * k + 5))) := by
      unfold f_X8_addBookingOnSheet
      rw [gw_gdT (show (nI a).toNatClampNeg < 4 by rw [nI_clamp (by omega)]; omega), pn_a1, pn_a2, pn_a3, pn_a4, pn_a5, hS.get ha (by omega), gw_bdS, hS.get ha (by omega), gw_bdS, hS.get ha (by omega), gw_bdS, hS.get ha (by omega), gw_bdS, hS.get ha (by omega), gw_bdS, hS.get ha (by omega), gw_bdS, hA.addBooking (by omega), gw_bdS]
      simp only [Nat.add_assoc]
    rw [f_X8_books_b120, if_neg (by rw [nI_leI (by omega) (by omega)]; omega), p_f6 f (by omega) k (by omega), e1, gw_bdS, gw_letS, pn_a1]
    rw [f_X9_books_b156, (p_6n n hn).1, nI_add, if_neg (by rw [nI_leI (by omega) (by omega)]; omega), pn_a1, pn_a2, pn_a3, pn_a4, pn_a5, gw_gdT (show gw_in (nI (36 * a + f + 6 * k)) 144 from g 0 (by omega)), gw_gdT (g 1 (by omega)), gw_gdT (g 2 (by omega)), gw_gdT (g 3 (by omega)), gw_gdT (g 4 (by omega)), gw_gdT (g 5 (by omega)), nI_clamp (by omega), nI_clamp (by omega), nI_clamp (by omega), nI_clamp (by omega), nI_clamp (by omega), nI_clamp (by omega), hA.addBookingM (by omega), gw_bdS, gw_letS, pn_a6]
    obtain ⟨k1, k2, k3, k4, k5, k6⟩ := rR.addB hA hT hY hO hS hI hL (by omega) c
    exact bk_add ha hn hf m (k + 1) fu fu' (nb + 1) _ _ (by omega) (by omega) (by omega) (by omega) (fun q q1 q2 => by
      have := hq q (by omega) q2
      unfold bAt at this ⊢
      rw [sBm_o (r := 45) (by omega) (by omega)]; exact this) (hA.addB' (by omega) c) k1 k2 k3 k4 k5 k6
theorem so_books (h : rR w S M) : gw_ex w (f_X8_books x1 x2 x3 x4 S) (f_X9_books x1 x2 x3 x4 M) := by
  have h0 := h
  obtain ⟨np, nb, t, hA, hT, hY, hO, hS, hI, hL⟩ := h
  unfold f_X8_books f_X9_books
  rw [ps_isSheet, ps_br, ps_isLane, ps_br, pm_isSheet, ps_br, ps_isIn, ps_br, ps_in, ps_br, pz_0, pz_6, pq_0, pq_6]
  by_cases h1 : 0 ≤ x1.toInt ∧ x1.toInt ≤ 3
  · by_cases h2 : 0 ≤ x2.toInt ∧ x2.toInt ≤ 2
    · rw [if_pos h1, if_pos h2, if_pos (show (0 ≤ x1.toInt ∧ x1.toInt ≤ 3) ∧ (0 ≤ x2.toInt ∧ x2.toInt ≤ 2) from ⟨h1, h2⟩)]
      by_cases h4 : 0 ≤ x4.toInt ∧ x4.toInt ≤ 6
      · rw [if_pos h4, if_pos h4]
        obtain ⟨a, ha, rfl⟩ := ps_nI (n := 3) h1 (by omega)
        obtain ⟨n, hn, rfl⟩ := ps_nI (n := 6) h4 (by omega)
        rw [gw_gdT (pi_in (by omega) (by omega)), gw_gdT (show (nI a).toNatClampNeg < 4 by rw [nI_clamp (by omega)]; omega), (p_6n n hn).1, (p_6n n hn).2]
        rcases hS.ref (a := a) (x3 := x3) (x4 := nI (6 * n)) (by omega) h2 with ⟨r1, r2⟩ | ⟨r1, r2⟩ | ⟨r1, rl, r2⟩
        · rw [r1, r2, gw_bdS, gw_bdS, if_neg (by decide), if_neg (by decide)]; exact gx rfl h0
        · rw [r1, r2, gw_bdS, gw_bdS, if_neg (by decide), if_neg (by decide)]; exact gx rfl h0
        · obtain ⟨l, hl, el⟩ := hS.len (a := a) (by omega)
          rw [r1, r2, gw_bdS, gw_bdS, if_pos rfl, hS.has (a := a) (x3 := x3) (m := 6 * n) (by omega) (by omega), ps_br]
          by_cases c : 0 ≤ x3.toInt ∧ x3.toInt ≤ (M 44 a - nI (6 * n)).toInt
          · rw [if_pos c, if_pos c, if_pos (by decide)]
            rw [el, pn_len l hl (6 * n) (by omega)] at c
            obtain ⟨f, hf, rfl⟩ := ps_nI (x := x3) (n := 36) (by omega) (by omega)
            rw [nI_toInt (by omega)] at c
            rw [p_36f a (by omega) f hf, gw_letS]
            rcases bk_chk (M := M) hS (a := a) (by omega) hn (f := f) (by omega) n 0 gw_F gw_F (by omega) (Nat.lt_of_le_of_lt hn (by decide)) (Nat.lt_of_le_of_lt hn (by decide)) with ⟨k1, k2⟩ | ⟨hb, k1, k2⟩
            · rw [show nI 0 = (0 : Int32) from rfl] at k1
              rw [Nat.mul_zero, Nat.add_zero] at k2
              rw [k1, k2]; exact gx rfl h0
            · rw [show nI 0 = (0 : Int32) from rfl] at k1
              rw [Nat.mul_zero, Nat.add_zero] at k2
              rw [k1, k2, hA.1.room (by omega), ps_br, hA.1.2.2.1.2, nI_add]
              have hnb := hA.1.1.2
              by_cases e : nb + n ≤ 30
              · rw [if_pos e, if_pos (show nI (nb + n) ≤ (30 : Int32) from nI_le (b := 30) e (by omega))]
                exact bk_add (a := a) (f := f) (n := n) (by omega) hn (by omega) n 0 7 gw_F nb S M (by omega) (by omega) (Nat.lt_of_le_of_lt hn (by decide)) e (fun q _ q2 => hb q (by omega) q2) hA hT hY hO hS hI hL
              · rw [if_neg e, if_neg (show ¬ nI (nb + n) ≤ (30 : Int32) from fun q => e ((nI_leI (b := 30) (by omega) (by omega)).mp q))]; exact gx rfl h0
          · rw [if_neg c, if_neg c, if_neg (by decide)]; exact gx rfl h0
      · rw [if_neg h4, if_neg h4]; exact gx rfl h0
    · rw [if_pos h1, if_neg h2, if_neg (show ¬ ((0 ≤ x1.toInt ∧ x1.toInt ≤ 3) ∧ (0 ≤ x2.toInt ∧ x2.toInt ≤ 2)) from fun h => h2 h.2)]; exact gx rfl h0
  · rw [if_neg h1, if_neg (show ¬ ((0 ≤ x1.toInt ∧ x1.toInt ≤ 3) ∧ (0 ≤ x2.toInt ∧ x2.toInt ≤ 2)) from fun h => h1 h.1)]; exact gx rfl h0
end RR9
end
