/-! pure rows: the small functions, said in whole numbers -/
theorem gw_bdS {α β : Type} {x : α} {k : α → Option β} : gw_bd (some x) k = k x := rfl
theorem gw_b2S {β : Type} {r : Int32} {S : gw_S} {k : Int32 → gw_S → Option β} : gw_b2 (some (r, S)) k = k r S := rfl
theorem gw_gdT {β : Type} {c : Prop} [Decidable c] {k : Option β} (h : c) : gw_gd c k = k := by unfold gw_gd; rw [if_pos h]
theorem gw_letS {α β : Type} {x : α} {k : α → Option β} : gw_let x k = k x := rfl
theorem pz_m1 : (-1 : Int32).toInt = -1 := by decide
theorem pz_0 : (0 : Int32).toInt = 0 := by decide
theorem pz_1 : (1 : Int32).toInt = 1 := by decide
theorem pz_2 : (2 : Int32).toInt = 2 := by decide
theorem pz_3 : (3 : Int32).toInt = 3 := by decide
theorem pz_4 : (4 : Int32).toInt = 4 := by decide
theorem pz_5 : (5 : Int32).toInt = 5 := by decide
theorem pz_6 : (6 : Int32).toInt = 6 := by decide
theorem pz_7 : (7 : Int32).toInt = 7 := by decide
theorem pz_8 : (8 : Int32).toInt = 8 := by decide
theorem pz_9 : (9 : Int32).toInt = 9 := by decide
theorem pz_20 : (20 : Int32).toInt = 20 := by decide
theorem pz_32 : (32 : Int32).toInt = 32 := by decide
theorem pz_36 : (36 : Int32).toInt = 36 := by decide
theorem pz_40 : (40 : Int32).toInt = 40 := by decide
theorem pz_60 : (60 : Int32).toInt = 60 := by decide
theorem pz_99 : (99 : Int32).toInt = 99 := by decide
theorem pz_126 : (126 : Int32).toInt = 126 := by decide
theorem pz_380 : (380 : Int32).toInt = 380 := by decide
theorem pz_399 : (399 : Int32).toInt = 399 := by decide
theorem pz_4095 : (4095 : Int32).toInt = 4095 := by decide
theorem pz_9999 : (9999 : Int32).toInt = 9999 := by decide
theorem ps_isIn {x lo hi : Int32} {S : gw_S} : f_X8_isIn x lo hi S = some (if lo.toInt ≤ x.toInt ∧ x.toInt ≤ hi.toInt then 1 else 0) := by
  unfold f_X8_isIn
  simp only [Int32.lt_iff_toInt_lt]
  by_cases h1 : x.toInt < lo.toInt
  · rw [if_pos h1, if_neg (by omega)]
  · rw [if_neg h1]
    by_cases h2 : hi.toInt < x.toInt
    · rw [if_pos h2, if_neg (by omega)]
    · rw [if_neg h2, if_pos (by omega)]
theorem ps_c1 {x y : Int64} : lg_cmp x y < 0 ↔ x.toInt < y.toInt := by
  unfold lg_cmp
  simp only [gt_iff_lt, Int64.lt_iff_toInt_lt, ← Int64.toInt_inj]
  by_cases h1 : y.toInt < x.toInt
  · rw [if_pos h1]; constructor
    · intro h; exact absurd h (by decide)
    · intro h; omega
  · rw [if_neg h1]
    by_cases h2 : x.toInt = y.toInt
    · rw [if_pos h2]; constructor
      · intro h; exact absurd h (by decide)
      · intro h; omega
    · rw [if_neg h2]; constructor
      · intro h; omega
      · intro h; decide
theorem ps_c2 {x y : Int64} : 0 < lg_cmp x y ↔ y.toInt < x.toInt := by
  unfold lg_cmp
  simp only [gt_iff_lt, Int64.lt_iff_toInt_lt, ← Int64.toInt_inj]
  by_cases h1 : y.toInt < x.toInt
  · rw [if_pos h1]; constructor
    · intro h; exact h1
    · intro h; decide
  · rw [if_neg h1]
    by_cases h2 : x.toInt = y.toInt
    · rw [if_pos h2]; constructor
      · intro h; exact absurd h (by decide)
      · intro h; omega
    · rw [if_neg h2]; constructor
      · intro h; exact absurd h (by decide)
      · intro h; omega
theorem ps_in64 {v lo hi : Int64} {S : gw_S} : f_X9_in v lo hi S = some (if lo.toInt ≤ v.toInt ∧ v.toInt ≤ hi.toInt then 1 else 0) := by
  unfold f_X9_in
  simp only [ps_c1, ps_c2]
  by_cases h1 : v.toInt < lo.toInt
  · rw [if_pos h1, if_neg (by omega)]
  · rw [if_neg h1]
    by_cases h2 : hi.toInt < v.toInt
    · rw [if_pos h2, if_neg (by omega)]
    · rw [if_neg h2, if_pos (by omega)]
theorem ps_in {x : Int32} {lo hi : Int64} {S : gw_S} : f_X9_in x.toInt64 lo hi S = some (if lo.toInt ≤ x.toInt ∧ x.toInt ≤ hi.toInt then 1 else 0) := by
  rw [ps_in64, Int32.toInt_toInt64]
theorem pq_m1 : (-1 : Int64).toInt = -1 := by decide
theorem pq_0 : (0 : Int64).toInt = 0 := by decide
theorem pq_1 : (1 : Int64).toInt = 1 := by decide
theorem pq_2 : (2 : Int64).toInt = 2 := by decide
theorem pq_3 : (3 : Int64).toInt = 3 := by decide
theorem pq_4 : (4 : Int64).toInt = 4 := by decide
theorem pq_5 : (5 : Int64).toInt = 5 := by decide
theorem pq_6 : (6 : Int64).toInt = 6 := by decide
theorem pq_8 : (8 : Int64).toInt = 8 := by decide
theorem pq_9 : (9 : Int64).toInt = 9 := by decide
theorem pq_20 : (20 : Int64).toInt = 20 := by decide
theorem pq_32 : (32 : Int64).toInt = 32 := by decide
theorem pq_40 : (40 : Int64).toInt = 40 := by decide
theorem pq_48 : (48 : Int64).toInt = 48 := by decide
theorem pq_57 : (57 : Int64).toInt = 57 := by decide
theorem pq_99 : (99 : Int64).toInt = 99 := by decide
theorem pq_126 : (126 : Int64).toInt = 126 := by decide
theorem pq_380 : (380 : Int64).toInt = 380 := by decide
theorem pq_399 : (399 : Int64).toInt = 399 := by decide
theorem pq_4095 : (4095 : Int64).toInt = 4095 := by decide
theorem pq_9999 : (9999 : Int64).toInt = 9999 := by decide
theorem ps_z {c : Prop} [Decidable c] : gw_gd ((if c then (1 : Int32) else 0) = 0 ∨ (if c then (1 : Int32) else 0) = 1) (some (if c then (1 : Int32) else 0)) = some (if c then 1 else 0) := by
  by_cases h : c
  · simp [gw_gd, h]
  · simp [gw_gd, h]
theorem ps_br {β : Type} {c : Prop} [Decidable c] {X Y : Option β} : gw_bd (some (if c then (1 : Int32) else 0)) (fun r => if r = 0 then X else Y) = if c then Y else X := by
  by_cases h : c
  · simp [gw_bd, h]
  · simp [gw_bd, h]
theorem ps_isTown {x : Int32} {S : gw_S} : f_X8_isTown x S = some (if 0 ≤ x.toInt ∧ x.toInt ≤ 8 then 1 else 0) := by unfold f_X8_isTown; rw [ps_isIn, gw_bdS, ps_z, pz_0, pz_8]
theorem ps_isMaker {x : Int32} {S : gw_S} : f_X8_isMaker x S = some (if 0 ≤ x.toInt ∧ x.toInt ≤ 5 then 1 else 0) := by unfold f_X8_isMaker; rw [ps_isIn, gw_bdS, ps_z, pz_0, pz_5]
theorem ps_isLabel {x : Int32} {S : gw_S} : f_X8_isLabel x S = some (if 1 ≤ x.toInt ∧ x.toInt ≤ 40 then 1 else 0) := by unfold f_X8_isLabel; rw [ps_isIn, gw_bdS, ps_z, pz_1, pz_40]
theorem ps_isDay {x : Int32} {S : gw_S} : f_X8_isDay x S = some (if 0 ≤ x.toInt ∧ x.toInt ≤ 399 then 1 else 0) := by unfold f_X8_isDay; rw [ps_isIn, gw_bdS, ps_z, pz_0, pz_399]
theorem ps_isSheet {x : Int32} {S : gw_S} : f_X8_isSheet x S = some (if 0 ≤ x.toInt ∧ x.toInt ≤ 3 then 1 else 0) := by unfold f_X8_isSheet; rw [ps_isIn, gw_bdS, ps_z, pz_0, pz_3]
theorem ps_isLane {x : Int32} {S : gw_S} : f_X8_isLane x S = some (if 0 ≤ x.toInt ∧ x.toInt ≤ 2 then 1 else 0) := by unfold f_X8_isLane; rw [ps_isIn, gw_bdS, ps_z, pz_0, pz_2]
theorem pm_isTown {x : Int32} {S : gw_S} : f_X9_isTown x S = some (if 0 ≤ x.toInt ∧ x.toInt ≤ 8 then 1 else 0) := by unfold f_X9_isTown; rw [ps_in, gw_bdS, ps_z, pq_0, pq_8]
theorem pm_isMaker {x : Int32} {S : gw_S} : f_X9_isMaker x S = some (if 0 ≤ x.toInt ∧ x.toInt ≤ 5 then 1 else 0) := by unfold f_X9_isMaker; rw [ps_in, gw_bdS, ps_z, pq_0, pq_5]
theorem pm_isLabel {x : Int32} {S : gw_S} : f_X9_isLabel x S = some (if 1 ≤ x.toInt ∧ x.toInt ≤ 40 then 1 else 0) := by unfold f_X9_isLabel; rw [ps_in, gw_bdS, ps_z, pq_1, pq_40]
/-- a whole number behind its checks -/
theorem ps_nI {x : Int32} {n : Nat} (h : 0 ≤ x.toInt ∧ x.toInt ≤ n) (hn : n < 2 ^ 31) : ∃ j : Nat, j ≤ n ∧ x = nI j := by
  obtain ⟨j, hj, rfl⟩ := nI_of (x := x) (by rw [Int32.lt_iff_toInt_lt, Int32.toInt_zero]; omega)
  rw [nI_toInt hj] at h
  exact ⟨j, by omega, rfl⟩
theorem ps_gin {x : Int32} {n : Nat} (h : 0 ≤ x.toInt ∧ x.toInt < n) : gw_in x n := by
  rw [gw_in, Int32.lt_iff_toInt_lt, Int32.toInt_zero]
  show ¬ (x.toInt < 0 ∨ n ≤ x.toInt.toNat)
  omega
theorem ps_law2 {f1 f2 : Option (Int32 × gw_S)} {r : Int32} {S1 M1 : gw_S} {K : gw_S → gw_S → Option Int32} (h1 : f1 = some (r, S1)) (h2 : f2 = some (r, M1)) : gw_b2 f1 (fun r1 S1 => gw_b2 f2 (fun r2 M1 => if r1 = r2 then K S1 M1 else some 0)) = K S1 M1 := by
  subst h1; subst h2; simp [gw_b2]
theorem zs_pieceAt {x : Int32} {S : gw_S} (h : S 3 6 = 0) : f_X2_pieceAt x S = some (-1) := by
  unfold f_X2_pieceAt
  rw [h]
  by_cases h1 : x < 0
  · rw [if_pos h1]
  · rw [if_neg h1, if_pos (by rw [Int32.le_iff_toInt_le]; rw [Int32.lt_iff_toInt_lt] at h1; omega)]
theorem zs_bookingAt {x : Int32} {S : gw_S} (h : S 3 7 = 0) : f_X2_bookingAt x S = some (-1) := by
  unfold f_X2_bookingAt
  rw [h]
  by_cases h1 : x < 0
  · rw [if_pos h1]
  · rw [if_neg h1, if_pos (by rw [Int32.le_iff_toInt_le]; rw [Int32.lt_iff_toInt_lt] at h1; omega)]
theorem pz_q : ((0 : Int32) - 1).toInt64.toInt = -1 := by decide
theorem zm_isPiece {x : Int32} {S : gw_S} (h : S 0 8 = 0) : f_X9_isPiece x S = some 0 := by
  unfold f_X9_isPiece
  rw [h, ps_in, gw_bdS, ps_z, if_neg (by rw [pz_q, pq_0]; omega)]
theorem zm_isThere {x : Int32} {S : gw_S} (h : S 0 29 = 0) : f_X9_isThere x S = some 0 := by
  unfold f_X9_isThere
  rw [h, ps_in, gw_bdS, ps_z, if_neg (by rw [pz_q, pq_0]; omega)]
theorem zl_22 {f1 f2 : Option (Int32 × gw_S)} {r : Int32} {S1 M1 : gw_S} {K : gw_S → gw_S → Option Int32} (h1 : f1 = some (r, S1)) (h2 : f2 = some (r, M1)) (hK : ∀ S M, K S M = some 1) : gw_b2 f1 (fun r1 S1 => gw_b2 f2 (fun r2 M1 => if r1 = r2 then K S1 M1 else some 0)) = some 1 := by
  subst h1; subst h2; simp [gw_b2, hK]
theorem zl_11 {f1 f2 : Option Int32} {r : Int32} {S1 M1 : gw_S} {K : gw_S → gw_S → Option Int32} (h1 : f1 = some r) (h2 : f2 = some r) (hK : ∀ S M, K S M = some 1) : gw_bd f1 (fun r1 => gw_bd f2 (fun r2 => if r1 = r2 then K S1 M1 else some 0)) = some 1 := by
  subst h1; subst h2; simp [gw_bd, hK]
theorem zl_12 {f1 : Option Int32} {f2 : Option (Int32 × gw_S)} {r : Int32} {S1 M1 : gw_S} {K : gw_S → gw_S → Option Int32} (h1 : f1 = some r) (h2 : f2 = some (r, M1)) (hK : ∀ S M, K S M = some 1) : gw_bd f1 (fun r1 => gw_b2 f2 (fun r2 M1 => if r1 = r2 then K S1 M1 else some 0)) = some 1 := by
  subst h1; subst h2; simp [gw_bd, gw_b2, hK]
theorem ps_br0 {β : Type} {c : Prop} [Decidable c] {r : Int32} {X Y : Option β} : gw_bd (some (-1 : Int32)) (fun r => if r = -1 then X else Y) = X := by simp [gw_bd]
section Z
variable {S M : gw_S} {x1 x2 x3 x4 : Int32}
theorem zs_hem (h : S 3 6 = 0) : f_X8_hem x1 x2 S = some (-1, S) := by unfold f_X8_hem; rw [zs_pieceAt h, gw_bdS, if_pos rfl]
theorem zm_hem (h : M 0 8 = 0) : f_X9_hem x1 x2 M = some (-1, M) := by unfold f_X9_hem; rw [zm_isPiece h, gw_bdS, if_pos rfl]
theorem zs_told (h : S 3 6 = 0) : f_X8_told x1 x2 S = some (-1) := by unfold f_X8_told; rw [zs_pieceAt h, gw_bdS, if_pos rfl]
theorem zm_told (h : M 0 8 = 0) : f_X9_told x1 x2 M = some (-1) := by unfold f_X9_told; rw [zm_isPiece h, gw_bdS, if_pos rfl]
theorem zs_fits (h : S 3 6 = 0) : f_X8_fits x1 x2 x3 S = some (-1) := by unfold f_X8_fits; rw [zs_pieceAt h, gw_bdS, if_pos rfl]
theorem zm_fits (h : M 0 8 = 0) : f_X9_fits x1 x2 x3 M = some (-1, M) := by unfold f_X9_fits; rw [zm_isPiece h, gw_bdS, if_pos rfl]
theorem zs_off (h : S 3 7 = 0) : f_X8_off x1 x2 S = some (-1, S) := by unfold f_X8_off; rw [zs_bookingAt h, gw_bdS, if_pos rfl]
theorem zm_off (h : M 0 29 = 0) : f_X9_off x1 x2 M = some (-1, M) := by unfold f_X9_off; rw [zm_isThere h, gw_bdS, if_pos rfl]
theorem zs_give (h : S 3 7 = 0) : f_X8_give x1 S = some (-1, S) := by unfold f_X8_give; rw [zs_bookingAt h, gw_bdS, if_pos rfl]
theorem zm_give (h : M 0 29 = 0) : f_X9_give x1 M = some (-1, M) := by unfold f_X9_give; rw [zm_isThere h, gw_bdS, if_pos rfl]
theorem zs_has (h : S 3 7 = 0) : f_X8_has x1 S = some (-1) := by unfold f_X8_has; rw [zs_bookingAt h, gw_bdS, if_pos rfl]
theorem zm_has (h : M 0 29 = 0) : f_X9_has x1 M = some (-1) := by unfold f_X9_has; rw [zm_isThere h, gw_bdS, if_pos rfl]
theorem zs_free (h : S 3 6 = 0) (h7 : S 3 7 = 0) : f_X8_free x1 x2 S = some (-1) := by unfold f_X8_free; rw [zs_pieceAt h, gw_bdS, zs_bookingAt h7, gw_bdS, if_pos rfl]
theorem zm_free (h : M 0 8 = 0) : f_X9_free x1 x2 M = some (-1) := by unfold f_X9_free; rw [zm_isPiece h, gw_bdS, if_pos rfl]
theorem zs_away (h : S 3 6 = 0) (h7 : S 3 7 = 0) : f_X8_away x1 x2 x3 S = some (-1) := by unfold f_X8_away; rw [zs_pieceAt h, gw_bdS, zs_bookingAt h7, gw_bdS, if_pos rfl]
theorem zm_away (h : M 0 8 = 0) : f_X9_away x1 x2 x3 M = some (-1) := by unfold f_X9_away; rw [zm_isPiece h, gw_bdS, if_pos rfl]
theorem zs_tear (h : S 3 6 = 0) : f_X8_tear x1 x2 S = some (-1, S) := by unfold f_X8_tear; rw [zs_pieceAt h, gw_bdS, if_pos rfl]
theorem zm_tear (h : M 0 8 = 0) : f_X9_tear x1 x2 M = some (-1, M) := by unfold f_X9_tear; rw [zm_isPiece h, gw_bdS, if_pos rfl]
theorem zs_mend (h : S 3 6 = 0) : f_X8_mend x1 S = some (-1, S) := by unfold f_X8_mend; rw [zs_pieceAt h, gw_bdS, if_pos rfl]
theorem zm_mend (h : M 0 8 = 0) : f_X9_mend x1 M = some (-1, M) := by unfold f_X9_mend; rw [zm_isPiece h, gw_bdS, if_pos rfl]
theorem zs_chain (h : S 3 7 = 0) : f_X8_chain x1 S = some (-1, S) := by unfold f_X8_chain; rw [zs_bookingAt h, gw_bdS, if_pos rfl]
theorem zm_chain (h : M 0 29 = 0) : f_X9_chain x1 M = some (-1, M) := by unfold f_X9_chain; rw [zm_isThere h, gw_bdS, if_pos rfl]
theorem zs_link (h : S 3 7 = 0) : f_X8_link x1 x2 x3 S = some (-1, S) := by
  unfold f_X8_link
  rw [zs_chain h, gw_b2S, ps_isIn, ps_br, if_neg (show ¬ (0 : Int32) ≤ -1 by decide)]
  split
  · rfl
  · split <;> rfl
theorem zm_link (h : M 0 29 = 0) : f_X9_link x1 x2 x3 M = some (-1, M) := by unfold f_X9_link; rw [zm_isThere h, gw_bdS, if_pos rfl]
theorem zs_swap (h : S 3 7 = 0) : f_X8_swap x1 S = some (-1, S) := by unfold f_X8_swap; rw [zs_chain h, gw_b2S, if_pos (by decide)]
theorem zm_swap (h : M 0 29 = 0) : f_X9_swap x1 M = some (-1, M) := by unfold f_X9_swap; rw [zm_isThere h, gw_bdS, if_pos rfl]
theorem zs_out (h : S 3 7 = 0) : f_X8_out x1 x2 S = some (-1, S) := by unfold f_X8_out; rw [zs_bookingAt h, gw_bdS, if_pos rfl]
theorem zm_out (h : M 0 29 = 0) : f_X9_out x1 x2 M = some (-1, M) := by unfold f_X9_out; rw [zm_isThere h, gw_bdS, if_pos rfl]
theorem zs_home (h : S 3 7 = 0) : f_X8_home x1 x2 x3 S = some (-1000001, S) := by unfold f_X8_home; rw [zs_bookingAt h, gw_bdS, if_pos rfl]
theorem zm_home (h : M 0 29 = 0) : f_X9_home x1 x2 x3 M = some (-1000001, M) := by unfold f_X9_home; rw [zm_isThere h, gw_bdS, if_pos rfl]
theorem zs_about (h : S 3 7 = 0) : f_X8_about x1 x2 S = some (-1) := by unfold f_X8_about; rw [zs_bookingAt h, gw_bdS, if_pos rfl]
theorem zm_about (h : M 0 29 = 0) : f_X9_about x1 x2 M = some (-1) := by unfold f_X9_about; rw [zm_isThere h, gw_bdS, if_pos rfl]
theorem zs_retire (h : S 3 6 = 0) : f_X8_retire x1 S = some (-1, S) := by unfold f_X8_retire; rw [zs_pieceAt h, gw_bdS, if_pos rfl]
theorem zm_retire (h : M 0 8 = 0) : f_X9_retire x1 M = some (-1, M) := by unfold f_X9_retire; rw [zm_isPiece h, gw_bdS, if_pos rfl]
end Z
def gw_zL : gw_S := (f_X3_init_t (fun _ _ => 0)).getD (fun _ _ => 0)
def gw_zH : gw_S := (f_X2_init_t (gw_SH gw_zL)).getD (fun _ _ => 0)
def gw_zM : gw_S := (f_X9_init_t gw_SM).getD (fun _ _ => 0)
set_option maxRecDepth 100000 in
theorem gw_zLi : (f_X3_init_t (fun _ _ => 0)).isSome = true := by decide +kernel
set_option maxRecDepth 100000 in
theorem gw_zMi : (f_X9_init_t gw_SM).isSome = true := by decide +kernel
set_option maxRecDepth 100000 in
theorem gw_zHi : (f_X2_init_t (gw_SH gw_zL)).isSome = true := by decide +kernel
theorem gw_isS {α : Type} {o : Option α} {x : α} (h : o.isSome = true) : o = some (o.getD x) := by cases o with | none => cases h | some y => rfl
theorem gw_zLe : f_X3_init_t (fun _ _ => 0) = some gw_zL := gw_isS gw_zLi
theorem gw_zHe : f_X2_init_t (gw_SH gw_zL) = some gw_zH := gw_isS gw_zHi
theorem gw_zMe : f_X9_init_t gw_SM = some gw_zM := gw_isS gw_zMi
def z_S : gw_S := gw_SG gw_zH
theorem z_a : z_S 3 6 = 0 ∧ z_S 3 7 = 0 ∧ z_S 1 1 = 0 ∧ z_S 7 3 = 0 ∧ z_S 7 4 = 0 := by decide +kernel
theorem z_b : ∀ i, i < 8 → z_S 5 i = gw_zM 3 i := by decide +kernel
theorem z_c : ∀ i, i < 8 → gw_LET i = gw_zM 1 i := by decide +kernel
theorem z_d : ∀ i, i < 81 → z_S 11 i = gw_zM 6 i := by decide +kernel
def gw_zN : gw_S := (f_X9_findLies gw_zM).getD (fun _ _ => 0)
set_option maxRecDepth 100000 in
theorem gw_zNi : (f_X9_findLies gw_zM).isSome = true := by decide +kernel
theorem gw_zNe : f_X9_findLies gw_zM = some gw_zN := gw_isS gw_zNi
theorem z_m : gw_zM 0 5 = 0 ∧ gw_zM 0 8 = 0 ∧ gw_zM 0 29 = 0 ∧ gw_zM 0 21 = 0 ∧ gw_zN 0 28 = 0 := by decide +kernel
theorem z_lo : ∀ i, i < 6 → z_S 9 i = gw_zN 23 i := by decide +kernel
theorem z_hi : ∀ i, i < 6 → z_S 10 i = gw_zN 24 i := by decide +kernel
set_option maxRecDepth 100000 in
theorem z_terms : (f_X8_terms z_S).isSome = true ∧ (f_X9_terms gw_zM).isSome = true ∧ ((f_X8_terms z_S).getD (0, fun _ _ => 0)).1 = ((f_X9_terms gw_zM).getD (0, fun _ _ => 0)).1 := by decide +kernel
theorem zl_ex {f1 f2 : Option (Int32 × gw_S)} {d1 d2 : Int32 × gw_S} (h : f1.isSome = true ∧ f2.isSome = true ∧ (f1.getD d1).1 = (f2.getD d2).1) : ∃ r S1 M1, f1 = some (r, S1) ∧ f2 = some (r, M1) := by
  obtain ⟨h1, h2, h3⟩ := h
  cases f1 with
  | none => cases h1
  | some a => cases f2 with
    | none => cases h2
    | some b => exact ⟨a.1, a.2, b.2, rfl, by rw [show a.1 = b.1 from h3]⟩
theorem zl_22x {f1 f2 : Option (Int32 × gw_S)} {K : gw_S → gw_S → Option Int32} (h : ∃ r S1 M1, f1 = some (r, S1) ∧ f2 = some (r, M1)) (hK : ∀ S M, K S M = some 1) : gw_b2 f1 (fun r1 S1 => gw_b2 f2 (fun r2 M1 => if r1 = r2 then K S1 M1 else some 0)) = some 1 := by
  obtain ⟨r, S1, M1, h1, h2⟩ := h
  exact zl_22 h1 h2 hK
theorem zl_12x {f1 : Option Int32} {f2 : Option (Int32 × gw_S)} {S1 : gw_S} {K : gw_S → gw_S → Option Int32} (h : ∃ r M1, f1 = some r ∧ f2 = some (r, M1)) (hK : ∀ S M, K S M = some 1) : gw_bd f1 (fun r1 => gw_b2 f2 (fun r2 M1 => if r1 = r2 then K S1 M1 else some 0)) = some 1 := by
  obtain ⟨r, M1, h1, h2⟩ := h
  exact zl_12 h1 h2 hK
theorem zl_11x {f1 : Option Int32} {f2 : Option Int32} {S1 M1 : gw_S} {K : gw_S → gw_S → Option Int32} (h : ∃ r, f1 = some r ∧ f2 = some r) (hK : ∀ S M, K S M = some 1) : gw_bd f1 (fun r1 => gw_bd f2 (fun r2 => if r1 = r2 then K S1 M1 else some 0)) = some 1 := by
  obtain ⟨r, h1, h2⟩ := h
  exact zl_11 h1 h2 hK
theorem zx {f1 f2 : Option (Int32 × gw_S)} {r r' : Int32} {S1 M1 : gw_S} (h1 : f1 = some (r, S1)) (h2 : f2 = some (r', M1)) (e : r' = r) : ∃ r S1 M1, f1 = some (r, S1) ∧ f2 = some (r, M1) := ⟨r, S1, M1, h1, by rw [h2, e]⟩
theorem gw_gdX {β : Type} {c : Prop} {i : Decidable c} {k : Option β} (h : c) : @gw_gd β c i k = k := by unfold gw_gd; rw [if_pos h]
section Z2
variable {x1 x2 x3 x4 x5 x6 : Int32}
theorem ze_terms : ∃ r S1 M1, f_X8_terms z_S = some (r, S1) ∧ f_X9_terms gw_zM = some (r, M1) := zl_ex z_terms
theorem ze_quarrel : ∃ r M1, f_X8_quarrel z_S = some r ∧ f_X9_quarrel gw_zM = some (r, M1) := by
  refine ⟨0, gw_zN, ?_, ?_⟩
  · unfold f_X8_quarrel; rw [if_pos z_a.2.2.2.2]
  · unfold f_X9_quarrel; rw [gw_zNe, gw_bdS, if_pos z_m.2.2.2.2]
theorem pn_n0 {j : Nat} (h : j < 2 ^ 31) : ¬ nI j < 0 := by rw [Int32.lt_iff_toInt_lt, nI_toInt h, Int32.toInt_zero]; omega
theorem pn_le {j n : Nat} (h : j < n) (hn : n < 2 ^ 31) : ¬ nI n ≤ nI j := by rw [Int32.le_iff_toInt_le, nI_toInt hn, nI_toInt (by omega)]; omega
theorem ps_low {S : gw_S} {j : Nat} (h : j < 6) : f_X3_low (nI j) S = some (S 9 j) := by
  unfold f_X3_low
  rw [if_neg (pn_n0 (by omega)), if_neg (show ¬ (6 : Int32) ≤ nI j from pn_le (n := 6) h (by omega)), gw_gdT (ps_gin (by rw [nI_toInt (by omega)]; omega)), nI_clamp (by omega)]
theorem ps_high {S : gw_S} {j : Nat} (h : j < 6) : f_X3_high (nI j) S = some (S 10 j) := by
  unfold f_X3_high
  rw [if_neg (pn_n0 (by omega)), if_neg (show ¬ (6 : Int32) ≤ nI j from pn_le (n := 6) h (by omega)), gw_gdT (ps_gin (by rw [nI_toInt (by omega)]; omega)), nI_clamp (by omega)]
theorem ze_lie : ∃ r M1, f_X8_lie x1 x2 z_S = some r ∧ f_X9_lie x1 x2 gw_zM = some (r, M1) := by
  unfold f_X8_lie f_X9_lie
  rw [ps_isMaker, ps_br, pm_isMaker, ps_br, ps_isIn, ps_br, ps_in, ps_br, gw_zNe, gw_bdS]
  by_cases h1 : 0 ≤ x1.toInt ∧ x1.toInt ≤ 5
  · rw [if_pos h1, if_pos h1]
    obtain ⟨j, hj, rfl⟩ := ps_nI (n := 5) h1 (by omega)
    rw [pz_0, pz_1, pq_0, pq_1, ps_low (by omega), ps_high (by omega), gw_gdT (ps_gin (by rw [nI_toInt (by omega)]; omega)), gw_gdT (ps_gin (by rw [nI_toInt (by omega)]; omega)), nI_clamp (by omega), ← z_lo j (by omega), ← z_hi j (by omega), gw_bdS, gw_bdS]
    by_cases h2 : 0 ≤ x2.toInt ∧ x2.toInt ≤ 1
    · rw [if_pos h2, if_pos h2]
      by_cases h3 : x2 = 0
      · rw [if_pos h3, if_pos h3]; exact ⟨_, _, rfl, rfl⟩
      · rw [if_neg h3, if_neg h3]; exact ⟨_, _, rfl, rfl⟩
    · rw [if_neg h2, if_neg h2]; exact ⟨_, _, rfl, rfl⟩
  · rw [if_neg h1, if_neg h1]; exact ⟨_, _, rfl, rfl⟩
theorem ze_drop : ∃ r S1 M1, f_X8_drop x1 z_S = some (r, S1) ∧ f_X9_drop x1 gw_zM = some (r, M1) := by
  unfold f_X8_drop f_X9_drop
  rw [ps_isSheet, ps_br, ps_in, ps_br, pq_0, pq_3]
  by_cases h1 : 0 ≤ x1.toInt ∧ x1.toInt ≤ 3
  · rw [if_pos h1, if_pos h1]
    obtain ⟨j, hj, rfl⟩ := ps_nI (n := 3) h1 (by omega)
    have hz : ∀ j, j ≤ 3 → z_S (21 + j) 1 = 0 ∧ ¬ 0 ≤ gw_zM 43 j := by decide +kernel
    have hg : gw_in (nI j) 4 := ps_gin (by rw [nI_toInt (by omega)]; omega)
    rw [gw_gdT hg, gw_gdT hg, gw_gdT (show (nI j).toNatClampNeg < 4 by rw [nI_clamp (by omega)]; omega), nI_clamp (by omega), if_pos (hz j hj).1, if_neg (hz j hj).2]
    exact ⟨_, _, _, rfl, rfl⟩
  · rw [if_neg h1, if_neg h1]; exact ⟨_, _, _, rfl, rfl⟩
end Z2
section Z3
variable {x1 x2 x3 x4 x5 x6 : Int32} {S M : gw_S}
def gw_wp {α : Type} (o : Option α) (P : α → Prop) : Prop := ∃ x, o = some x ∧ P x
theorem gw_wpS {α : Type} {x : α} {P : α → Prop} (h : P x) : gw_wp (some x) P := ⟨x, rfl, h⟩
theorem gw_wpB {α β : Type} {o : Option α} {Q : α → Prop} {k : α → Option β} {P : β → Prop} (h : gw_wp o Q) (hk : ∀ x, Q x → gw_wp (k x) P) : gw_wp (gw_bd o k) P := by
  obtain ⟨x, rfl, hx⟩ := h; exact hk x hx
/-- term -/
theorem ze_place (hL : ∀ i, i < 8 → gw_LET i = M 1 i) (v : Int32) : ∀ k, k ≤ 8 → ∀ n, k < n → ∃ r, f_X7_placeOf_b2 S n v (nI (8 - k)) = some r ∧ f_X9_termOf_b2 M n v (nI (8 - k)) = some r ∧ (r = -1 ∨ ∃ j, j < 8 ∧ r = nI j)
  | 0, _, n + 1, _ => ⟨-1, by rw [f_X7_placeOf_b2, if_pos (by decide)], by rw [f_X9_termOf_b2, if_pos (by decide)], Or.inl rfl⟩
  | k + 1, hk, n + 1, hn => by
    have hj : 8 - (k + 1) < 8 := by omega
    have hg : gw_in (nI (8 - (k + 1))) 8 := ps_gin (by rw [nI_toInt (by omega)]; omega)
    have e1 : nI (8 - (k + 1)) + (1 : Int32) = nI (8 - k) := by rw [nI_1]; congr 1; omega
    rw [f_X7_placeOf_b2, f_X9_termOf_b2, if_neg (show ¬ (8 : Int32) ≤ nI (8 - (k + 1)) from pn_le (n := 8) hj (by omega)), if_neg (show ¬ (8 : Int32) ≤ nI (8 - (k + 1)) from pn_le (n := 8) hj (by omega)), gw_gdT hg, gw_gdT hg, nI_clamp (by omega), hL _ hj]
    by_cases h : M 1 (8 - (k + 1)) = v
    · rw [if_pos h, if_pos h]; exact ⟨_, rfl, rfl, Or.inr ⟨_, hj, rfl⟩⟩
    · rw [if_neg h, if_neg h, gw_letS, gw_letS, e1]
      exact ze_place hL v k (by omega) n (by omega)
theorem ps_at {j : Nat} (h : j < 8) : f_X7_at (nI j) S = some (S 5 j) := by
  unfold f_X7_at
  rw [if_neg (pn_n0 (by omega)), if_neg (show ¬ (8 : Int32) ≤ nI j from pn_le (n := 8) h (by omega)), gw_gdT (ps_gin (by rw [nI_toInt (by omega)]; omega)), nI_clamp (by omega)]
theorem pn_p0 {j : Nat} (h : j < 2 ^ 31) : 0 ≤ nI j := by rw [Int32.le_iff_toInt_le, nI_toInt h, Int32.toInt_zero]; omega
theorem ze_term : ∃ r, f_X8_term x1 z_S = some r ∧ f_X9_term x1 gw_zM = some r := by
  unfold f_X8_term f_X9_term f_X7_placeOf f_X9_termOf
  obtain ⟨r, h1, h2, h3⟩ := ze_place (S := z_S) z_c x1 8 (Nat.le_refl 8) gw_F (by decide)
  rw [show nI (8 - 8) = (0 : Int32) from rfl] at h1 h2
  rw [h1, h2, gw_bdS, gw_bdS]
  rcases h3 with rfl | ⟨j, hj, rfl⟩
  · rw [if_neg (by decide), if_neg (by decide)]; exact ⟨_, rfl, rfl⟩
  · rw [if_pos (pn_p0 (by omega)), if_pos (pn_p0 (by omega)), ps_at hj, gw_bdS, gw_gdT (ps_gin (by rw [nI_toInt (by omega)]; omega)), nI_clamp (by omega)]; exact ⟨_, rfl, congrArg some (z_b j hj).symm⟩
/-- post -/
theorem p_mul9 : ∀ i, i ≤ 8 → ∀ j, j ≤ 8 → nI i * 9 + nI j = nI (9 * i + j) ∧ 9 * nI i + nI j = nI (9 * i + j) := by decide +kernel
theorem pi_in {j n : Nat} (h : j < n) (hn : n < 2 ^ 31) : gw_in (nI j) n := ps_gin (by rw [nI_toInt (by omega)]; omega)
theorem ps_setPost {i j : Nat} (hi : i ≤ 8) (hj : j ≤ 8) : ∃ S1, f_X2_setPost (nI i) (nI j) x3 S = some S1 := by
  unfold f_X2_setPost
  rw [ps_isTown, ps_br, if_pos (by rw [nI_toInt (by omega)]; omega), ps_isTown, ps_br, if_pos (by rw [nI_toInt (by omega)]; omega), (p_mul9 i hi j hj).1, (p_mul9 j hj i hi).1, gw_gdT (pi_in (by omega) (by omega)), gw_letS, gw_gdT (pi_in (by omega) (by omega)), gw_letS]
  exact ⟨_, rfl⟩
theorem ps_postB {i j : Nat} (hi : i ≤ 8) (hj : j ≤ 8) : f_X2_postBetween (nI i) (nI j) S = some (S 11 (9 * i + j)) := by
  unfold f_X2_postBetween
  rw [(p_mul9 i hi j hj).1, gw_letS, if_neg (pn_n0 (by omega)), if_neg (show ¬ (81 : Int32) ≤ nI (9 * i + j) from pn_le (n := 81) (by omega) (by omega)), gw_gdT (pi_in (by omega) (by omega)), nI_clamp (by omega)]
theorem ze_post : ∃ r S1 M1, f_X8_post x1 x2 x3 z_S = some (r, S1) ∧ f_X9_post x1 x2 x3 gw_zM = some (r, M1) := by
  unfold f_X8_post f_X9_post
  rw [ps_isTown, ps_br, pm_isTown, ps_br, ps_isTown, ps_br, pm_isTown, ps_br, ps_isIn, ps_br, ps_in, ps_br, pz_0, pz_9, pq_0, pq_9]
  by_cases h1 : 0 ≤ x1.toInt ∧ x1.toInt ≤ 8
  · rw [if_pos h1, if_pos h1]
    by_cases h2 : 0 ≤ x2.toInt ∧ x2.toInt ≤ 8
    · rw [if_pos h2, if_pos h2]
      by_cases h3 : x1 = x2
      · rw [if_pos h3, if_pos h3]; exact ⟨_, _, _, rfl, rfl⟩
      · rw [if_neg h3, if_neg h3]
        by_cases h4 : 0 ≤ x3.toInt ∧ x3.toInt ≤ 9
        · rw [if_pos h4, if_pos h4]
          obtain ⟨i, hi, rfl⟩ := ps_nI (n := 8) h1 (by omega)
          obtain ⟨j, hj, rfl⟩ := ps_nI (n := 8) h2 (by omega)
          obtain ⟨S1, hS⟩ := ps_setPost (S := z_S) (x3 := x3) hi hj
          rw [ps_postB hi hj, gw_bdS, hS, gw_bdS, (p_mul9 i hi j hj).2, (p_mul9 j hj i hi).2, gw_gdT (pi_in (by omega) (by omega)), gw_letS, gw_letS, gw_gdT (pi_in (by omega) (by omega)), gw_letS, nI_clamp (by omega)]
          exact zx rfl rfl (z_d _ (by omega)).symm
        · rw [if_neg h4, if_neg h4]; exact ⟨_, _, _, rfl, rfl⟩
    · rw [if_neg h2, if_neg h2]; exact ⟨_, _, _, rfl, rfl⟩
  · rw [if_neg h1, if_neg h1]; exact ⟨_, _, _, rfl, rfl⟩
end Z3
section Z4
variable {x1 x2 x3 x4 x5 x6 : Int32} {S M : gw_S}
theorem p0_7 {i : Nat} {v : Int32} : gw_up S 7 i v 0 = S 0 := rfl
theorem p0_8 {i : Nat} {v : Int32} : gw_up S 8 i v 0 = S 0 := rfl
theorem p0_9 {i : Nat} {v : Int32} : gw_up S 9 i v 0 = S 0 := rfl
theorem p0_10 {i : Nat} {v : Int32} : gw_up S 10 i v 0 = S 0 := rfl
theorem p0_11 {i : Nat} {v : Int32} : gw_up S 11 i v 0 = S 0 := rfl
theorem p0_12 {i : Nat} {v : Int32} : gw_up S 12 i v 0 = S 0 := rfl
theorem p0_13 {i : Nat} {v : Int32} : gw_up S 13 i v 0 = S 0 := rfl
theorem p0_25 {i : Nat} {v : Int32} : gw_up S 25 i v 0 = S 0 := rfl
theorem p0_26 {i : Nat} {v : Int32} : gw_up S 26 i v 0 = S 0 := rfl
theorem p0_27 {i : Nat} {v : Int32} : gw_up S 27 i v 0 = S 0 := rfl
theorem p0_28 {i : Nat} {v : Int32} : gw_up S 28 i v 0 = S 0 := rfl
theorem p0_29 {i : Nat} {v : Int32} : gw_up S 29 i v 0 = S 0 := rfl
theorem p0_30 {i : Nat} {v : Int32} : gw_up S 30 i v 0 = S 0 := rfl
theorem p0_31 {i : Nat} {v : Int32} : gw_up S 31 i v 0 = S 0 := rfl
theorem p0_32 {i : Nat} {v : Int32} : gw_up S 32 i v 0 = S 0 := rfl
/-- a gown, a long gown, a suit: the first piece -/
theorem ps_keep {x : Int32} (h36 : S 3 6 = 0) (hx : x = 0) (hnp : 0 < gw_np S) : ∃ S1, f_X2_keep x S = some (0, S1) := by
  subst hx
  unfold f_X2_keep
  have e0 : (0 : Int32).toNatClampNeg = 0 := by decide
  rw [if_pos (by rw [h36]; decide), gw_gdT (by decide), e0, gw_gdT hnp, gw_letS, gw_gdT (by simpa [gw_np, gw_up] using hnp), gw_gdT (show gw_in (gw_up S (2 * 0 + 30) 7 (S 3 6) 3 6) 24 by rw [show gw_up S (2 * 0 + 30) 7 (S 3 6) 3 6 = S 3 6 from rfl, h36]; decide), gw_letS, gw_letS, gw_gdT (by simpa [gw_np, gw_up] using hnp)]
  exact ⟨_, congrArg (fun z => some (z, _)) h36⟩
set_option maxRecDepth 100000 in
theorem z_okP : gw_okP z_S := by decide +kernel
set_option maxRecDepth 100000 in
theorem z_okB : gw_okB z_S := by decide +kernel
theorem z_29 : z_S 29 0 = 0 ∧ z_S 29 1 = 0 := by decide +kernel
theorem ze_add {k : Int32} : ∃ r S1 M1, f_X8_addPiece k x1 x2 x3 x4 x5 x6 z_S = some (r, S1) ∧ f_X9_add k x1 x2 x3 x4 x5 x6 gw_zM = some (r, M1) := by
  unfold f_X8_addPiece f_X9_add
  rw [ps_isMaker, ps_br, pm_isMaker, ps_br, ps_isLabel, ps_br, pm_isLabel, ps_br, ps_isIn, ps_br, ps_in, ps_br, ps_isTown, ps_br, pm_isTown, ps_br, ps_isIn, ps_br, ps_in, ps_br, ps_isIn, ps_br, ps_in, ps_br, pz_0, pz_1, pz_9, pz_9999, pz_99, pq_0, pq_1, pq_9, pq_9999, pq_99]
  by_cases h1 : 0 ≤ x1.toInt ∧ x1.toInt ≤ 5
  · rw [if_pos h1, if_pos h1]
    by_cases h2 : 1 ≤ x2.toInt ∧ x2.toInt ≤ 40
    · rw [if_pos h2, if_pos h2]
      by_cases h3 : 0 ≤ x3.toInt ∧ x3.toInt ≤ 9
      · rw [if_pos h3, if_pos h3]
        by_cases h4 : 0 ≤ x4.toInt ∧ x4.toInt ≤ 8
        · rw [if_pos h4, if_pos h4]
          by_cases h5 : 1 ≤ x5.toInt ∧ x5.toInt ≤ 9999
          · rw [if_pos h5, if_pos h5]
            by_cases h6 : 1 ≤ x6.toInt ∧ x6.toInt ≤ 99
            · rw [if_pos h6, if_pos h6, if_pos (show z_S 3 6 < 24 by rw [z_a.1]; decide), gw_gdT z_okP, gw_letS]
              obtain ⟨S1, hS1⟩ := ps_keep (S := gw_addP z_S k x1 x2 x3 x4 x5 x6) (x := z_S 29 0) z_a.1 z_29.1 (by
                show 0 < (z_S 29 0 + 1).toNatClampNeg
                rw [z_29.1]; decide)
              rw [hS1, gw_b2S]
              have h8 := z_m.2.1
              rw [if_neg (show ¬ gw_zM 0 8 = 24 by rw [h8]; decide), gw_gdT (by rw [h8]; decide), gw_letS]
              rw [gw_gdT (by rw [p0_7, h8]; decide), gw_letS, gw_gdT (by rw [p0_8, p0_7, h8]; decide), gw_letS, gw_gdT (by rw [p0_9, p0_8, p0_7, h8]; decide), gw_letS, gw_gdT (by rw [p0_10, p0_9, p0_8, p0_7, h8]; decide), gw_letS, gw_gdT (by rw [p0_11, p0_10, p0_9, p0_8, p0_7, h8]; decide), gw_letS, gw_gdT (by rw [p0_12, p0_11, p0_10, p0_9, p0_8, p0_7, h8]; decide), gw_letS, gw_letS]
              refine zx rfl rfl ?_
              show gw_zM 0 8 + 1 - 1 = 0
              rw [h8]; decide
            · rw [if_neg h6, if_neg h6]; exact ⟨_, _, _, rfl, rfl⟩
          · rw [if_neg h5, if_neg h5]; exact ⟨_, _, _, rfl, rfl⟩
        · rw [if_neg h4, if_neg h4]; exact ⟨_, _, _, rfl, rfl⟩
      · rw [if_neg h3, if_neg h3]; exact ⟨_, _, _, rfl, rfl⟩
    · rw [if_neg h2, if_neg h2]; exact ⟨_, _, _, rfl, rfl⟩
  · rw [if_neg h1, if_neg h1]; exact ⟨_, _, _, rfl, rfl⟩
theorem zl_b2 {f1 f2 : Option (Int32 × gw_S)} (h : ∃ r S1 M1, f1 = some (r, S1) ∧ f2 = some (r, M1)) : ∃ r S1 M1, gw_b2 f1 (fun r S => some (r, S)) = some (r, S1) ∧ gw_b2 f2 (fun r S => some (r, S)) = some (r, M1) := by
  obtain ⟨r, S1, M1, rfl, rfl⟩ := h
  exact ⟨r, S1, M1, rfl, rfl⟩
theorem ze_gown : ∃ r S1 M1, f_X8_gown x1 x2 x3 x4 x5 x6 z_S = some (r, S1) ∧ f_X9_gown x1 x2 x3 x4 x5 x6 gw_zM = some (r, M1) := zl_b2 ze_add
theorem ze_longGown : ∃ r S1 M1, f_X8_longGown x1 x2 x3 x4 x5 x6 z_S = some (r, S1) ∧ f_X9_longGown x1 x2 x3 x4 x5 x6 gw_zM = some (r, M1) := zl_b2 ze_add
theorem ze_suit : ∃ r S1 M1, f_X8_suit x1 x2 x3 x4 x5 x6 z_S = some (r, S1) ∧ f_X9_suit x1 x2 x3 x4 x5 x6 gw_zM = some (r, M1) := zl_b2 ze_add
/-- a booking -/
theorem ps_room {n : Int32} (h : S 3 7 = 0) : f_X2_hasRoomForBookings 1 S = some 1 := by
  unfold f_X2_hasRoomForBookings
  rw [h, if_neg (by decide)]
theorem ps_isB : f_X8_isBookingAsTold x1 x2 x3 x4 x5 x6 S = some (if (1 ≤ x1.toInt ∧ x1.toInt ≤ 40) ∧ (0 ≤ x2.toInt ∧ x2.toInt ≤ 2) ∧ (20 ≤ x3.toInt ∧ x3.toInt ≤ 380) ∧ (0 ≤ x4.toInt ∧ x4.toInt ≤ 8) ∧ (0 ≤ x5.toInt ∧ x5.toInt ≤ 399) ∧ (-1 ≤ x6.toInt ∧ x6.toInt ≤ 4) then 1 else 0) := by
  unfold f_X8_isBookingAsTold
  rw [ps_isLabel, ps_br, ps_isIn, ps_br, ps_isIn, ps_br, ps_isTown, ps_br, ps_isDay, ps_br, ps_isIn, ps_br, pz_0, pz_2, pz_20, pz_380, pz_m1, pz_4]
  by_cases h1 : 1 ≤ x1.toInt ∧ x1.toInt ≤ 40 <;> by_cases h2 : 0 ≤ x2.toInt ∧ x2.toInt ≤ 2 <;> by_cases h3 : 20 ≤ x3.toInt ∧ x3.toInt ≤ 380 <;> by_cases h4 : 0 ≤ x4.toInt ∧ x4.toInt ≤ 8 <;> by_cases h5 : 0 ≤ x5.toInt ∧ x5.toInt ≤ 399 <;> by_cases h6 : -1 ≤ x6.toInt ∧ x6.toInt ≤ 4 <;> simp only [h1, h2, h3, h4, h5, h6, if_true, if_false, and_true, true_and, and_false, false_and, and_self, ite_true, ite_false]
theorem pm_isB : f_X9_isBooking x1 x2 x3 x4 x5 x6 S = some (if (1 ≤ x1.toInt ∧ x1.toInt ≤ 40) ∧ (0 ≤ x2.toInt ∧ x2.toInt ≤ 2) ∧ (20 ≤ x3.toInt ∧ x3.toInt ≤ 380) ∧ (0 ≤ x4.toInt ∧ x4.toInt ≤ 8) ∧ (0 ≤ x5.toInt ∧ x5.toInt ≤ 399) ∧ (-1 ≤ x6.toInt ∧ x6.toInt ≤ 4) then 1 else 0) := by
  unfold f_X9_isBooking
  rw [ps_in, ps_br, ps_in, ps_br, ps_in, ps_br, pm_isTown, ps_br, ps_in, ps_br, ps_in, ps_br, pq_1, pq_40, pq_0, pq_2, pq_20, pq_380, pq_399, pq_m1, pq_4]
  by_cases h1 : 1 ≤ x1.toInt ∧ x1.toInt ≤ 40 <;> by_cases h2 : 0 ≤ x2.toInt ∧ x2.toInt ≤ 2 <;> by_cases h3 : 20 ≤ x3.toInt ∧ x3.toInt ≤ 380 <;> by_cases h4 : 0 ≤ x4.toInt ∧ x4.toInt ≤ 8 <;> by_cases h5 : 0 ≤ x5.toInt ∧ x5.toInt ≤ 399 <;> by_cases h6 : -1 ≤ x6.toInt ∧ x6.toInt ≤ 4 <;> simp only [h1, h2, h3, h4, h5, h6, if_true, if_false, and_true, true_and, and_false, false_and, and_self, ite_true, ite_false]
theorem ze_book : ∃ r S1 M1, f_X8_book x1 x2 x3 x4 x5 x6 z_S = some (r, S1) ∧ f_X9_book x1 x2 x3 x4 x5 x6 gw_zM = some (r, M1) := by
  unfold f_X8_book f_X9_book
  rw [ps_isB, ps_br, pm_isB, ps_br]
  split
  · rw [ps_room (n := 0) z_a.2.1, gw_bdS, if_neg (by decide)]
    unfold f_X2_addBooking
    rw [ps_room (n := 0) z_a.2.1, gw_bdS, if_neg (by decide), gw_gdT z_okB, gw_letS, gw_gdT (by rw [z_29.2]; decide), gw_gdT (by rw [z_29.2]; show 0 < (z_S 29 1 + 1).toNatClampNeg; rw [z_29.2]; decide), gw_gdT (by rw [z_a.2.1]; decide), gw_letS, gw_letS, gw_bdS]
    have h8 := z_m.2.2.1
    rw [if_neg (show ¬ gw_zM 0 29 = 30 by rw [h8]; decide)]
    unfold f_X9_addBooking
    rw [gw_gdT (by rw [h8]; decide), gw_letS, gw_gdT (by rw [p0_25, h8]; decide), gw_letS, gw_gdT (by rw [p0_26, p0_25, h8]; decide), gw_letS, gw_gdT (by rw [p0_27, p0_26, p0_25, h8]; decide), gw_letS, gw_gdT (by rw [p0_28, p0_27, p0_26, p0_25, h8]; decide), gw_letS, gw_gdT (by rw [p0_29, p0_28, p0_27, p0_26, p0_25, h8]; decide), gw_letS, gw_gdT (by rw [p0_30, p0_29, p0_28, p0_27, p0_26, p0_25, h8]; decide), gw_letS, gw_gdT (by rw [p0_31, p0_30, p0_29, p0_28, p0_27, p0_26, p0_25, h8]; decide), gw_letS, gw_letS, gw_bdS]
    refine zx rfl rfl ?_
    show gw_zM 0 29 + 1 - 1 = z_S 3 7 + 1 - 1
    rw [h8, z_a.2.1]
  · exact ⟨_, _, _, rfl, rfl⟩
end Z4
section Z5
variable {x1 x2 x3 x4 x5 x6 : Int32} {S M : gw_S}
theorem ze_match : ∃ r S1 M1, f_X8_match x1 x2 z_S = some (r, S1) ∧ f_X9_match x1 x2 gw_zM = some (r, M1) := by
  have e1 : f_X2_membersOf x1 z_S = some 0 := by
    unfold f_X2_membersOf
    show f_X2_membersOf_b4 z_S (999999999 + 1) x1 0 0 = some 0
    rw [f_X2_membersOf_b4, z_a.2.1, if_pos (by decide)]
  have e2 : f_X9_match_b31 gw_F x1 x2 0 0 gw_zM = some (-4, gw_zM) := by
    show f_X9_match_b31 (999999999 + 1) x1 x2 0 0 gw_zM = some (-4, gw_zM)
    rw [f_X9_match_b31, z_m.2.2.1, if_pos (by decide), if_pos rfl]
  unfold f_X8_match f_X9_match
  rw [ps_isIn, ps_br, ps_in, ps_br, ps_isIn, ps_br, ps_in, ps_br, e1, gw_bdS, if_pos rfl, e2, pz_0, pz_4, pz_2, pq_0, pq_4, pq_2]
  split
  · split
    · exact zx rfl rfl rfl
    · exact zx rfl rfl rfl
  · exact zx rfl rfl rfl
theorem ze_asOf : ∃ r, f_X8_asOf x1 x2 x3 x4 z_S = some r ∧ f_X9_asOf x1 x2 x3 x4 gw_zM = some r := by
  have e1 : ∀ a b c, f_X2_knownOn a b c z_S = some 0 := by
    intro a b c
    unfold f_X2_knownOn
    show f_X2_knownOn_b6 z_S (999999999 + 1) a b c 0 0 = some 0
    rw [f_X2_knownOn_b6, z_a.2.1, if_pos (by decide)]
  have e2 : f_X9_asOf_b30 gw_zM gw_F x1 x2 x3 x4 0 0 = some 0 := by
    show f_X9_asOf_b30 gw_zM (999999999 + 1) x1 x2 x3 x4 0 0 = some 0
    rw [f_X9_asOf_b30, z_m.2.2.1, if_pos (by decide)]
  unfold f_X8_asOf f_X9_asOf
  rw [ps_isDay, ps_br, ps_in, ps_br, ps_isIn, ps_br, ps_in, ps_br, e1, gw_bdS, e1, gw_bdS, e2, pz_0, pz_1, pq_0, pq_1, pq_399]
  split
  · split
    · split
      · exact ⟨_, rfl, rfl⟩
      · exact ⟨_, rfl, rfl⟩
    · exact ⟨_, rfl, rfl⟩
  · exact ⟨_, rfl, rfl⟩
theorem ze_count : ∃ r, f_X8_count x1 z_S = some r ∧ f_X9_count x1 gw_zM = some r := by
  have e1 : f_X8_count_b56 z_S x1 = some 0 := by
    unfold f_X8_count_b56 f_X2_tallyPieces
    show gw_bd (f_X2_tallyPieces_b4 z_S (999999999 + 1) x1 0 0) _ = some 0
    rw [f_X2_tallyPieces_b4, z_a.1, if_pos (by decide)]; rfl
  have e2 : f_X8_count_b84 z_S x1 = some 0 := by
    unfold f_X8_count_b84 f_X2_tallyBookings
    show gw_bd (f_X2_tallyBookings_b4 z_S (999999999 + 1) x1 0 0) _ = some 0
    rw [f_X2_tallyBookings_b4, z_a.2.1, if_pos (by decide)]; rfl
  have e3 : f_X9_count_b53 gw_zM x1 0 = some 0 := by
    unfold f_X9_count_b53
    show f_X9_count_b55 gw_zM (999999999 + 1) x1 0 0 = some 0
    rw [f_X9_count_b55, z_m.2.1, if_pos (by decide)]
  have e4 : f_X9_count_b129 gw_zM x1 0 = some 0 := by
    unfold f_X9_count_b129
    show f_X9_count_b131 gw_zM (999999999 + 1) x1 0 0 = some 0
    rw [f_X9_count_b131, z_m.2.2.1, if_pos (by decide)]
  unfold f_X8_count f_X9_count
  rw [e1, e2, e3, e4, z_a.1, z_a.2.1, z_a.2.2.2.1, z_m.2.1, z_m.2.2.1, z_m.2.2.2.1]
  have e : ∀ o : Option Int32, o.isSome = true → ∃ r, o = some r ∧ o = some r := fun o h => by
    cases o with
    | none => cases h
    | some y => exact ⟨y, rfl, rfl⟩
  apply e
  repeat' split
  all_goals rfl
theorem pm_isSheet : f_X9_isSheet x1 x2 S = some (if (0 ≤ x1.toInt ∧ x1.toInt ≤ 3) ∧ (0 ≤ x2.toInt ∧ x2.toInt ≤ 2) then 1 else 0) := by
  unfold f_X9_isSheet
  rw [ps_in, ps_br, ps_in, ps_br, pq_0, pq_3, pq_2]
  by_cases h1 : 0 ≤ x1.toInt ∧ x1.toInt ≤ 3 <;> by_cases h2 : 0 ≤ x2.toInt ∧ x2.toInt ≤ 2 <;> simp only [h1, h2, if_true, if_false, and_true, true_and, and_false, false_and, and_self, ite_true, ite_false]
theorem z_sh : ∀ j, j ≤ 3 → z_S (21 + j) 1 = 0 ∧ gw_zM 43 j = -1 := by decide +kernel
theorem ps_ref {j : Nat} (hj : j ≤ 3) : f_X5_refusalAs (nI j) x2 z_S = some (-11) := by
  unfold f_X5_refusalAs
  rw [gw_gdT (show (nI j).toNatClampNeg < 4 by rw [nI_clamp (by omega)]; omega), nI_clamp (by omega), if_pos (z_sh j hj).1]
theorem pm_ag {j : Nat} (hj : j ≤ 3) (h2 : 0 ≤ x2.toInt ∧ x2.toInt ≤ 2) : f_X9_against (nI j) x2 x3 x4 gw_zM = some (-11) := by
  unfold f_X9_against
  rw [gw_gdT (pi_in (by omega) (by omega)), nI_clamp (by omega), (z_sh j hj).2, if_neg (by rintro rfl; exact absurd h2.1 (by decide)), if_neg (by decide)]
theorem ze_item : ∃ r S1 M1, f_X8_item x1 x2 x3 x4 z_S = some (r, S1) ∧ f_X9_item x1 x2 x3 x4 gw_zM = some (r, M1) := by
  unfold f_X8_item f_X9_item
  rw [ps_isSheet, ps_br, ps_isLane, ps_br, pm_isSheet, ps_br]
  by_cases h1 : 0 ≤ x1.toInt ∧ x1.toInt ≤ 3
  · by_cases h2 : 0 ≤ x2.toInt ∧ x2.toInt ≤ 2
    · rw [if_pos h1, if_pos h2, if_pos ⟨h1, h2⟩]
      obtain ⟨j, hj, rfl⟩ := ps_nI (n := 3) h1 (by omega)
      rw [gw_gdT (pi_in (by omega) (by omega)), gw_gdT (show (nI j).toNatClampNeg < 4 by rw [nI_clamp (by omega)]; omega), ps_ref hj, gw_bdS, if_neg (by decide), pm_ag hj h2, gw_bdS, if_neg (by decide)]
      exact zx rfl rfl rfl
    · rw [if_pos h1, if_neg h2, if_neg (fun h => h2 h.2)]; exact zx rfl rfl rfl
  · rw [if_neg h1, if_neg (fun h => h1 h.1)]; exact zx rfl rfl rfl
theorem ze_books : ∃ r S1 M1, f_X8_books x1 x2 x3 x4 z_S = some (r, S1) ∧ f_X9_books x1 x2 x3 x4 gw_zM = some (r, M1) := by
  unfold f_X8_books f_X9_books
  rw [ps_isSheet, ps_br, ps_isLane, ps_br, pm_isSheet, ps_br, ps_isIn, ps_br, ps_in, ps_br, pz_0, pz_6, pq_0, pq_6]
  by_cases h1 : 0 ≤ x1.toInt ∧ x1.toInt ≤ 3
  · by_cases h2 : 0 ≤ x2.toInt ∧ x2.toInt ≤ 2
    · rw [if_pos h1, if_pos h2, if_pos (show (0 ≤ x1.toInt ∧ x1.toInt ≤ 3) ∧ (0 ≤ x2.toInt ∧ x2.toInt ≤ 2) from ⟨h1, h2⟩)]
      obtain ⟨j, hj, rfl⟩ := ps_nI (n := 3) h1 (by omega)
      rw [gw_gdT (pi_in (by omega) (by omega)), gw_gdT (show (nI j).toNatClampNeg < 4 by rw [nI_clamp (by omega)]; omega), ps_ref hj, gw_bdS, if_neg (show ¬ (-11 : Int32) = 0 by decide), pm_ag hj h2, gw_bdS, if_neg (show ¬ 0 ≤ (-11 : Int32) by decide)]
      split
      · exact zx rfl rfl rfl
      · exact zx rfl rfl rfl
    · rw [if_pos h1, if_neg h2, if_neg (show ¬ ((0 ≤ x1.toInt ∧ x1.toInt ≤ 3) ∧ (0 ≤ x2.toInt ∧ x2.toInt ≤ 2)) from fun h => h2 h.2)]; exact zx rfl rfl rfl
  · rw [if_neg h1, if_neg (show ¬ ((0 ≤ x1.toInt ∧ x1.toInt ≤ 3) ∧ (0 ≤ x2.toInt ∧ x2.toInt ≤ 2)) from fun h => h1 h.1)]; exact zx rfl rfl rfl
end Z5
theorem pc_b8 (v : Int64) (k : Nat) (hk : k < 8) : ((v.toUInt64 >>> (((8 : Int32) * nI k).toInt64.toUInt64 &&& Int64.toUInt64 63)).toInt64).toInt32 &&& 255 = (((v >>> (((8 : Int32) * nI k).toInt64 &&& 63)) &&& (255 : Int64))).toInt32 := by
  have h : ∀ k, k < 8 → ((((8 : Int32) * nI k).toInt64 &&& 63).toBitVec.smod 64).toNat = 8 * k ∧ ((((8 : Int32) * nI k).toInt64.toUInt64 &&& Int64.toUInt64 63).toBitVec % 64).toNat = 8 * k := by decide
  obtain ⟨h1, h2⟩ := h k hk
  apply Int32.toBitVec_inj.mp
  apply BitVec.eq_of_getLsbD_eq
  intro i hi
  show (BitVec.signExtend 32 (v.toBitVec >>> ((((8 : Int32) * nI k).toInt64.toUInt64 &&& Int64.toUInt64 63).toBitVec % 64)) &&& 255#32).getLsbD i = (BitVec.signExtend 32 (v.toBitVec.sshiftRight ((((8 : Int32) * nI k).toInt64 &&& 63).toBitVec.smod 64).toNat &&& 255#64)).getLsbD i
  rw [h1, BitVec.ushiftRight_eq', h2]
  simp only [BitVec.getLsbD_and, BitVec.getLsbD_signExtend, BitVec.getLsbD_ushiftRight, BitVec.getLsbD_sshiftRight, hi, show i < 64 by omega, if_true, if_pos, decide_true, Bool.true_and]
  by_cases h8 : i < 8
  · have h7 : ∀ i, i < 8 → (255#32).getLsbD i = (255#64).getLsbD i := by decide
    rw [h7 i h8]
    simp [show ¬ 64 ≤ i by omega, show 8 * k + i < 64 by omega]
  · have h9 : ∀ i, i < 32 → ¬ i < 8 → (255#32).getLsbD i = false ∧ (255#64).getLsbD i = false := by decide
    rw [(h9 i hi h8).1, (h9 i hi h8).2]; simp
theorem pc_r8 (v : Int64) : 0 ≤ (v &&& (255 : Int64)).toInt ∧ (v &&& (255 : Int64)).toInt ≤ 255 := by
  show 0 ≤ (v.toBitVec &&& 255#64).toInt ∧ (v.toBitVec &&& 255#64).toInt ≤ 255
  have h : (v.toBitVec &&& 255#64).toNat ≤ 255 := by rw [BitVec.toNat_and]; exact Nat.and_le_right
  rw [BitVec.toInt_eq_toNat_cond, if_pos (by omega)]; omega
theorem pc_i32 {x : Int64} (h : 0 ≤ x.toInt ∧ x.toInt ≤ 255) : x.toInt32.toInt = x.toInt := by
  rw [Int64.toInt_toInt32]
  rw [Int.bmod_eq_of_le] <;> omega
section Z6
variable {x1 x2 x3 x4 x5 x6 : Int32} {S M : gw_S}
theorem pn_pred {j : Nat} : nI (j + 1) - 1 = nI j := nI_pred j
theorem pn_addm {x : Int32} : x + -1 = x - 1 := (Int32.sub_eq_add_neg x 1).symm
theorem ze_t65 (v : Int64) : ∀ (j n t : Nat) (S : gw_S), j < n → t + j ≤ 60 → S 1 1 = nI t → j ≤ 8 → ∃ S1, f_X8_type_b65 n v (nI j - 1) S = some (nI (t + j), S1)
  | 0, n + 1, t, S, _, _, h, _ => by
    rw [f_X8_type_b65, if_pos (by decide), h]; exact ⟨_, rfl⟩
  | j + 1, n + 1, t, S, hn, ht, h, h8 => by
    rw [f_X8_type_b65, pn_pred, if_neg (pn_n0 (by omega))]
    unfold f_X8_byteOf f_X6_append
    rw [gw_bdS, h, if_neg (show ¬ (60 : Int32) ≤ nI t from pn_le (n := 60) (by omega) (by omega)), gw_gdT (pi_in (by omega) (by omega)), gw_letS, gw_letS, gw_bdS, gw_letS, pn_addm]
    obtain ⟨S1, e⟩ := ze_t65 v j n (t + 1) _ (by omega) (by omega) (show gw_up (gw_up S 2 (nI t).toNatClampNeg _) 1 1 (gw_up S 2 (nI t).toNatClampNeg _ 1 1 + 1) 1 1 = nI (t + 1) by
      show S 1 1 + 1 = nI (t + 1)
      rw [h, nI_1]) (by omega)
    rw [e]; exact ⟨S1, by congr 3; omega⟩
theorem ze_t74 (v : Int64) : ∀ (j n t : Nat) (S : gw_S), j < n → t + j ≤ 60 → S 0 5 = nI t → j ≤ 8 → ∃ S1, f_X9_type_b74 n v (nI j - 1) S = some (nI (t + j), S1)
  | 0, n + 1, t, S, _, _, h, _ => by
    rw [f_X9_type_b74, if_pos (by decide), h]; exact ⟨_, rfl⟩
  | j + 1, n + 1, t, S, hn, ht, h, h8 => by
    rw [f_X9_type_b74, pn_pred, if_neg (pn_n0 (by omega)), gw_gdT (by rw [h]; exact pi_in (by omega) (by omega)), gw_letS, gw_letS, gw_letS, pn_addm]
    obtain ⟨S1, e⟩ := ze_t74 v j n (t + 1) _ (by omega) (by omega) (show gw_up (gw_up S 5 (S 0 5).toNatClampNeg _) 0 5 (gw_up S 5 (S 0 5).toNatClampNeg _ 0 5 + 1) 0 5 = nI (t + 1) by
      show S 0 5 + 1 = nI (t + 1)
      rw [h, nI_1]) (by omega)
    rw [e]; exact ⟨S1, by congr 3; omega⟩
theorem ze_tloop (v : Int64) (x : Int32) : ∀ (j n : Nat), j ≤ 8 → j < n → (f_X8_type_b17 n v x (nI j - 1) S = some (-1, S) ∧ f_X9_type_b19 n v x (nI j - 1) M = some (-1, M)) ∨ (f_X8_type_b17 n v x (nI j - 1) S = gw_bd (f_X6_hasRoomFor x S) (fun r9 => (if r9 = 0 then some ((-3 : Int32), S) else gw_let ((x - (1 : Int32)) : Int32) (fun y12 => f_X8_type_b65 gw_F v y12 S))) ∧ f_X9_type_b19 n v x (nI j - 1) M = (if ((M 0 5) + x) ≤ (60 : Int32) then gw_let ((x - (1 : Int32)) : Int32) (fun y11 => f_X9_type_b74 gw_F v y11 M) else some ((-3 : Int32), M)))
  | 0, n + 1, _, _ => Or.inr ⟨by rw [f_X8_type_b17, if_pos (by decide)], by rw [f_X9_type_b19, if_pos (by decide)]⟩
  | j + 1, n + 1, hj, hn => by
    rw [f_X8_type_b17, f_X9_type_b19, pn_pred, if_neg (pn_n0 (by omega)), if_neg (pn_n0 (by omega))]
    unfold f_X8_byteOf
    rw [gw_bdS, ps_isIn, ps_br, ps_in64, ps_br, pc_b8 v j (by omega), pc_i32 (pc_r8 _), pz_32, pz_126, pq_32, pq_126, gw_letS, gw_letS, pn_addm]
    split
    · exact ze_tloop v x j n (by omega) (by omega)
    · exact Or.inl ⟨rfl, rfl⟩
theorem ze_type {v : Int64} : ∃ r S1 M1, f_X8_type v x3 z_S = some (r, S1) ∧ f_X9_type v x3 gw_zM = some (r, M1) := by
  unfold f_X8_type f_X9_type
  rw [ps_isIn, ps_br, ps_in, ps_br, pz_1, pz_8, pq_1, pq_8, gw_letS, gw_letS]
  by_cases h1 : 1 ≤ x3.toInt ∧ x3.toInt ≤ 8
  · rw [if_pos h1, if_pos h1]
    obtain ⟨j, hj, rfl⟩ := ps_nI (x := x3) (n := 8) (by omega) (by omega)
    rcases ze_tloop (S := z_S) (M := gw_zM) v (nI j) j gw_F hj (Nat.lt_of_le_of_lt hj (by decide)) with ⟨e1, e2⟩ | ⟨e1, e2⟩
    · rw [e1, e2]; exact zx rfl rfl rfl
    · rw [e1, e2]
      unfold f_X6_hasRoomFor
      have hd : ∀ j, j ≤ 8 → ¬ (60 : Int32) - 0 < nI j ∧ (0 : Int32) + nI j ≤ 60 := by decide
      rw [z_a.2.2.1, z_m.1, if_neg (hd j hj).1, gw_bdS, if_neg (by decide), if_pos (hd j hj).2, gw_letS, gw_letS]
      obtain ⟨S1, k1⟩ := ze_t65 v j gw_F 0 z_S (Nat.lt_of_le_of_lt hj (by decide)) (by omega) z_a.2.2.1 hj
      obtain ⟨M1, k2⟩ := ze_t74 v j gw_F 0 gw_zM (Nat.lt_of_le_of_lt hj (by decide)) (by omega) z_m.1 hj
      rw [k1, k2]; exact zx rfl rfl rfl
  · rw [if_neg h1, if_neg h1]; exact zx rfl rfl rfl
end Z6
section Z7
variable {x1 x2 x3 x4 x5 x6 : Int32} {S M : gw_S}
theorem pn_s {n k : Nat} (h : k + 1 ≤ n) : nI (n - (k + 1)) + (1 : Int32) = nI (n - k) := by rw [nI_1]; congr 1; omega
theorem ze_begin {a : Nat} (ha : a ≤ 3) (u w : Int32) : ∀ (k n : Nat) (S : gw_S), k ≤ 36 → k < n → ∃ S1, f_X5_begin_b2 n (nI a) u w (nI (36 - k)) S = some S1
  | 0, n + 1, S, _, _ => by
    rw [f_X5_begin_b2, if_pos (by decide), gw_gdT (by rw [nI_clamp (by omega)]; omega), gw_letS, gw_letS, gw_letS]; exact ⟨_, rfl⟩
  | k + 1, n + 1, S, hk, hn => by
    rw [f_X5_begin_b2, if_neg (show ¬ (36 : Int32) ≤ nI (36 - (k + 1)) from pn_le (n := 36) (by omega) (by omega)), gw_gdT (by rw [nI_clamp (by omega)]; omega), gw_gdT (pi_in (by omega) (by omega)), gw_letS, gw_letS, pn_s hk]
    exact ze_begin ha u w k n _ (by omega) (by omega)
theorem p_36 : ∀ a, a ≤ 3 → ∀ j, j < 36 → gw_in (36 * nI a + nI j) 144 := by decide
theorem ze_sh40 {a : Nat} (ha : a ≤ 3) (w : Int32) : ∀ (k n : Nat) (S : gw_S), k ≤ 36 → k < n → ∃ S1, f_X9_sheet_b40 n (nI a) w (nI (36 - k)) S = some (w, S1)
  | 0, n + 1, S, _, _ => by
    rw [f_X9_sheet_b40, if_pos (by decide)]; exact ⟨_, rfl⟩
  | k + 1, n + 1, S, hk, hn => by
    rw [f_X9_sheet_b40, if_neg (show ¬ (36 : Int32) ≤ nI (36 - (k + 1)) from pn_le (n := 36) (by omega) (by omega)), gw_gdT (p_36 a ha _ (by omega)), gw_letS, gw_letS, pn_s hk]
    exact ze_sh40 ha w k n _ (by omega) (by omega)
theorem ze_sheet : ∃ r S1 M1, f_X8_sheet x1 x2 x3 z_S = some (r, S1) ∧ f_X9_sheet x1 x2 x3 gw_zM = some (r, M1) := by
  unfold f_X8_sheet f_X9_sheet
  rw [ps_isSheet, ps_br, ps_isLane, ps_br, pm_isSheet, ps_br]
  by_cases h1 : 0 ≤ x1.toInt ∧ x1.toInt ≤ 3
  · by_cases h2 : 0 ≤ x2.toInt ∧ x2.toInt ≤ 2
    · rw [if_pos h1, if_pos h2, if_pos (show (0 ≤ x1.toInt ∧ x1.toInt ≤ 3) ∧ (0 ≤ x2.toInt ∧ x2.toInt ≤ 2) from ⟨h1, h2⟩)]
      obtain ⟨j, hj, rfl⟩ := ps_nI (n := 3) h1 (by omega)
      obtain ⟨S1, e1⟩ := ze_begin hj x2 x3 36 gw_F z_S (Nat.le_refl 36) (by decide)
      obtain ⟨M1, e2⟩ := ze_sh40 hj x3 36 gw_F (gw_up (gw_up gw_zM 43 (nI j).toNatClampNeg x2) 44 (nI j).toNatClampNeg x3) (Nat.le_refl 36) (by decide)
      rw [show nI (36 - 36) = (0 : Int32) from rfl] at e1 e2
      unfold f_X5_begin
      rw [gw_gdT (pi_in (by omega) (by omega)), gw_gdT (show (nI j).toNatClampNeg < 4 by rw [nI_clamp (by omega)]; omega), e1, gw_bdS, gw_gdT (pi_in (by omega) (by omega)), gw_letS, gw_letS, e2]
      by_cases h3 : x3 ≤ 36
      · rw [if_pos h3, if_pos h3]
        by_cases h4 : 0 ≤ x3
        · rw [if_pos h4, if_pos h4]; exact zx rfl rfl rfl
        · rw [if_neg h4, if_neg h4]; exact zx rfl rfl rfl
      · rw [if_neg h3, if_neg h3]; exact zx rfl rfl rfl
    · rw [if_pos h1, if_neg h2, if_neg (show ¬ ((0 ≤ x1.toInt ∧ x1.toInt ≤ 3) ∧ (0 ≤ x2.toInt ∧ x2.toInt ≤ 2)) from fun h => h2 h.2)]; exact zx rfl rfl rfl
  · rw [if_neg h1, if_neg (show ¬ ((0 ≤ x1.toInt ∧ x1.toInt ≤ 3) ∧ (0 ≤ x2.toInt ∧ x2.toInt ≤ 2)) from fun h => h1 h.1)]; exact zx rfl rfl rfl
/-- same -/
def z_P (c : Int32) (S : gw_S) : Prop := S 7 3 = c
theorem ps_spanOf : ∃ r, f_X3_spanOf x1 x2 S = some r := by
  unfold f_X3_spanOf
  rw [gw_letS]
  split
  · exact ⟨_, rfl⟩
  · rename_i h1
    split
    · exact ⟨_, rfl⟩
    · rename_i h2
      rw [gw_gdT (ps_gin (by rw [Int32.lt_iff_toInt_lt, Int32.toInt_zero] at h1; rw [Int32.le_iff_toInt_le, pz_36] at h2; omega))]
      exact ⟨_, rfl⟩
theorem ps_tighten {c : Int32} (h : z_P c S) : gw_wp (f_X3_tighten x1 x2 x3 S) (z_P c) := by
  unfold f_X3_tighten
  rw [gw_letS]
  split
  · exact gw_wpS h
  · rename_i h1
    split
    · exact gw_wpS h
    · rename_i h2
      rw [gw_gdT (ps_gin (by rw [Int32.lt_iff_toInt_lt, Int32.toInt_zero] at h1; rw [Int32.le_iff_toInt_le, pz_36] at h2; omega))]
      split
      · exact gw_wpS h
      · exact gw_wpS h
theorem ze_c63 {c : Int32} : ∀ (k n : Nat) (S : gw_S), k ≤ 6 → k < n → z_P c S → gw_wp (f_X3_close_b63 n (nI (6 - k)) S) (z_P c)
  | 0, n + 1, S, _, _, h => by rw [f_X3_close_b63, if_pos (by decide)]; exact gw_wpS h
  | k + 1, n + 1, S, hk, hn, h => by
    rw [f_X3_close_b63, if_neg (show ¬ (6 : Int32) ≤ nI (6 - (k + 1)) from pn_le (n := 6) (by omega) (by omega))]
    obtain ⟨r, e⟩ := ps_spanOf (S := S) (x1 := nI (6 - (k + 1))) (x2 := nI (6 - (k + 1)))
    rw [e, gw_bdS]
    unfold f_X3_close_b83
    simp only [gw_letS, pn_s hk]
    split
    · exact ze_c63 k n S (by omega) (by omega) h
    · exact ze_c63 k n _ (by omega) (by omega) h
theorem ze_c18 {c : Int32} {K2 : Int32 → gw_S → Option gw_S} {K10 : Int32 → Int32 → gw_S → Option gw_S} {v1 v2 : Int32} (hK : ∀ S, z_P c S → gw_wp (K10 v1 (v2 + 1) S) (z_P c)) : ∀ (k n : Nat) (S : gw_S), k ≤ 6 → k < n → z_P c S → gw_wp (f_X3_close_b18 K2 K10 n v1 v2 (nI (6 - k)) S) (z_P c)
  | 0, n + 1, S, _, _, h => by rw [f_X3_close_b18, if_pos (by decide), gw_letS]; exact hK S h
  | k + 1, n + 1, S, hk, hn, h => by
    rw [f_X3_close_b18, if_neg (show ¬ (6 : Int32) ≤ nI (6 - (k + 1)) from pn_le (n := 6) (by omega) (by omega))]
    obtain ⟨r, e⟩ := ps_spanOf (S := S) (x1 := v2) (x2 := v1)
    obtain ⟨r', e'⟩ := ps_spanOf (S := S) (x1 := v1) (x2 := nI (6 - (k + 1)))
    rw [e, gw_bdS, e', gw_bdS]
    refine gw_wpB (ps_tighten h) (fun S1 h1 => ?_)
    rw [gw_letS, pn_s hk]
    exact ze_c18 hK k n S1 (by omega) (by omega) h1
theorem ze_c10 {c : Int32} {K2 : Int32 → gw_S → Option gw_S} {v1 : Int32} (hK : ∀ S, z_P c S → gw_wp (K2 (v1 + 1) S) (z_P c)) : ∀ (k n : Nat) (S : gw_S), k ≤ 6 → k < n → z_P c S → gw_wp (f_X3_close_b10 K2 n v1 (nI (6 - k)) S) (z_P c)
  | 0, n + 1, S, _, _, h => by rw [f_X3_close_b10, if_pos (by decide), gw_letS]; exact hK S h
  | k + 1, n + 1, S, hk, hn, h => by
    rw [f_X3_close_b10, if_neg (show ¬ (6 : Int32) ≤ nI (6 - (k + 1)) from pn_le (n := 6) (by omega) (by omega))]
    refine ze_c18 (fun S1 h1 => ?_) 6 gw_F S (Nat.le_refl 6) (by decide) h
    rw [pn_s hk]
    exact ze_c10 hK k n S1 (by omega) (by omega) h1
theorem ze_c2 {c : Int32} : ∀ (k n : Nat) (S : gw_S), k ≤ 6 → k < n → z_P c S → gw_wp (f_X3_close_b2 n (nI (6 - k)) S) (z_P c)
  | 0, n + 1, S, _, _, h => by rw [f_X3_close_b2, if_pos (by decide)]; exact ze_c63 6 gw_F S (Nat.le_refl 6) (by decide) h
  | k + 1, n + 1, S, hk, hn, h => by
    rw [f_X3_close_b2, if_neg (show ¬ (6 : Int32) ≤ nI (6 - (k + 1)) from pn_le (n := 6) (by omega) (by omega))]
    refine ze_c10 (fun S1 h1 => ?_) 6 gw_F S (Nat.le_refl 6) (by decide) h
    rw [pn_s hk]
    exact ze_c2 k n S1 (by omega) (by omega) h1
theorem ze_re {c : Int32} : ∀ (k n : Nat) (S : gw_S), k ≤ 5 → k < n → z_P c S → gw_wp (f_X3_readEnds_b2 n (nI (6 - k)) S) (z_P c)
  | 0, n + 1, S, _, _, h => by rw [f_X3_readEnds_b2, if_pos (by decide)]; exact gw_wpS h
  | k + 1, n + 1, S, hk, hn, h => by
    have e56 : ∀ (r : Int32) (S : gw_S), z_P c S → gw_wp (f_X3_readEnds_b56 (f_X3_readEnds_b2 n) (nI (6 - (k + 1))) r (nI (6 - (k + 1))) S) (z_P c) := fun r S h => by
      unfold f_X3_readEnds_b56
      rw [gw_gdT (pi_in (by omega) (by omega)), gw_letS, gw_letS, pn_s (by omega)]
      exact ze_re k n _ (by omega) (by omega) h
    have e32 : ∀ (r : Int32) (S : gw_S), z_P c S → gw_wp (f_X3_readEnds_b32 (f_X3_readEnds_b2 n) (nI (6 - (k + 1))) r (nI (6 - (k + 1))) S) (z_P c) := fun r S h => by
      unfold f_X3_readEnds_b32
      rw [gw_gdT (pi_in (by omega) (by omega)), gw_letS]
      split
      · obtain ⟨r, e⟩ := ps_spanOf (S := gw_up S 9 (nI (6 - (k + 1))).toNatClampNeg r) (x1 := 0) (x2 := nI (6 - (k + 1)))
        rw [e, gw_bdS]
        exact e56 _ _ h
      · exact e56 _ _ h
    rw [f_X3_readEnds_b2, if_neg (show ¬ (6 : Int32) ≤ nI (6 - (k + 1)) from pn_le (n := 6) (by omega) (by omega))]
    split
    · obtain ⟨r, e⟩ := ps_spanOf (S := S) (x1 := nI (6 - (k + 1))) (x2 := 0)
      rw [e, gw_bdS]
      exact e32 _ _ h
    · exact e32 _ _ h
theorem ps_learn {c : Int32} (h : S 7 3 + 1 = c) : gw_wp (f_X3_learn x1 x2 x3 x4 S) (z_P c) := by
  unfold f_X3_learn
  rw [gw_letS]
  have h0 : z_P c (gw_up S 7 3 (S 7 3 + 1)) := h
  split
  · refine gw_wpB (ps_tighten h0) (fun S1 h1 => ?_)
    refine gw_wpB (ps_tighten h1) (fun S2 h2 => ?_)
    refine gw_wpB (ze_c2 6 gw_F S2 (Nat.le_refl 6) (by decide) h2) (fun S3 h3 => ?_)
    exact gw_wpB (ze_re 5 gw_F S3 (Nat.le_refl 5) (by decide) h3) (fun S4 h4 => gw_wpS h4)
  · exact gw_wpS h0
theorem ze_same : ∃ r S1 M1, f_X8_same x1 x2 x3 x4 z_S = some (r, S1) ∧ f_X9_same x1 x2 x3 x4 gw_zM = some (r, M1) := by
  unfold f_X8_same f_X9_same
  rw [ps_isMaker, ps_br, pm_isMaker, ps_br, ps_isMaker, ps_br, pm_isMaker, ps_br, ps_isLabel, ps_br, pm_isLabel, ps_br, ps_isLabel, ps_br, pm_isLabel, ps_br]
  by_cases h1 : 0 ≤ x1.toInt ∧ x1.toInt ≤ 5
  · rw [if_pos h1, if_pos h1]
    by_cases h3 : 0 ≤ x3.toInt ∧ x3.toInt ≤ 5
    · rw [if_pos h3, if_pos h3]
      by_cases h2 : 1 ≤ x2.toInt ∧ x2.toInt ≤ 40
      · rw [if_pos h2, if_pos h2]
        by_cases h4 : 1 ≤ x4.toInt ∧ x4.toInt ≤ 40
        · rw [if_pos h4, if_pos h4]
          by_cases h5 : x1 = x3
          · rw [if_pos h5, if_pos h5]; exact zx rfl rfl rfl
          · rw [if_neg h5, if_neg h5, if_pos (show z_S 7 3 < 20 by rw [z_a.2.2.2.1]; decide)]
            obtain ⟨S1, e1, p1⟩ := ps_learn (S := z_S) (x1 := x1) (x2 := x2) (x3 := x3) (x4 := x4) (c := 1) (by rw [z_a.2.2.2.1]; decide)
            have p1 : S1 7 3 = 1 := p1
            have h8 := z_m.2.2.2.1
            rw [e1, gw_bdS, p1, if_neg (show ¬ gw_zM 0 21 = 20 by rw [h8]; decide), gw_gdT (by rw [h8]; decide), gw_letS, gw_gdT (by show gw_in (gw_zM 0 21) 20; rw [h8]; decide), gw_letS, gw_gdT (by show gw_in (gw_zM 0 21) 20; rw [h8]; decide), gw_letS, gw_gdT (by show gw_in (gw_zM 0 21) 20; rw [h8]; decide), gw_letS, gw_letS]
            refine zx rfl rfl ?_
            show gw_zM 0 21 + 1 - 1 = 1 - 1
            rw [h8]; decide
        · rw [if_neg h4, if_neg h4]
          split <;> exact zx rfl rfl rfl
      · rw [if_neg h2, if_neg h2]
        split <;> exact zx rfl rfl rfl
    · rw [if_neg h3, if_neg h3]
      split <;> exact zx rfl rfl rfl
  · rw [if_neg h1, if_neg h1]; exact zx rfl rfl rfl
end Z7
