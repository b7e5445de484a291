theorem zs_pieceAt {x : Int32} {S : gw_S} (h : S 3 6 = 0) : f_X2_pieceAt x S = some (-1) := by
  unfold f_X2_pieceAt
  rw [h]
  by_cases h1 : x < 0
  · rw [if_pos h1]
  · rw [if_neg h1, if_pos (by rw [Int32.le_iff_toInt_le]; rw [Int32.lt_iff_toInt_lt] at h1; omega)]
theorem zs_bookingAt {x : Int32} {S : gw_S} (h : S 3 7 = 0) : f_X2_bookingAt x S = some (-1) := by
  unfold f_X2_bookingAt
  rw [h]
  by_cases h1 : x < 0
  · rw [if_pos h1]
  · rw [if_neg h1, if_pos (by rw [Int32.le_iff_toInt_le]; rw [Int32.lt_iff_toInt_lt] at h1; omega)]
theorem pz_q : ((0 : Int32) - 1).toInt64.toInt = -1 := by decide
theorem zm_isPiece {x : Int32} {S : gw_S} (h : S 0 8 = 0) : f_X9_isPiece x S = some 0 := by
  unfold f_X9_isPiece
  rw [h, ps_in, gw_bdS, ps_z, if_neg (by rw [pz_q, pq_0]; omega)]
theorem zm_isThere {x : Int32} {S : gw_S} (h : S 0 29 = 0) : f_X9_isThere x S = some 0 := by
  unfold f_X9_isThere
  rw [h, ps_in, gw_bdS, ps_z, if_neg (by rw [pz_q, pq_0]; omega)]
theorem zl_22 {f1 f2 : Option (Int32 × gw_S)} {r : Int32} {S1 M1 : gw_S} {K : gw_S → gw_S → Option Int32} (h1 : f1 = some (r, S1)) (h2 : f2 = some (r, M1)) (hK : ∀ S M, K S M = some 1) : gw_b2 f1 (fun r1 S1 => gw_b2 f2 (fun r2 M1 => if r1 = r2 then K S1 M1 else some 0)) = some 1 := by
  subst h1; subst h2; simp [gw_b2, hK]
theorem zl_11 {f1 f2 : Option Int32} {r : Int32} {S1 M1 : gw_S} {K : gw_S → gw_S → Option Int32} (h1 : f1 = some r) (h2 : f2 = some r) (hK : ∀ S M, K S M = some 1) : gw_bd f1 (fun r1 => gw_bd f2 (fun r2 => if r1 = r2 then K S1 M1 else some 0)) = some 1 := by
  subst h1; subst h2; simp [gw_bd, hK]
theorem zl_12 {f1 : Option Int32} {f2 : Option (Int32 × gw_S)} {r : Int32} {S1 M1 : gw_S} {K : gw_S → gw_S → Option Int32} (h1 : f1 = some r) (h2 : f2 = some (r, M1)) (hK : ∀ S M, K S M = some 1) : gw_bd f1 (fun r1 => gw_b2 f2 (fun r2 M1 => if r1 = r2 then K S1 M1 else some 0)) = some 1 := by
  subst h1; subst h2; simp [gw_bd, gw_b2, hK]
theorem ps_br0 {β : Type} {c : Prop} [Decidable c] {r : Int32} {X Y : Option β} : gw_bd (some (-1 : Int32)) (fun r => if r = -1 then X else Y) = X := by simp [gw_bd]
section Z
variable {S M : gw_S} {x1 x2 x3 x4 : Int32}
theorem zs_hem (h : S 3 6 = 0) : f_X8_hem x1 x2 S = some (-1, S) := by unfold f_X8_hem; rw [zs_pieceAt h, gw_bdS, if_pos rfl]
theorem zm_hem (h : M 0 8 = 0) : f_X9_hem x1 x2 M = some (-1, M) := by unfold f_X9_hem; rw [zm_isPiece h, gw_bdS, if_pos rfl]
theorem zs_told (h : S 3 6 = 0) : f_X8_told x1 x2 S = some (-1) := by unfold f_X8_told; rw [zs_pieceAt h, gw_bdS, if_pos rfl]
theorem zm_told (h : M 0 8 = 0) : f_X9_told x1 x2 M = some (-1) := by unfold f_X9_told; rw [zm_isPiece h, gw_bdS, if_pos rfl]
theorem zs_fits (h : S 3 6 = 0) : f_X8_fits x1 x2 x3 S = some (-1) := by unfold f_X8_fits; rw [zs_pieceAt h, gw_bdS, if_pos rfl]
theorem zm_fits (h : M 0 8 = 0) : f_X9_fits x1 x2 x3 M = some (-1, M) := by unfold f_X9_fits; rw [zm_isPiece h, gw_bdS, if_pos rfl]
theorem zs_off (h : S 3 7 = 0) : f_X8_off x1 x2 S = some (-1, S) := by unfold f_X8_off; rw [zs_bookingAt h, gw_bdS, if_pos rfl]
theorem zm_off (h : M 0 29 = 0) : f_X9_off x1 x2 M = some (-1, M) := by unfold f_X9_off; rw [zm_isThere h, gw_bdS, if_pos rfl]
theorem zs_give (h : S 3 7 = 0) : f_X8_give x1 S = some (-1, S) := by unfold f_X8_give; rw [zs_bookingAt h, gw_bdS, if_pos rfl]
theorem zm_give (h : M 0 29 = 0) : f_X9_give x1 M = some (-1, M) := by unfold f_X9_give; rw [zm_isThere h, gw_bdS, if_pos rfl]
theorem zs_has (h : S 3 7 = 0) : f_X8_has x1 S = some (-1) := by unfold f_X8_has; rw [zs_bookingAt h, gw_bdS, if_pos rfl]
theorem zm_has (h : M 0 29 = 0) : f_X9_has x1 M = some (-1) := by unfold f_X9_has; rw [zm_isThere h, gw_bdS, if_pos rfl]
theorem zs_free (h : S 3 6 = 0) (h7 : S 3 7 = 0) : f_X8_free x1 x2 S = some (-1) := by unfold f_X8_free; rw [zs_pieceAt h, gw_bdS, zs_bookingAt h7, gw_bdS, if_pos rfl]
theorem zm_free (h : M 0 8 = 0) : f_X9_free x1 x2 M = some (-1) := by unfold f_X9_free; rw [zm_isPiece h, gw_bdS, if_pos rfl]
theorem zs_away (h : S 3 6 = 0) (h7 : S 3 7 = 0) : f_X8_away x1 x2 x3 S = some (-1) := by unfold f_X8_away; rw [zs_pieceAt h, gw_bdS, zs_bookingAt h7, gw_bdS, if_pos rfl]
theorem zm_away (h : M 0 8 = 0) : f_X9_away x1 x2 x3 M = some (-1) := by unfold f_X9_away; rw [zm_isPiece h, gw_bdS, if_pos rfl]
theorem zs_tear (h : S 3 6 = 0) : f_X8_tear x1 x2 S = some (-1, S) := by unfold f_X8_tear; rw [zs_pieceAt h, gw_bdS, if_pos rfl]
theorem zm_tear (h : M 0 8 = 0) : f_X9_tear x1 x2 M = some (-1, M) := by unfold f_X9_tear; rw [zm_isPiece h, gw_bdS, if_pos rfl]
theorem zs_mend (h : S 3 6 = 0) : f_X8_mend x1 S = some (-1, S) := by unfold f_X8_mend; rw [zs_pieceAt h, gw_bdS, if_pos rfl]
theorem zm_mend (h : M 0 8 = 0) : f_X9_mend x1 M = some (-1, M) := by unfold f_X9_mend; rw [zm_isPiece h, gw_bdS, if_pos rfl]
theorem zs_chain (h : S 3 7 = 0) : f_X8_chain x1 S = some (-1, S) := by unfold f_X8_chain; rw [zs_bookingAt h, gw_bdS, if_pos rfl]
theorem zm_chain (h : M 0 29 = 0) : f_X9_chain x1 M = some (-1, M) := by unfold f_X9_chain; rw [zm_isThere h, gw_bdS, if_pos rfl]
theorem zs_link (h : S 3 7 = 0) : f_X8_link x1 x2 x3 S = some (-1, S) := by
  unfold f_X8_link
  rw [zs_chain h, gw_b2S, ps_isIn, ps_br, if_neg (show ¬ (0 : Int32) ≤ -1 by decide)]
  split
  · rfl
  · split <;> rfl
theorem zm_link (h : M 0 29 = 0) : f_X9_link x1 x2 x3 M = some (-1, M) := by unfold f_X9_link; rw [zm_isThere h, gw_bdS, if_pos rfl]
theorem zs_swap (h : S 3 7 = 0) : f_X8_swap x1 S = some (-1, S) := by unfold f_X8_swap; rw [zs_chain h, gw_b2S, if_pos (by decide)]
theorem zm_swap (h : M 0 29 = 0) : f_X9_swap x1 M = some (-1, M) := by unfold f_X9_swap; rw [zm_isThere h, gw_bdS, if_pos rfl]
theorem zs_out (h : S 3 7 = 0) : f_X8_out x1 x2 S = some (-1, S) := by unfold f_X8_out; rw [zs_bookingAt h, gw_bdS, if_pos rfl]
theorem zm_out (h : M 0 29 = 0) : f_X9_out x1 x2 M = some (-1, M) := by unfold f_X9_out; rw [zm_isThere h, gw_bdS, if_pos rfl]
theorem zs_home (h : S 3 7 = 0) : f_X8_home x1 x2 x3 S = some (-1000001, S) := by unfold f_X8_home; rw [zs_bookingAt h, gw_bdS, if_pos rfl]
theorem zm_home (h : M 0 29 = 0) : f_X9_home x1 x2 x3 M = some (-1000001, M) := by unfold f_X9_home; rw [zm_isThere h, gw_bdS, if_pos rfl]
theorem zs_about (h : S 3 7 = 0) : f_X8_about x1 x2 S = some (-1) := by unfold f_X8_about; rw [zs_bookingAt h, gw_bdS, if_pos rfl]
theorem zm_about (h : M 0 29 = 0) : f_X9_about x1 x2 M = some (-1) := by unfold f_X9_about; rw [zm_isThere h, gw_bdS, if_pos rfl]
theorem zs_retire (h : S 3 6 = 0) : f_X8_retire x1 S = some (-1, S) := by unfold f_X8_retire; rw [zs_pieceAt h, gw_bdS, if_pos rfl]
theorem zm_retire (h : M 0 8 = 0) : f_X9_retire x1 M = some (-1, M) := by unfold f_X9_retire; rw [zm_isPiece h, gw_bdS, if_pos rfl]
end Z
def gw_zL : gw_S := (f_X3_init_t (fun _ _ => 0)).getD (fun _ _ => 0)
def gw_zH : gw_S := (f_X2_init_t (gw_SH gw_zL)).getD (fun _ _ => 0)
def gw_zM : gw_S := (f_X9_init_t gw_SM).getD (fun _ _ => 0)
set_option maxRecDepth 100000 in
theorem gw_zLi : (f_X3_init_t (fun _ _ => 0)).isSome = true := by decide +kernel
set_option maxRecDepth 100000 in
theorem gw_zMi : (f_X9_init_t gw_SM).isSome = true := by decide +kernel
set_option maxRecDepth 100000 in
theorem gw_zHi : (f_X2_init_t (gw_SH gw_zL)).isSome = true := by decide +kernel
theorem gw_isS {α : Type} {o : Option α} {x : α} (h : o.isSome = true) : o = some (o.getD x) := by cases o with | none => cases h | some y => rfl
theorem gw_zLe : f_X3_init_t (fun _ _ => 0) = some gw_zL := gw_isS gw_zLi
theorem gw_zHe : f_X2_init_t (gw_SH gw_zL) = some gw_zH := gw_isS gw_zHi
theorem gw_zMe : f_X9_init_t gw_SM = some gw_zM := gw_isS gw_zMi
def z_S : gw_S := gw_SG gw_zH
theorem z_a : z_S 3 6 = 0 ∧ z_S 3 7 = 0 ∧ z_S 1 1 = 0 ∧ z_S 7 3 = 0 ∧ z_S 7 4 = 0 := by decide +kernel
theorem z_b : ∀ i, i < 8 → z_S 5 i = gw_zM 3 i := by decide +kernel
theorem z_c : ∀ i, i < 8 → gw_LET i = gw_zM 1 i := by decide +kernel
theorem z_d : ∀ i, i < 81 → z_S 11 i = gw_zM 6 i := by decide +kernel
def gw_zN : gw_S := (f_X9_findLies gw_zM).getD (fun _ _ => 0)
set_option maxRecDepth 100000 in
theorem gw_zNi : (f_X9_findLies gw_zM).isSome = true := by decide +kernel
theorem gw_zNe : f_X9_findLies gw_zM = some gw_zN := gw_isS gw_zNi
theorem z_m : gw_zM 0 5 = 0 ∧ gw_zM 0 8 = 0 ∧ gw_zM 0 29 = 0 ∧ gw_zM 0 21 = 0 ∧ gw_zN 0 28 = 0 := by decide +kernel
theorem z_lo : ∀ i, i < 6 → z_S 9 i = gw_zN 23 i := by decide +kernel
theorem z_hi : ∀ i, i < 6 → z_S 10 i = gw_zN 24 i := by decide +kernel
set_option maxRecDepth 100000 in
theorem z_terms : (f_X8_terms z_S).isSome = true ∧ (f_X9_terms gw_zM).isSome = true ∧ ((f_X8_terms z_S).getD (0, fun _ _ => 0)).1 = ((f_X9_terms gw_zM).getD (0, fun _ _ => 0)).1 := by decide +kernel
theorem zl_ex {f1 f2 : Option (Int32 × gw_S)} {d1 d2 : Int32 × gw_S} (h : f1.isSome = true ∧ f2.isSome = true ∧ (f1.getD d1).1 = (f2.getD d2).1) : ∃ r S1 M1, f1 = some (r, S1) ∧ f2 = some (r, M1) := by
  obtain ⟨h1, h2, h3⟩ := h
  cases f1 with
  | none => cases h1
  | some a => cases f2 with
    | none => cases h2
    | some b => exact ⟨a.1, a.2, b.2, rfl, by rw [show a.1 = b.1 from h3]⟩
theorem zl_22x {f1 f2 : Option (Int32 × gw_S)} {K : gw_S → gw_S → Option Int32} (h : ∃ r S1 M1, f1 = some (r, S1) ∧ f2 = some (r, M1)) (hK : ∀ S M, K S M = some 1) : gw_b2 f1 (fun r1 S1 => gw_b2 f2 (fun r2 M1 => if r1 = r2 then K S1 M1 else some 0)) = some 1 := by
  obtain ⟨r, S1, M1, h1, h2⟩ := h
  exact zl_22 h1 h2 hK
theorem zl_12x {f1 : Option Int32} {f2 : Option (Int32 × gw_S)} {S1 : gw_S} {K : gw_S → gw_S → Option Int32} (h : ∃ r M1, f1 = some r ∧ f2 = some (r, M1)) (hK : ∀ S M, K S M = some 1) : gw_bd f1 (fun r1 => gw_b2 f2 (fun r2 M1 => if r1 = r2 then K S1 M1 else some 0)) = some 1 := by
  obtain ⟨r, M1, h1, h2⟩ := h
  exact zl_12 h1 h2 hK
theorem zl_11x {f1 : Option Int32} {f2 : Option Int32} {S1 M1 : gw_S} {K : gw_S → gw_S → Option Int32} (h : ∃ r, f1 = some r ∧ f2 = some r) (hK : ∀ S M, K S M = some 1) : gw_bd f1 (fun r1 => gw_bd f2 (fun r2 => if r1 = r2 then K S1 M1 else some 0)) = some 1 := by
  obtain ⟨r, h1, h2⟩ := h
  exact zl_11 h1 h2 hK
theorem zx {f1 f2 : Option (Int32 × gw_S)} {r r' : Int32} {S1 M1 : gw_S} (h1 : f1 = some (r, S1)) (h2 : f2 = some (r', M1)) (e : r' = r) : ∃ r S1 M1, f1 = some (r, S1) ∧ f2 = some (r, M1) := ⟨r, S1, M1, h1, by rw [h2, e]⟩
theorem gw_gdX {β : Type} {c : Prop} {i : Decidable c} {k : Option β} (h : c) : @gw_gd β c i k = k := by unfold gw_gd; rw [if_pos h]
section Z2
variable {x1 x2 x3 x4 x5 x6 : Int32}
theorem ze_terms : ∃ r S1 M1, f_X8_terms z_S = some (r, S1) ∧ f_X9_terms gw_zM = some (r, M1) := zl_ex z_terms
theorem ze_quarrel : ∃ r M1, f_X8_quarrel z_S = some r ∧ f_X9_quarrel gw_zM = some (r, M1) := by
  refine ⟨0, gw_zN, ?_, ?_⟩
  · unfold f_X8_quarrel; rw [if_pos z_a.2.2.2.2]
  · unfold f_X9_quarrel; rw [gw_zNe, gw_bdS, if_pos z_m.2.2.2.2]
theorem pn_n0 {j : Nat} (h : j < 2 ^ 31) : ¬ nI j < 0 := by rw [Int32.lt_iff_toInt_lt, nI_toInt h, Int32.toInt_zero]; omega
theorem pn_le {j n : Nat} (h : j < n) (hn : n < 2 ^ 31) : ¬ nI n ≤ nI j := by rw [Int32.le_iff_toInt_le, nI_toInt hn, nI_toInt (by omega)]; omega
theorem ps_low {S : gw_S} {j : Nat} (h : j < 6) : f_X3_low (nI j) S = some (S 9 j) := by
  unfold f_X3_low
  rw [if_neg (pn_n0 (by omega)), if_neg (show ¬ (6 : Int32) ≤ nI j from pn_le (n := 6) h (by omega)), gw_gdT (ps_gin (by rw [nI_toInt (by omega)]; omega)), nI_clamp (by omega)]
theorem ps_high {S : gw_S} {j : Nat} (h : j < 6) : f_X3_high (nI j) S = some (S 10 j) := by
  unfold f_X3_high
  rw [if_neg (pn_n0 (by omega)), if_neg (show ¬ (6 : Int32) ≤ nI j from pn_le (n := 6) h (by omega)), gw_gdT (ps_gin (by rw [nI_toInt (by omega)]; omega)), nI_clamp (by omega)]
theorem ze_lie : ∃ r M1, f_X8_lie x1 x2 z_S = some r ∧ f_X9_lie x1 x2 gw_zM = some (r, M1) := by
  unfold f_X8_lie f_X9_lie
  rw [ps_isMaker, ps_br, pm_isMaker, ps_br, ps_isIn, ps_br, ps_in, ps_br, gw_zNe, gw_bdS]
  by_cases h1 : 0 ≤ x1.toInt ∧ x1.toInt ≤ 5
  · rw [if_pos h1, if_pos h1]
    obtain ⟨j, hj, rfl⟩ := ps_nI (n := 5) h1 (by omega)
    rw [pz_0, pz_1, pq_0, pq_1, ps_low (by omega), ps_high (by omega), gw_gdT (ps_gin (by rw [nI_toInt (by omega)]; omega)), gw_gdT (ps_gin (by rw [nI_toInt (by omega)]; omega)), nI_clamp (by omega), ← z_lo j (by omega), ← z_hi j (by omega), gw_bdS, gw_bdS]
    by_cases h2 : 0 ≤ x2.toInt ∧ x2.toInt ≤ 1
    · rw [if_pos h2, if_pos h2]
      by_cases h3 : x2 = 0
      · rw [if_pos h3, if_pos h3]; exact ⟨_, _, rfl, rfl⟩
      · rw [if_neg h3, if_neg h3]; exact ⟨_, _, rfl, rfl⟩
    · rw [if_neg h2, if_neg h2]; exact ⟨_, _, rfl, rfl⟩
  · rw [if_neg h1, if_neg h1]; exact ⟨_, _, rfl, rfl⟩
theorem ze_drop : ∃ r S1 M1, f_X8_drop x1 z_S = some (r, S1) ∧ f_X9_drop x1 gw_zM = some (r, M1) := by
  unfold f_X8_drop f_X9_drop
  rw [ps_isSheet, ps_br, ps_in, ps_br, pq_0, pq_3]
  by_cases h1 : 0 ≤ x1.toInt ∧ x1.toInt ≤ 3
  · rw [if_pos h1, if_pos h1]
    obtain ⟨j, hj, rfl⟩ := ps_nI (n := 3) h1 (by omega)
    have hz : ∀ j, j ≤ 3 → z_S (21 + j) 1 = 0 ∧ ¬ 0 ≤ gw_zM 43 j := by decide +kernel
    have hg : gw_in (nI j) 4 := ps_gin (by rw [nI_toInt (by omega)]; omega)
    rw [gw_gdT hg, gw_gdT hg, gw_gdT (show (nI j).toNatClampNeg < 4 by rw [nI_clamp (by omega)]; omega), nI_clamp (by omega), if_pos (hz j hj).1, if_neg (hz j hj).2]
    exact ⟨_, _, _, rfl, rfl⟩
  · rw [if_neg h1, if_neg h1]; exact ⟨_, _, _, rfl, rfl⟩
end Z2
