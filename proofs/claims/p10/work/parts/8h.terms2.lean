section RTB
variable {w np nb t i j p q c a b f k : Nat} {S S0 S1 M M0 M1 S' M' : gw_S} {x x1 x2 x3 x4 x5 x6 u z v r cap e : Int32} {d : Nat → Int32}
def mFr (M M' : gw_S) : Prop := (∀ q, q ≠ 0 → q ≠ 4 → M' q = M q) ∧ ∀ i, i ≠ 6 → M' 0 i = M 0 i
def rEnd (S M : gw_S) (r : Int32) (S' M' : gw_S) (o : Option (Int32 × gw_S)) : Prop := (∀ q, q ≠ 5 → q ≠ 6 → S' q = S q) ∧ mFr M M' ∧ ((∃ m, m ≤ 8 ∧ r = nI m ∧ o = some (nI m, M') ∧ ∀ j, j < 8 → S' 5 j = M' 4 j ∧ rg 0 (gw_MST j).toInt (M' 4 j)) ∨ ∃ q, q ≤ 60 ∧ r = (-20 : Int32) - nI q ∧ M' 0 6 = nI q ∧ o = some (-1, M') ∧ S' 5 = S 5)
theorem mFr.at (v : Int32) : mFr M (gw_up M 0 6 v) := ⟨fun q h0 _ => gw_upN h0, fun i hi => by rw [gw_upE, gw_ru hi]⟩
theorem flt_neg (hq : q ≤ 60) : ¬ 0 ≤ (-20 : Int32) - nI q := by
  have z : (-20 : Int32).toInt = -20 := by decide
  rw [ps_leI, Int32.toInt_zero, pn_sbi (by omega) (by rw [nI_toInt (by omega)]; omega), nI_toInt (by omega), z]
  omega
theorem blF (hD : tD t d) (hp : p ≤ t) : ∃ q, p ≤ q ∧ q ≤ t ∧ (∀ S, tC t d S → f_X6_behindBlanks (nI p) S = some (nI q)) ∧ ∀ M, tM t d M → M 0 6 = nI p → f_X9_next M = some (sg t d q, gw_up M 0 6 (nI q)) := by
  have ht := hD.1
  obtain ⟨q, q1, q2, q3, q4⟩ := bl_l hD (t - p) p (by omega)
  have hF : t - p < gw_F := Nat.lt_of_le_of_lt (show t - p ≤ 60 by omega) (by decide)
  exact ⟨q, q1, q2, fun S h => q3 S gw_F h hF, fun M h h6 => q4 M gw_F h hF h6⟩
theorem rd_c (hD : tD t d) : ∀ (k n fu fu' p : Nat) (v2 : Int32) (S M : gw_S), n + k = 7 → k + 1 < fu → k + 1 < fu' → p ≤ t → v2 + 1 = nI p → tC t d S → tM t d M → M 0 6 = nI p → rQ S M → mL M → ∃ r S' M', f_X7_read_b15 fu v2 (nI (n + 1)) S = some (r, S') ∧ rEnd S M r S' M' (f_X9_readAll_b35 fu' (nI n) 1 M)
  | k, n, fu + 2, fu' + 2, p, v2, S, M, hn, hfu, hfu', hp, hv2, hC, hM, h6, hQ, hL => by
    have ht := hD.1
    obtain ⟨q1, a1, a2, a3, a4⟩ := blF hD hp
    obtain ⟨r, b1, b2, b3⟩ := pl_o (S := S) (show mL (gw_up M 0 6 (nI q1)) from hL) (sg t d q1)
    rw [f_X7_read_b15, f_X9_readAll_b35, if_neg pn_10, if_neg (show ¬ (8 : Int32) < nI (n + 1) by rw [ps_ltI, pz_8, nI_toInt (by omega)]; omega), hv2, a4 M hM h6, gw_b2S, b2, gw_bdS]
    unfold f_X7_readClause
    rw [a3 S hC, gw_bdS, hC.sign hD a2, gw_bdS, b1, gw_bdS]
    have flt : ∀ q, q ≤ 60 → ∀ M2, mFr M M2 → M2 0 6 = nI q → ∃ r S' M', gw_b2 (some ((-20 : Int32) - nI q, S)) (fun r2 S3 => (if 0 ≤ r2 then (if r2 < (S3 1 1) then gw_bd (f_X6_signAt r2 S3) (fun r7 => (if r7 = (59 : Int32) then gw_let (nI (n + 1) + (1 : Int32) : Int32) (fun y10 => (f_X7_read_b15 (fu + 1)) r2 y10 S3) else some (((-20 : Int32) - r2), S3))) else gw_bd (f_X7_copy_6_5 S3) (fun S12 => some (nI (n + 1), S12))) else some (r2, S3))) = some (r, S') ∧ rEnd S M r S' M' (some (-1, M2)) := fun q hq M2 h1 h2 => by
      rw [gw_b2S, if_neg (flt_neg hq)]
      exact ⟨_, S, M2, rfl, fun _ _ _ => rfl, h1, Or.inr ⟨q, hq, rfl, h2, rfl, rfl⟩⟩
    rcases b3 with e | ⟨j, hj, e, eL⟩
    · rw [e, if_neg (by decide), if_neg (by decide)]
      exact flt q1 (by omega) _ (mFr.at _) (by rw [gw_upE, gw_rs])
    · have hq1 : q1 < t := by
        by_cases c : q1 < t
        · exact c
        · unfold sg at eL; rw [if_neg c] at eL; exact absurd eL (let_no j hj)
      have hcap := mst_r j hj
      obtain ⟨q2, c1, c2, c3, c4⟩ := blF hD (show q1 + 1 ≤ t by omega)
      obtain ⟨q3, d1, d2, d3, d4⟩ := dg_l hD hcap (t - q2) q2 (by omega)
      have hF2 : t - q2 < gw_F := Nat.lt_of_le_of_lt (show t - q2 ≤ 60 by omega) (by decide)
      obtain ⟨c', v', e1, e2, e3⟩ := d4 0 0 (Or.inl ⟨rfl, by rw [Int32.toInt_zero]; omega, by rw [Int32.toInt_zero]; omega⟩)
      have m1 : gw_up (gw_up M 0 6 (nI q1)) 0 6 (gw_up M 0 6 (nI q1) 0 6 + 1) = gw_up M 0 6 (nI (q1 + 1)) := by rw [gw_upE, gw_rs, pn_a1, up_up]
      have numb : f_X9_number (gw_MST j) (gw_up M 0 6 (nI (q1 + 1))) = f_X9_number_b90 (gw_MST j) (sg t d q2) (nI q2) v' (gw_up M 0 6 (nI q3)) := by
        unfold f_X9_number
        rw [c4 _ (hM.at _) (by rw [gw_upE, gw_rs]), gw_b2S, gw_letS, up_up, gw_upE, gw_rs, e3 _ gw_F _ _ (hM.at _) hF2 (by rw [gw_upE, gw_rs]), up_up]
      have digs : f_X6_behindDigits (nI q2) S = some (nI q3) := d3 S gw_F hC hF2
      have cnum : f_X6_numberIn (nI q2) (nI q3) (gw_MST j) S = some c' := e2 S gw_F hC hF2
      rw [e, if_pos (pn_p0 (by omega)), if_pos (pn_p0 (by omega)), pn_a1, c3 S hC, gw_bdS, digs, gw_bdS, gw_letS, gw_gdT (pi_in hj (by omega)), gw_gdT (pi_in hj (by omega)), m1, nI_clamp (show j < 2 ^ 31 by omega), (show gw_up M 0 6 (nI (q1 + 1)) 2 j = gw_MST j from (hL j hj).2), numb, cnum, gw_bdS]
      unfold f_X9_number_b90 f_X9_number_b108
      rw [gw_letS, up_up, gw_upE, gw_rs]
      by_cases g1 : q3 = q2
      · subst g1
        rw [if_pos rfl, if_pos rfl, ite_self, gw_letS, gw_b2S (r := (-1 : Int32)), if_neg (show ¬ (0 : Int32) ≤ -1 by decide)]
        exact flt q3 (by omega) _ (mFr.at _) (by rw [gw_upE, gw_rs])
      · have hq2 : q2 < t := by omega
        have neq : ¬ nI q3 = nI q2 := fun e => g1 ((nI_eq (by omega) (by omega)).mp e)
        have sg2 : ¬ sg t d q2 < 0 := by
          unfold sg; rw [if_pos hq2, ps_ltI, Int32.toInt_zero]
          have := hD.2 q2 hq2; unfold rg at this; omega
        rw [if_neg neq, if_neg sg2, if_neg neq]
        rcases e1 with ⟨ev, v0, v1⟩ | ⟨ec, ev⟩
        · subst ev
          have le : c' ≤ gw_MST j := by rw [ps_leI]; exact v1
          have c0 : 0 ≤ c' := by rw [ps_leI, Int32.toInt_zero]; exact v0
          obtain ⟨q4, g2, g3, g4, g5⟩ := blF hD d2
          have hC' : tC t d (gw_up S 6 j c') := hC
          have hM' : tM t d (gw_up (gw_up M 0 6 (nI q3)) 4 j c') := hM
          rw [if_pos le, if_pos le, gw_b2S, if_pos c0, gw_letS, gw_letS, g4 _ hC', gw_bdS, gw_b2S, if_pos (pn_p0 (by omega)), g5 _ hM' (by rw [gw_upN (show 0 ≠ 4 by omega), gw_upE, gw_rs]), gw_b2S, (show gw_up S 6 j c' 1 1 = nI t from hC.1), hC'.sign hD g3, gw_bdS, pn_a1]
          obtain ⟨M5, eM5⟩ : ∃ M5, gw_up (gw_up (gw_up M 0 6 (nI q3)) 4 j c') 0 6 (nI q4) = M5 := ⟨_, rfl⟩
          have f5 : mFr M M5 := by
            rw [← eM5]
            exact ⟨fun q h0 h4 => by rw [gw_upN h0, gw_upN h4, gw_upN h0], fun i hi => by rw [gw_upE, gw_ru hi, gw_upN (show 0 ≠ 4 by omega), gw_upE, gw_ru hi]⟩
          have h56 : M5 0 6 = nI q4 := by rw [← eM5, gw_upE, gw_rs]
          have h54 : M5 4 = upd (M 4) j c' := by rw [← eM5, gw_upN (show 4 ≠ 0 by omega), gw_upE, gw_upN (show 4 ≠ 0 by omega)]
          have hQ5 : ∀ j', j' < 8 → gw_up S 6 j c' 6 j' = M5 4 j' ∧ rg 0 (gw_MST j').toInt (M5 4 j') := fun j' hj' => by
            rw [gw_upE, h54]
            by_cases e : j' = j
            · subst e; rw [gw_rs, gw_rs]; exact ⟨rfl, v0, v1⟩
            · rw [gw_ru e, gw_ru e]; exact hQ j' hj'
          rw [eM5]
          unfold f_X9_readAll_b120 f_X9_readAll_b130 f_X9_readAll_b145
          have z0 : nI q4 + (0 : Int32) = nI q4 := Int32.add_zero _
          rw [h56]
          simp only [gw_letS, z0, pn_a1]
          by_cases g6 : q4 < t
          · have sg4 : sg t d q4 = d q4 := by unfold sg; rw [if_pos g6]
            have n4 : ¬ d q4 < 0 := by
              rw [ps_ltI, Int32.toInt_zero]
              have := hD.2 q4 g6; unfold rg at this; omega
            rw [sg4, if_pos (pn_lt g6 (by omega)), if_neg n4, if_neg n4, if_neg pn_10]
            by_cases g7 : d q4 = 59
            · rw [if_pos g7, if_pos g7]
              cases k with
              | zero =>
                have n7 : n = 7 := by omega
                subst n7
                rw [if_pos (by decide), f_X7_read_b15, if_pos (by decide)]
                exact ⟨_, _, M5, rfl, fun q h5 h6 => gw_upN h6, f5, Or.inr ⟨q4, by omega, rfl, h56, rfl, rfl⟩⟩
              | succ k =>
                rw [if_neg (show ¬ nI (n + 1) = 8 from fun e => by have := (nI_eq (b := 8) (by omega) (by omega)).mp (show nI (n + 1) = nI 8 from e); omega)]
                have hC6 : tC t d (gw_up S 6 j c') := hC
                obtain ⟨r, S', M', k1, k2, k3, k4⟩ := rd_c hD k (n + 1) (fu + 1) (fu' + 1) (q4 + 1) (nI q4) (gw_up S 6 j c') (gw_up M5 0 6 (nI (q4 + 1))) (by omega) (by omega) (by omega) (by omega) pn_a1 hC6 ⟨by rw [gw_upE, gw_ru (by omega), f5.2 5 (by omega)]; exact hM.1, fun i hi => by rw [gw_upN (by omega), f5.1 5 (by omega) (by omega)]; exact hM.2 i hi⟩ (by rw [gw_upE, gw_rs]) hQ5 (fun j' hj' => by rw [gw_upN (show 1 ≠ 0 by omega), gw_upN (show 2 ≠ 0 by omega), f5.1 1 (by omega) (by omega), f5.1 2 (by omega) (by omega)]; exact hL j' hj')
                refine ⟨r, S', M', k1, fun q h5 h6 => by rw [k2 q h5 h6, gw_upN h6], ⟨fun q h0 h4 => by rw [k3.1 q h0 h4, gw_upN h0, f5.1 q h0 h4], fun i hi => by rw [k3.2 i hi, gw_upE, gw_ru hi, f5.2 i hi]⟩, ?_⟩
                rcases k4 with h | ⟨q, q1, q2, q3, q4, q5⟩
                · exact Or.inl h
                · exact Or.inr ⟨q, q1, q2, q3, q4, by rw [q5, gw_upN (show 5 ≠ 6 by omega)]⟩
            · rw [if_neg g7, if_neg g7]
              exact ⟨_, _, M5, rfl, fun q h5 h6 => gw_upN h6, f5, Or.inr ⟨q4, by omega, rfl, h56, rfl, rfl⟩⟩
          · have sg4 : sg t d q4 = -1 := by unfold sg; rw [if_neg g6]
            obtain ⟨S9, s1, s2, s3⟩ := cp_65 8 gw_F (gw_up S 6 j c') (Nat.le_refl 8) (by decide)
            rw [Nat.sub_self, show nI 0 = (0 : Int32) from rfl] at s1
            unfold f_X7_copy_6_5
            rw [sg4, if_neg (show ¬ nI q4 < nI t by rw [ps_ltI, nI_toInt (by omega), nI_toInt (by omega)]; omega), s1, gw_bdS, if_pos (show (-1 : Int32) < 0 by decide), if_pos (show (-1 : Int32) < 0 by decide), if_pos trivial, up_id h56, f_X9_readAll_b35, if_pos rfl]
            refine ⟨_, S9, M5, rfl, fun q h5 h6 => by rw [s2 q h5, gw_upN h6], f5, Or.inl ⟨n + 1, by omega, rfl, rfl, fun j' hj' => ?_⟩⟩
            rw [s3 j' hj', if_pos (by omega)]
            exact hQ5 j' hj'
        · have nle : ¬ c' ≤ gw_MST j := by rw [ps_leI]; omega
          have nle' : ¬ v' ≤ gw_MST j := by rw [ps_leI]; omega
          rw [if_neg nle, if_neg nle', gw_letS, gw_b2S (r := (-1 : Int32)), if_neg (show ¬ (0 : Int32) ≤ -1 by decide)]
          exact flt q2 (by omega) _ (mFr.at _) (by rw [gw_upE, gw_rs])
theorem so_terms (h : rR w S M) : gw_ex w (f_X8_terms S) (f_X9_terms M) := by
  obtain ⟨np, nb, t, hA, hT, hY, hO, hS, hI, hL⟩ := h
  have hD : tD t (M 5) := ⟨hY.1, fun i hi => (hY.2.2.2 i hi).2⟩
  obtain ⟨S1, s1, s2, s3⟩ := cp_56 8 gw_F S (Nat.le_refl 8) (by decide)
  obtain ⟨M1, m1, m2, m3⟩ := cp_34 (v := 0) 8 gw_F (gw_up M 0 6 0) (Nat.le_refl 8) (by decide)
  rw [Nat.sub_self, show nI 0 = (0 : Int32) from rfl] at s1 m1
  have hC1 : tC t (M 5) S1 := ⟨by rw [s2 1 (by omega)]; exact hY.2.1, fun i hi => by rw [s2 2 (by omega)]; exact (hY.2.2.2 i hi).1⟩
  have hM1 : tM t (M 5) M1 := ⟨by rw [m2 0 (by omega)]; exact hY.2.2.1, fun i hi => by rw [m2 5 (by omega)]; rfl⟩
  have h61 : M1 0 6 = nI 0 := by rw [m2 0 (by omega)]; rfl
  have hQ1 : rQ S1 M1 := fun j hj => by
    rw [s3 j hj, m3 j hj, if_pos (by omega), if_pos (by omega)]
    exact ⟨(hT j hj).1, (hT j hj).2.1⟩
  have hL1 : mL M1 := fun j hj => by
    rw [m2 1 (by omega), m2 2 (by omega)]
    exact ⟨(hT j hj).2.2.1, (hT j hj).2.2.2⟩
  obtain ⟨r, S2, M2, k1, k2, k3, k4⟩ := rd_c hD 7 0 gw_F gw_F 0 (-1) S1 M1 rfl (by decide) (by decide) (Nat.zero_le t) (by decide) hC1 hM1 h61 hQ1 hL1
  have fs : ∀ q, q ≠ 5 → q ≠ 6 → S2 q = S q := fun q h5 h6 => by rw [k2 q h5 h6, s2 q h6]
  have fm : ∀ q, q ≠ 0 → q ≠ 4 → M2 q = M q := fun q h0 h4 => by rw [k3.1 q h0 h4, m2 q h4, gw_upN h0]
  have fm0 : ∀ i, i ≠ 6 → M2 0 i = M 0 i := fun i hi => by rw [k3.2 i hi, m2 0 (by omega), gw_upE, gw_ru hi]
  unfold f_X8_terms f_X7_read f_X7_copy_5_6 f_X6_clear f_X9_terms f_X9_readAll
  rw [show nI (0 + 1) = (1 : Int32) from rfl] at k1
  rw [s1, gw_bdS, k1, gw_b2S, gw_letS, gw_bdS, gw_letS, m1]
  -- the rest of what stands between the two
  have fin : ∀ M3 : gw_S, (∀ q, q ≠ 0 → q ≠ 3 → q ≠ 4 → M3 q = M q) → (∀ i, i ≠ 5 → i ≠ 6 → M3 0 i = M 0 i) → M3 0 5 = 0 → rT (gw_up S2 1 1 0) M3 → rR w (gw_up S2 1 1 0) M3 := fun M3 q0 q1 q5 hT3 => by
    have g : ∀ k, k ≠ 1 → k ≠ 5 → k ≠ 6 → gw_up S2 1 1 0 k = S k := fun k h1 h5 h6 => by rw [gw_upN h1, fs k h5 h6]
    exact ⟨np, nb, 0, hA.fr (by rw [g 3 (by omega) (by omega) (by omega)]) (by rw [g 3 (by omega) (by omega) (by omega)]) (by rw [g 29 (by omega) (by omega) (by omega)]) (by rw [g 29 (by omega) (by omega) (by omega)]) (g 12 (by omega) (by omega) (by omega)) (g 13 (by omega) (by omega) (by omega)) (fun i => g _ (by omega) (by omega) (by omega)) (fun i => g _ (by omega) (by omega) (by omega)) (q1 8 (by omega) (by omega)) (q1 29 (by omega) (by omega)) (fun k hk => q0 k (by omega) (by omega) (by omega)), hT3, ⟨Nat.zero_le 60, by rw [gw_upE, gw_rs]; rfl, q5, fun i hi => absurd hi (by omega)⟩, hO.fr (g 11 (by omega) (by omega) (by omega)) (q0 6 (by omega) (by omega) (by omega)), hS.fr (fun k h1 h2 => g k (by omega) (by omega) (by omega)) (q0 43 (by omega) (by omega) (by omega)) (q0 44 (by omega) (by omega) (by omega)) (q0 45 (by omega) (by omega) (by omega)), hI.fr (g 14 (by omega) (by omega) (by omega)), hL.fr (g 7 (by omega) (by omega) (by omega)) (g 8 (by omega) (by omega) (by omega)) (g 9 (by omega) (by omega) (by omega)) (g 10 (by omega) (by omega) (by omega)) (q1 21 (by omega) (by omega)) (q0 19 (by omega) (by omega) (by omega)) (q0 20 (by omega) (by omega) (by omega)) (q0 21 (by omega) (by omega) (by omega)) (q0 22 (by omega) (by omega) (by omega))⟩
  rcases k4 with ⟨m, hm, e1, e2, e3⟩ | ⟨q, hq, e1, e2, e3, e4⟩
  · rw [e1]
    rw [show nI 0 = (0 : Int32) from rfl] at e2
    rw [e2, gw_b2S, gw_letS, if_pos (pn_p0 (by omega))]
    obtain ⟨M3, n1, n2, n3⟩ := cp_43 (v := nI m) 8 gw_F (gw_up M2 0 5 0) (Nat.le_refl 8) (by decide)
    rw [Nat.sub_self, show nI 0 = (0 : Int32) from rfl] at n1
    rw [n1]
    refine gx rfl (fin M3 (fun q h0 h3 h4 => by rw [n2 q h3, gw_upN h0, fm q h0 h4]) (fun i h5 h6 => by rw [n2 0 (by omega), gw_upE, gw_ru h5, fm0 i h6]) (by rw [n2 0 (by omega), gw_upE, gw_rs]) (fun j hj => ?_))
    rw [n3 j hj, if_pos (by omega), gw_upN (show 5 ≠ 1 by omega), gw_upN (show 4 ≠ 0 by omega), n2 1 (by omega), n2 2 (by omega), gw_upN (show 1 ≠ 0 by omega), gw_upN (show 2 ≠ 0 by omega), fm 1 (by omega) (by omega), fm 2 (by omega) (by omega)]
    exact ⟨(e3 j hj).1, (e3 j hj).2, (hT j hj).2.2⟩
  · rw [e1]
    rw [show nI 0 = (0 : Int32) from rfl] at e3
    rw [e3, gw_b2S, gw_letS, if_neg (show ¬ (0 : Int32) ≤ -1 by decide), gw_upE, gw_ru (show 6 ≠ 5 by omega), e2]
    refine gx rfl (fin _ (fun q h0 h3 h4 => by rw [gw_upN h0, fm q h0 h4]) (fun i h5 h6 => by rw [gw_upE, gw_ru h5, fm0 i h6]) (by rw [gw_upE, gw_rs]) (hT.fr (by rw [gw_upN (show 5 ≠ 1 by omega), e4, s2 5 (by omega)]) (by rw [gw_upN (show 1 ≠ 0 by omega), fm 1 (by omega) (by omega)]) (by rw [gw_upN (show 2 ≠ 0 by omega), fm 2 (by omega) (by omega)]) (by rw [gw_upN (show 3 ≠ 0 by omega), fm 3 (by omega) (by omega)])))
end RTB
