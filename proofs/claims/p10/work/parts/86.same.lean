section RSB
variable {w np nb t i j p c a b f nd : Nat} {S S0 M S' M' : gw_S} {x x1 x2 x3 x4 x5 x6 u z d v : Int32}
theorem so_same (h : rR w S M) : gw_ex w (f_X8_same x1 x2 x3 x4 S) (f_X9_same x1 x2 x3 x4 M) := by
  have h0 := h
  obtain ⟨np, nb, t, hA, hT, hY, hO, hS, hI, nd, hL⟩ := h
  unfold f_X8_same f_X9_same
  rw [ps_isMaker, ps_br, ps_isMaker, ps_br, ps_isLabel, ps_br, ps_isLabel, ps_br, pm_isMaker, ps_br, pm_isLabel, ps_br, pm_isMaker, ps_br, pm_isLabel, ps_br]
  by_cases c1 : 0 ≤ x1.toInt ∧ x1.toInt ≤ 5
  · rw [if_pos c1, if_pos c1]
    by_cases c2 : 0 ≤ x3.toInt ∧ x3.toInt ≤ 5
    · rw [if_pos c2, if_pos c2]
      by_cases c3 : 1 ≤ x2.toInt ∧ x2.toInt ≤ 40
      · rw [if_pos c3, if_pos c3]
        by_cases c4 : 1 ≤ x4.toInt ∧ x4.toInt ≤ 40
        · rw [if_pos c4, if_pos c4]
          by_cases c5 : x1 = x3
          · rw [if_pos c5, if_pos c5]; exact gx rfl h0
          · rw [if_neg c5, if_neg c5]
            obtain ⟨a, ha, rfl⟩ := ps_nI (n := 5) c1 (by omega)
            obtain ⟨b, hb, rfl⟩ := ps_nI (n := 5) c2 (by omega)
            have hnd := hL.1.1
            have e21 := hL.1.2.2
            rw [hL.1.2.1, e21]
            by_cases c6 : nd = 20
            · subst c6
              rw [if_neg (by decide), if_pos (by decide)]; exact gx rfl h0
            · obtain ⟨S1, e1, e2, e3⟩ := le_s hL (show nd < 20 by omega) (show a < 6 by omega) (show b < 6 by omega) (fun e => c5 (by rw [e])) c3 c4
              rw [if_pos (show nI nd < 20 from pn_lt (n := 20) (by omega) (by omega)), if_neg (show ¬ nI nd = 20 from fun e => c6 ((nI_eq (by omega) (by omega)).mp (show nI nd = nI 20 from e))), e1, gw_bdS]
              have g : gw_in (nI nd) 20 := pi_in (by omega) (by omega)
              have m1 : gw_up M 19 nd (nI a) 0 21 = nI nd := e21
              have m2 : gw_up (gw_up M 19 nd (nI a)) 20 nd x2 0 21 = nI nd := e21
              have m3 : gw_up (gw_up (gw_up M 19 nd (nI a)) 20 nd x2) 21 nd (nI b) 0 21 = nI nd := e21
              have m4 : gw_up (gw_up (gw_up (gw_up M 19 nd (nI a)) 20 nd x2) 21 nd (nI b)) 22 nd x4 0 21 = nI nd := e21
              rw [gw_gdT g, nI_clamp (by omega), gw_letS, m1, gw_gdT g, nI_clamp (by omega), gw_letS, m2, gw_gdT g, nI_clamp (by omega), gw_letS, m3, gw_gdT g, nI_clamp (by omega), gw_letS, m4, pn_a1, gw_letS, gw_upE, gw_rs, e2.1.2.1]
              refine gx rfl ⟨np, nb, t, hA.fr ?_ ?_ ?_ ?_ ?_ ?_ (fun i => ?_) (fun i => ?_) rfl rfl (fun k hk => ?_), hT.fr ?_ rfl rfl rfl, hY.fr ?_ ?_ rfl rfl, hO.fr ?_ rfl, hS.fr (fun k hk hk' => ?_) rfl rfl rfl, hI.fr ?_, nd + 1, e2⟩
              all_goals first | (rw [e3 _ (by omega) (by omega) (by omega) (by omega)]) | skip
              rw [gw_upN (by omega), gw_upN (by omega), gw_upN (by omega), gw_upN (by omega), gw_upN (by omega)]
        · rw [if_neg c4, if_neg c4]; split <;> exact gx rfl h0
      · rw [if_neg c3, if_neg c3]; split <;> exact gx rfl h0
    · rw [if_neg c2, if_neg c2]; split <;> exact gx rfl h0
  · rw [if_neg c1, if_neg c1]; exact gx rfl h0
end RSB
