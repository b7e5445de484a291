section RCD
variable {w np nb t i j p c a b f nd : Nat} {S S0 M M0 S' M' : gw_S} {x x1 x2 x3 x4 x5 x6 u z d v tt : Int32} {so : Nat → Nat → Int32}
theorem cC.sR1 (h : cC w np nb S M) : sR (fun b p => aSrc M p b) np nb := ⟨h.1.1.1.2, fun b hb p hp => by
  rcases h.srcR hp hb with q | q | ⟨c, hc, q, -⟩
  · exact Or.inl q
  · exact Or.inr (Or.inl q)
  · exact Or.inr (Or.inr ⟨c, hc, q⟩)⟩
theorem cC.sR2 (h : cC w np nb S M) : sR (aSo M f) np nb := ⟨h.1.1.1.2, fun b hb p hp => by
  unfold aSo
  split
  · exact h.sR1.2 b hb p hp
  · exact Or.inl rfl⟩
/-- the table that is read, and how near -/
def nK (so : Nat → Nat → Int32) (np nb : Nat) (S : gw_S) : Prop := (∀ j, j < nb → ∀ p, p < np → S 16 (24 * j + p) = so j p) ∧ ∀ j, j < nb → rg 0 99 (S 17 j)
theorem nK.source (h : nK so np nb S) (hR : sR so np nb) (hnp : np ≤ 24) (hj : j < nb) (hp : p < np) : f_X1_sourceOf (nI j) (nI p) S = some (so j p) := by
  have hnb := hR.1
  unfold f_X1_sourceOf
  rw [p_mul24 j (by omega) p (by omega), gw_letS, if_neg (pn_n0 (by omega)), if_neg (show ¬ (720 : Int32) ≤ nI (24 * j + p) from pn_le (n := 720) (by omega) (by omega)), gw_gdT (pi_in (by omega) (by omega)), nI_clamp (by omega), h.1 j hj p hp]
theorem nearOf (hj : j < 30) : f_X1_nearestOf (nI j) S = some (S 17 j) := by
  unfold f_X1_nearestOf
  rw [if_neg (pn_n0 (by omega)), if_neg (show ¬ (30 : Int32) ≤ nI j from pn_le (n := 30) hj (by omega)), gw_gdT (pi_in hj (by omega)), nI_clamp (by omega)]
theorem nearNo (h : v < 0) : f_X1_nearestOf v S = some 99 := by unfold f_X1_nearestOf; rw [if_pos h]
/-- how near what a step leads to -/
theorem nK.nr (h : nK so np nb S) (hR : sR so np nb) (hj : j < nb) (hp : p < np) : ∃ r, f_X1_nearestOf (so j p) S = some r ∧ rg 0 99 r ∧ ∀ c, c < nb → so j p = nI c → r = S 17 c := by
  have hnb := hR.1
  have neg : ∀ v : Int32, v < 0 → so j p = v → ∃ r, f_X1_nearestOf (so j p) S = some r ∧ rg 0 99 r ∧ ∀ c, c < nb → so j p = nI c → r = S 17 c := fun v hv e => ⟨99, by rw [e]; exact nearNo hv, ⟨by decide, by decide⟩, fun c hc e2 => by rw [e] at e2; rw [e2] at hv; exact absurd hv (pn_n0 (by omega))⟩
  rcases hR.2 j hj p hp with e | e | ⟨c, hc, e⟩
  · exact neg _ (by decide) e
  · exact neg _ (by decide) e
  · refine ⟨S 17 c, by rw [e]; exact nearOf (by omega), h.2 c hc, fun c' hc' e2 => ?_⟩
    rw [e] at e2
    rw [(nI_eq (by omega) (by omega)).mp e2]
theorem sp_i {K2 : Int32 → gw_S → Option gw_S} (hR : sR so np nb) (hnp : np ≤ 24) (hj : j < nb) : ∀ (k n : Nat) (S : gw_S), k ≤ np → k < n → S 3 6 = nI np → nK so np nb S → ∃ S1, f_X1_spreadNearest_b15 K2 n (nI j) (nI (np - k)) S = K2 (nI (j + 1)) S1 ∧ (∀ r, r ≠ 17 → S1 r = S r) ∧ (∀ q, q ≠ j → S1 17 q = S 17 q) ∧ (0 ≤ (S1 17 j).toInt ∧ (S1 17 j).toInt ≤ (S 17 j).toInt) ∧ ∀ p c, np - k ≤ p → p < np → c < nb → so j p = nI c → (S1 17 j).toInt ≤ (S 17 c).toInt + 1
  | 0, n + 1, S, _, _, h36, h => by
    have h17 := h.2 j hj
    rw [f_X1_spreadNearest_b15, h36, if_pos (nI_le (by omega) (by omega)), gw_letS, pn_a1]
    exact ⟨S, rfl, fun _ _ => rfl, fun _ _ => rfl, ⟨h17.1, Int.le_refl _⟩, fun p c h1 h2 => absurd h2 (by omega)⟩
  | k + 1, n + 1, S, hk, hn, h36, h => by
    have hnb := hR.1
    obtain ⟨p, ep⟩ : ∃ p, np - (k + 1) = p := ⟨_, rfl⟩
    have hp : p < np := by omega
    have e1 : nI p + (1 : Int32) = nI (np - k) := by rw [← ep]; exact pn_s hk
    obtain ⟨r, n1, n2, n3⟩ := h.nr hR hj hp
    have h17 := h.2 j hj
    unfold rg at n2 h17
    have er : (r + 1).toInt = r.toInt + 1 := by rw [pn_add (by omega) (by rw [pz_1]; omega), pz_1]
    rw [ep, f_X1_spreadNearest_b15, h36, if_neg (pn_le hp (by omega)), h.source hR hnp hj hp, gw_bdS, n1, gw_bdS, gw_letS, nearOf (by omega), gw_bdS]
    unfold f_X1_spreadNearest_b55
    by_cases c1 : S 17 j ≤ r + 1
    · rw [if_pos c1, gw_letS, e1]
      rw [ps_leI, er] at c1
      obtain ⟨S1, b1, b2, b3, b4, b5⟩ := sp_i (K2 := K2) hR hnp hj k n S (by omega) (by omega) h36 h
      refine ⟨S1, b1, b2, b3, b4, fun p' c h1 h2 hc he => ?_⟩
      by_cases e : p' = p
      · subst e; rw [← n3 c hc he]; omega
      · exact b5 p' c (by omega) h2 hc he
    · rw [if_neg c1, gw_gdT (pi_in (show j < 30 by omega) (by omega)), gw_letS, nI_clamp (by omega), gw_letS, e1]
      rw [ps_leI, er] at c1
      have h' : nK so np nb (gw_up S 17 j (r + 1)) := ⟨fun j' hj' p' hp' => h.1 j' hj' p' hp', fun j' hj' => by
        rw [gw_upE]
        by_cases e : j' = j
        · subst e; rw [gw_rs]; unfold rg; rw [er]; omega
        · rw [gw_ru e]; exact h.2 j' hj'⟩
      obtain ⟨S1, b1, b2, b3, b4, b5⟩ := sp_i (K2 := K2) hR hnp hj k n (gw_up S 17 j (r + 1)) (by omega) (by omega) h36 h'
      rw [gw_upE, gw_rs, er] at b4
      refine ⟨S1, b1, fun q hq => by rw [b2 q hq, gw_upN hq], fun q hq => by rw [b3 q hq, gw_upE, gw_ru hq], ⟨b4.1, by omega⟩, fun p' c h1 h2 hc he => ?_⟩
      by_cases e : p' = p
      · subst e; rw [← n3 c hc he]; omega
      · have := b5 p' c (by omega) h2 hc he
        rw [gw_upE] at this
        by_cases e2 : c = j
        · subst e2; rw [gw_rs, er] at this; omega
        · rw [gw_ru e2] at this; exact this
theorem sp_o (hR : sR so np nb) (hnp : np ≤ 24) (S0 : gw_S) : ∀ (k n : Nat) (S : gw_S), k ≤ nb → k < n → S 3 6 = nI np → S 3 7 = nI nb → nK so np nb S → (∀ j, j < nb → (S 17 j).toInt ≤ (S0 17 j).toInt) → (∀ j, j < nb - k → ∀ p c, p < np → c < nb → so j p = nI c → (S 17 j).toInt ≤ (S0 17 c).toInt + 1) → ∃ S1, f_X1_spreadNearest_b2 n (nI (nb - k)) S = some S1 ∧ (∀ r, r ≠ 17 → S1 r = S r) ∧ nK so np nb S1 ∧ (∀ j, j < nb → (S1 17 j).toInt ≤ (S0 17 j).toInt) ∧ ∀ j, j < nb → ∀ p c, p < np → c < nb → so j p = nI c → (S1 17 j).toInt ≤ (S0 17 c).toInt + 1
  | 0, n + 1, S, _, _, h36, h37, h, hm, hd => by
    have hnb := hR.1
    rw [f_X1_spreadNearest_b2, h37, if_pos (nI_le (by omega) (by omega))]
    exact ⟨S, rfl, fun _ _ => rfl, h, hm, fun j hj => hd j (by omega)⟩
  | k + 1, n + 1, S, hk, hn, h36, h37, h, hm, hd => by
    have hnb := hR.1
    obtain ⟨j, ej⟩ : ∃ j, nb - (k + 1) = j := ⟨_, rfl⟩
    have hj : j < nb := by omega
    have e1 : j + 1 = nb - k := by omega
    obtain ⟨S2, a1, a2, a3, a4, a5⟩ := sp_i (K2 := f_X1_spreadNearest_b2 n) hR hnp hj np gw_F S (Nat.le_refl np) (Nat.lt_of_le_of_lt hnp (by decide)) h36 h
    rw [Nat.sub_self, show nI 0 = (0 : Int32) from rfl] at a1
    rw [Nat.sub_self] at a5
    have h2 : nK so np nb S2 := ⟨fun j' hj' p' hp' => by rw [a2 16 (by omega)]; exact h.1 j' hj' p' hp', fun j' hj' => by
      by_cases e : j' = j
      · subst e; have := h.2 j' hj'; unfold rg at *; omega
      · rw [a3 j' e]; exact h.2 j' hj'⟩
    have mono : ∀ j', j' < nb → (S2 17 j').toInt ≤ (S 17 j').toInt := fun j' hj' => by
      by_cases e : j' = j
      · subst e; exact a4.2
      · rw [a3 j' e]; exact Int.le_refl _
    obtain ⟨S1, b1, b2, b3, b4, b5⟩ := sp_o hR hnp S0 k n S2 (by omega) (by omega) (by rw [a2 3 (by omega)]; exact h36) (by rw [a2 3 (by omega)]; exact h37) h2 (fun j' hj' => by have := mono j' hj'; have := hm j' hj'; omega) (fun j' hj' p c hp hc he => by
      by_cases e : j' = j
      · subst e
        have := a5 p c (Nat.zero_le p) hp hc he
        have := hm c hc
        omega
      · rw [a3 j' e]; exact hd j' (by omega) p c hp hc he)
    rw [ej, f_X1_spreadNearest_b2, h37, if_neg (pn_le hj (by omega)), a1, e1, b1]
    exact ⟨S1, rfl, fun r hr => by rw [b2 r hr, a2 r hr], b3, b4, b5⟩
/-- no way is longer than it says, up to so many swaps -/
def nS (so : Nat → Nat → Int32) (np nb m : Nat) (S : gw_S) : Prop := ∀ s, s ≤ m → ∀ j, j < nb → pT so np nb s j → (S 17 j).toInt ≤ s
theorem sp_1 (hR : sR so np nb) (hnp : np ≤ 24) {m : Nat} (h36 : S 3 6 = nI np) (h37 : S 3 7 = nI nb) (h : nK so np nb S) (hs : nS so np nb m S) : ∃ S1, f_X1_spreadNearest S = some S1 ∧ (∀ r, r ≠ 17 → S1 r = S r) ∧ nK so np nb S1 ∧ nS so np nb (m + 1) S1 := by
  have hnb := hR.1
  obtain ⟨S1, b1, b2, b3, b4, b5⟩ := sp_o hR hnp S nb gw_F S (Nat.le_refl nb) (Nat.lt_of_le_of_lt hnb (by decide)) h36 h37 h (fun _ _ => Int.le_refl _) (fun j hj => absurd hj (by omega))
  rw [Nat.sub_self, show nI 0 = (0 : Int32) from rfl] at b1
  refine ⟨S1, b1, b2, b3, fun s hs1 j hj hp => ?_⟩
  cases s with
  | zero => have := hs 0 (Nat.zero_le m) j hj hp; have := b4 j hj; omega
  | succ s =>
    obtain ⟨p, c, h1, h2, h3, h4⟩ := hp
    have := hs s (by omega) c h2 h4
    have := b5 j hj p c h1 h2 h3
    omega
theorem sp_n (hR : sR so np nb) (hnp : np ≤ 24) {ms : Nat} (hms : ms ≤ 3) (hf : f < nb) : ∀ (k n : Nat) (S : gw_S), k ≤ ms → k < n → S 3 6 = nI np → S 3 7 = nI nb → S 29 1 = nI nb → S (2 * f + 31) 0 = nI f → nK so np nb S → nS so np nb (ms - k) S → ∃ S1, f_X1_find_b56 n (nI f) (nI ms) (nI (ms - k)) S = f_X1_find_b83 gw_F (nI ms) 0 (gw_up S1 18 0 (nI f)) ∧ (∀ r, r ≠ 17 → S1 r = S r) ∧ nK so np nb S1 ∧ nS so np nb ms S1
  | 0, n + 1, S, _, _, h36, h37, h29, h0, h, hs => by
    have hnb := hR.1
    have cf : (nI f).toNatClampNeg = f := nI_clamp (by omega)
    have g : (nI f).toNatClampNeg < gw_nb S := by unfold gw_nb; rw [h29, cf, nI_clamp (by omega)]; exact hf
    rw [f_X1_find_b56, if_pos (nI_le (by omega) (by omega)), gw_gdT (pn_m1 (by omega)), gw_gdT g, gw_letS]
    rw [cf, h0]
    exact ⟨S, rfl, fun _ _ => rfl, h, hs⟩
  | k + 1, n + 1, S, hk, hn, h36, h37, h29, h0, h, hs => by
    obtain ⟨m, em⟩ : ∃ m, ms - (k + 1) = m := ⟨_, rfl⟩
    have e1 : nI m + (1 : Int32) = nI (ms - k) := by rw [← em]; exact pn_s hk
    rw [em] at hs
    obtain ⟨S2, a1, a2, a3, a4⟩ := sp_1 hR hnp h36 h37 h hs
    rw [show m + 1 = ms - k by omega] at a4
    obtain ⟨S1, b1, b2, b3, b4⟩ := sp_n hR hnp hms hf k n S2 (by omega) (by omega) (by rw [a2 3 (by omega)]; exact h36) (by rw [a2 3 (by omega)]; exact h37) (by rw [a2 29 (by omega)]; exact h29) (by rw [a2 _ (by omega)]; exact h0) a3 a4
    rw [em, f_X1_find_b56, if_neg (pn_le (by omega) (by omega)), a1, gw_bdS, gw_letS, e1, b1]
    exact ⟨S1, rfl, fun r hr => by rw [b2 r hr, a2 r hr], b3, b4⟩
end RCD
