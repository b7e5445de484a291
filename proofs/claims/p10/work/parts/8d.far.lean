section RCF
variable {w np nb t i j p c a b f nd pl ms : Nat} {S S0 M M0 S' M' : gw_S} {x x1 x2 x3 x4 x5 x6 u z d v l r : Int32} {T : List Nat}
theorem gv_s (h : cC w np nb S M) (hi : i < np) (hj : j < nb) {K9 : Int32 → Int32 → Int32 → Int32 → Int32 → Option Int32} : ∃ v2 l2, f_X9_givenOf_b33 M K9 (nI j) (-1) v l (nI i) = f_X9_givenOf_b134 M K9 (nI j) (-1) v2 l2 (nI i) ∧ ((v2 = v ∧ (aSrc M i j = -1 → ¬ v < 0)) ∨ v2 = nI i) := by
  obtain ⟨fv, hv, -, a2, -, a4, -, -⟩ := h.src hi hj
  have e := h.last hi hj
  have hA := h.1
  obtain ⟨fr, g0, -, g2⟩ := hA.free h.2.1 h.2.2.1 hi hj
  obtain ⟨m, sz, hm, em, s1, s2⟩ := hA.offM h.2.2.2 hi hj
  obtain ⟨-, p2, p3⟩ := hA.po h.2.2.1 hi hj
  rw [a2, gw_bdS, g2, gw_bdS] at e
  unfold f_X9_givenOf_b33 f_X9_givenOf_b127
  rw [gw_gdT (hA.inb hj)]
  simp only [hA.cb hj]
  rw [a2, gw_bdS, g2, gw_bdS, gw_gdT (hA.inp hi), hA.cp hi, em, gw_gdT (pi_in hm (by omega)), nI_clamp (by omega), s1, gw_bdS, p2, gw_bdS, gw_letS]
  by_cases c1 : fv = 2
  · rw [if_pos c1] at e
    rw [if_pos c1]
    by_cases c2 : fr = 0
    · rw [if_pos c2] at e
      rw [if_pos c2]
      refine ⟨v, l, rfl, Or.inl ⟨rfl, fun q => ?_⟩⟩
      rw [if_pos q] at e
      exact absurd e (by decide)
    · rw [if_neg c2]
      by_cases c3 : v < 0
      · rw [if_pos c3]; exact ⟨_, _, rfl, Or.inr rfl⟩
      · rw [if_neg c3]
        split
        · exact ⟨_, _, rfl, Or.inl ⟨rfl, fun _ => c3⟩⟩
        · exact ⟨_, _, rfl, Or.inr rfl⟩
  · rw [if_neg c1] at e
    rw [if_neg c1]
    refine ⟨v, l, rfl, Or.inl ⟨rfl, fun q => ?_⟩⟩
    rw [if_pos q] at e
    exact absurd e (by decide)
theorem gv_l (h : cC w np nb S M) (hj : j < nb) : ∀ (q n : Nat) (v l : Int32), q ≤ np → q < n → ∃ r, f_X9_givenOf_b9 M n (nI j) (-1) v l (nI (np - q)) = some r ∧ (r < 0 → v < 0 ∧ ∀ i, np - q ≤ i → i < np → ¬ aSrc M i j = -1)
  | 0, n + 1, v, l, _, _ => by
    have hnp := h.1.1.1.1
    rw [f_X9_givenOf_b9, h.1.1.2.2.1.1, if_pos (nI_le (by omega) (by omega))]
    exact ⟨v, rfl, fun q => ⟨q, fun i h1 h2 => absurd h2 (by omega)⟩⟩
  | q + 1, n + 1, v, l, hq, hn => by
    have hnp := h.1.1.1.1
    obtain ⟨i, ei⟩ : ∃ i, np - (q + 1) = i := ⟨_, rfl⟩
    have hi : i < np := by omega
    have e1 : nI i + (1 : Int32) = nI (np - q) := by rw [← ei]; exact pn_s hq
    obtain ⟨v2, l2, a1, a2⟩ := gv_s (v := v) (l := l) (K9 := f_X9_givenOf_b9 M n) h hi hj
    rw [ei, f_X9_givenOf_b9, h.1.1.2.2.1.1, if_neg (pn_le hi (by omega)), if_pos (show (-1 : Int32) < 0 by decide), a1]
    unfold f_X9_givenOf_b134
    rw [gw_letS, e1]
    obtain ⟨r, b1, b2⟩ := gv_l h hj q n v2 l2 (by omega) (by omega)
    refine ⟨r, b1, fun hr => ?_⟩
    obtain ⟨k1, k2⟩ := b2 hr
    rcases a2 with ⟨e2, a3⟩ | e2
    · rw [e2] at k1
      refine ⟨k1, fun i' h1 h2 => ?_⟩
      by_cases e : i' = i
      · subst e; exact fun q => a3 q k1
      · exact k2 i' (by omega) h2
    · rw [e2] at k1; exact absurd k1 (pn_n0 (by omega))
/-- from a start: from whom, by BOOKING -/
def oS (M : gw_S) (b p : Nat) : Int32 := aSrc M p b
theorem fin_l (h0 : cC w np nb S M0) : ∀ (k n : Nat) (M : gw_S), k ≤ nb → k < n → (∀ r, r ≠ 39 → M r = M0 r) → (∀ j, j < nb - k → (M 39 j = 1 ∨ M 39 j = 1000) ∧ (pT (oS M0) np nb 0 j → M 39 j = 1)) → ∃ M1, f_X9_findFar_b2 n (nI (nb - k)) M = f_X9_findFar_b40 gw_F 1 M1 ∧ (∀ r, r ≠ 39 → M1 r = M0 r) ∧ ∀ j, j < nb → (M1 39 j = 1 ∨ M1 39 j = 1000) ∧ (pT (oS M0) np nb 0 j → M1 39 j = 1)
  | 0, n + 1, M, _, _, hM, hd => by
    have hnb := h0.1.1.1.2
    have e29 : M 0 29 = nI nb := by rw [hM 0 (by omega)]; exact h0.1.1.2.2.1.2
    rw [f_X9_findFar_b2, e29, if_pos (nI_le (by omega) (by omega))]
    exact ⟨M, rfl, hM, fun j hj => hd j (by omega)⟩
  | k + 1, n + 1, M, hk, hn, hM, hd => by
    have hnb := h0.1.1.1.2
    have hnp := h0.1.1.1.1
    obtain ⟨j, ej⟩ : ∃ j, nb - (k + 1) = j := ⟨_, rfl⟩
    have hj : j < nb := by omega
    have e1 : nI j + (1 : Int32) = nI (nb - k) := by rw [← ej]; exact pn_s hk
    have e29 : M 0 29 = nI nb := by rw [hM 0 (by omega)]; exact h0.1.1.2.2.1.2
    have p0 : ∀ r, ¬ (39 ≤ r ∧ r ≤ 42) → M r = M0 r := fun r hr => hM r (by omega)
    have h : cC w np nb S M := h0.scr (fun _ _ => rfl) p0
    obtain ⟨r, g1, g2⟩ := gv_l h hj np gw_F (-4) 0 (Nat.le_refl np) (Nat.lt_of_le_of_lt hnp (by decide))
    rw [Nat.sub_self, show nI 0 = (0 : Int32) from rfl] at g1
    rw [Nat.sub_self] at g2
    have go : ∀ y : Int32, (y = 1 ∨ y = 1000) → (pT (oS M0) np nb 0 j → y = 1) → ∃ M1, f_X9_findFar_b31 (f_X9_findFar_b2 n) (nI j) y (nI j) M = f_X9_findFar_b40 gw_F 1 M1 ∧ (∀ r, r ≠ 39 → M1 r = M0 r) ∧ ∀ j, j < nb → (M1 39 j = 1 ∨ M1 39 j = 1000) ∧ (pT (oS M0) np nb 0 j → M1 39 j = 1) := fun y hy hy2 => by
      unfold f_X9_findFar_b31
      rw [gw_gdT (pi_in (show j < 30 by omega) (by omega)), gw_letS, gw_letS, nI_clamp (by omega), e1]
      refine fin_l h0 k n (gw_up M 39 j y) (by omega) (by omega) (fun r hr => by rw [gw_upN hr, hM r hr]) (fun j' hj' => ?_)
      rw [gw_upE]
      by_cases e : j' = j
      · subst e; rw [gw_rs]; exact ⟨hy, hy2⟩
      · rw [gw_ru e]; exact hd j' (by omega)
    rw [ej, f_X9_findFar_b2, e29, if_neg (pn_le hj (by omega))]
    unfold f_X9_givenOf
    rw [g1, gw_bdS]
    by_cases c : r < 0
    · rw [if_pos c]
      refine go 1000 (Or.inr rfl) (fun q => ?_)
      obtain ⟨p, hp, q⟩ := q
      refine absurd ?_ ((g2 c).2 p (Nat.zero_le p) hp)
      rw [h0.srcE p0 hp hj]; exact q
    · rw [if_neg c]
      exact go 1 (Or.inl rfl) (fun _ => rfl)
def fSum (M : gw_S) : Nat → Int
  | 0 => 0
  | k + 1 => fSum M k + (M 39 k).toInt
theorem fSum_u : ∀ k, fSum (gw_up M 39 j v) k = fSum M k + if j < k then v.toInt - (M 39 j).toInt else 0
  | 0 => by simp [fSum]
  | k + 1 => by
    unfold fSum
    rw [fSum_u k, gw_upE]
    by_cases e : k = j
    · subst e; rw [gw_rs, if_neg (by omega), if_pos (by omega)]; omega
    · rw [gw_ru e]; split <;> split <;> omega
theorem fSum_e (h : M' 39 = M 39) : ∀ k, fSum M' k = fSum M k
  | 0 => rfl
  | k + 1 => by unfold fSum; rw [fSum_e h k, h]
theorem fSum_b : ∀ k, (∀ j, j < k → rg 1 1000 (M 39 j)) → 0 ≤ fSum M k ∧ fSum M k ≤ 1000 * k
  | 0, _ => by simp [fSum]
  | k + 1, h => by
    have h1 := fSum_b k (fun j hj => h j (by omega))
    have h2 := h k (by omega)
    unfold rg at h2
    unfold fSum
    omega
/-- one is no farther than all to which it leads -/
def fE (M0 : gw_S) (np nb j q : Nat) (M : gw_S) : Prop := ∀ p c, q ≤ p → p < np → c < nb → oS M0 j p = nI c → (M 39 j).toInt ≤ 1 ∨ (M 39 j).toInt ≤ (M 39 c).toInt + 1
def fZ (M0 : gw_S) (np nb : Nat) (M : gw_S) : Prop := (∀ r, r ≠ 39 → M r = M0 r) ∧ (∀ j, j < nb → rg 1 1000 (M 39 j)) ∧ ∀ j, j < nb → pT (oS M0) np nb 0 j → (M 39 j).toInt ≤ 1
theorem fr_i (h0 : cC w np nb S M0) (hj : j < nb) {K40 : Int32 → gw_S → Option gw_S} {K48 : Int32 → Int32 → gw_S → Option gw_S} : ∀ (k n : Nat) (v : Int32) (M : gw_S), k ≤ np → k < n → fZ M0 np nb M → ∃ v' M1, f_X9_findFar_b58 K40 K48 n v (nI j) (nI (np - k)) M = K48 v' (nI (j + 1)) M1 ∧ fZ M0 np nb M1 ∧ ((v' = v ∧ M1 = M ∧ fE M0 np nb j (np - k) M) ∨ (v' = 1 ∧ fSum M1 nb < fSum M nb))
  | 0, n + 1, v, M, _, _, hz => by
    have hnp := h0.1.1.1.1
    have e8 : M 0 8 = nI np := by rw [hz.1 0 (by omega)]; exact h0.1.1.2.2.1.1
    rw [f_X9_findFar_b58, e8, if_pos (nI_le (by omega) (by omega)), gw_letS, pn_a1]
    exact ⟨v, M, rfl, hz, Or.inl ⟨rfl, rfl, fun p c h1 h2 => absurd h2 (by omega)⟩⟩
  | k + 1, n + 1, v, M, hk, hn, hz => by
    have hnp := h0.1.1.1.1
    have hnb := h0.1.1.1.2
    obtain ⟨p, ep⟩ : ∃ p, np - (k + 1) = p := ⟨_, rfl⟩
    have hp : p < np := by omega
    have e1 : nI p + (1 : Int32) = nI (np - k) := by rw [← ep]; exact pn_s hk
    have e8 : M 0 8 = nI np := by rw [hz.1 0 (by omega)]; exact h0.1.1.2.2.1.1
    have p0 : ∀ r, ¬ (39 ≤ r ∧ r ≤ 42) → M r = M0 r := fun r hr => hz.1 r (by omega)
    have h : cC w np nb S M := h0.scr (fun _ _ => rfl) p0
    have cj : (nI j).toNatClampNeg = j := nI_clamp (by omega)
    have keep : (∀ c, c < nb → oS M0 j p = nI c → (M 39 j).toInt ≤ 1 ∨ (M 39 j).toInt ≤ (M 39 c).toInt + 1) → ∃ v' M1, f_X9_findFar_b128 K40 K48 (f_X9_findFar_b58 K40 K48 n) v (nI j) (nI p) M = K48 v' (nI (j + 1)) M1 ∧ fZ M0 np nb M1 ∧ ((v' = v ∧ M1 = M ∧ fE M0 np nb j p M) ∨ (v' = 1 ∧ fSum M1 nb < fSum M nb)) := fun hc => by
      unfold f_X9_findFar_b128
      rw [gw_letS, e1]
      obtain ⟨v', M1, a1, a2, a3⟩ := fr_i h0 hj (K40 := K40) (K48 := K48) k n v M (by omega) (by omega) hz
      refine ⟨v', M1, a1, a2, ?_⟩
      rcases a3 with ⟨q1, q2, q3⟩ | q
      · refine Or.inl ⟨q1, q2, fun p' c h1 h2 h3 h4 => ?_⟩
        by_cases e : p' = p
        · subst e; exact hc c h3 h4
        · exact q3 p' c (by omega) h2 h3 h4
      · exact Or.inr q
    rw [ep, f_X9_findFar_b58, e8, if_neg (pn_le hp (by omega)), gw_gdT (pi_in (show j < 30 by omega) (by omega))]
    simp only [cj]
    by_cases c0 : M 39 j ≤ 1
    · rw [if_pos c0]
      unfold f_X9_findFar_b86
      rw [if_pos (show (-1 : Int32) < 0 by decide)]
      exact keep (fun c _ _ => Or.inl (by rw [ps_leI, pz_1] at c0; exact c0))
    · rw [if_neg c0, h.whom hp hj, h0.srcE p0 hp hj, gw_bdS]
      unfold f_X9_findFar_b86
      by_cases c1 : aSrc M0 p j < 0
      · rw [if_pos c1, if_pos (show (-1 : Int32) < 0 by decide)]
        exact keep (fun c hc e => by unfold oS at e; rw [e] at c1; exact absurd c1 (pn_n0 (by omega)))
      · rw [if_neg c1, if_neg c1]
        rcases h0.srcR hp hj with e | e | ⟨c, hc, e, -, -⟩
        · rw [e] at c1; exact absurd (by decide) c1
        · rw [e] at c1; exact absurd (by decide) c1
        · have zc := hz.2.1 c hc
          have zj := hz.2.1 j hj
          unfold rg at zc zj
          have ec : (M 39 c + 1).toInt = (M 39 c).toInt + 1 := by rw [pn_add (by omega) (by rw [pz_1]; omega), pz_1]
          rw [e, gw_gdT (pi_in (show c < 30 by omega) (by omega)), gw_gdT (pi_in (show j < 30 by omega) (by omega))]
          simp only [cj, nI_clamp (show c < 2 ^ 31 by omega)]
          by_cases c2 : M 39 j ≤ M 39 c + 1
          · rw [if_pos c2]
            refine keep (fun c' hc' e' => Or.inr ?_)
            unfold oS at e'
            rw [e] at e'
            rw [← (nI_eq (by omega) (by omega)).mp e', ← ec, ← ps_leI]; exact c2
          · rw [if_neg c2, gw_letS]
            rw [ps_leI, ec] at c2
            rw [ps_leI, pz_1] at c0
            have hz' : fZ M0 np nb (gw_up M 39 j (M 39 c + 1)) := ⟨fun r hr => by rw [gw_upN hr, hz.1 r hr], fun j' hj' => by
              rw [gw_upE]
              by_cases e : j' = j
              · subst e; rw [gw_rs]; unfold rg; omega
              · rw [gw_ru e]; exact hz.2.1 j' hj', fun j' hj' hp' => by
              rw [gw_upE]
              by_cases e : j' = j
              · subst e; exact absurd (hz.2.2 j' hj' hp') c0
              · rw [gw_ru e]; exact hz.2.2 j' hj' hp'⟩
            have fall : fSum (gw_up M 39 j (M 39 c + 1)) nb < fSum M nb := by rw [fSum_u, if_pos hj, ec]; omega
            unfold f_X9_findFar_b128
            rw [gw_letS, e1]
            obtain ⟨v', M1, a1, a2, a3⟩ := fr_i h0 hj (K40 := K40) (K48 := K48) k n 1 (gw_up M 39 j (M 39 c + 1)) (by omega) (by omega) hz'
            refine ⟨v', M1, a1, a2, Or.inr ?_⟩
            rcases a3 with ⟨q1, q2, -⟩ | ⟨q1, q2⟩
            · exact ⟨q1, by rw [q2]; exact fall⟩
            · exact ⟨q1, by omega⟩
theorem fr_o (h0 : cC w np nb S M0) {K40 : Int32 → gw_S → Option gw_S} : ∀ (k n : Nat) (v : Int32) (M : gw_S), k ≤ nb → k < n → fZ M0 np nb M → ∃ v' M1, f_X9_findFar_b48 K40 n v (nI (nb - k)) M = K40 v' M1 ∧ fZ M0 np nb M1 ∧ ((v' = v ∧ M1 = M ∧ ∀ j, nb - k ≤ j → j < nb → fE M0 np nb j 0 M) ∨ (v' = 1 ∧ fSum M1 nb < fSum M nb))
  | 0, n + 1, v, M, _, _, hz => by
    have hnb := h0.1.1.1.2
    have e29 : M 0 29 = nI nb := by rw [hz.1 0 (by omega)]; exact h0.1.1.2.2.1.2
    rw [f_X9_findFar_b48, e29, if_pos (nI_le (by omega) (by omega))]
    exact ⟨v, M, rfl, hz, Or.inl ⟨rfl, rfl, fun j h1 h2 => absurd h2 (by omega)⟩⟩
  | k + 1, n + 1, v, M, hk, hn, hz => by
    have hnb := h0.1.1.1.2
    have hnp := h0.1.1.1.1
    obtain ⟨j, ej⟩ : ∃ j, nb - (k + 1) = j := ⟨_, rfl⟩
    have hj : j < nb := by omega
    have e1 : j + 1 = nb - k := by omega
    have e29 : M 0 29 = nI nb := by rw [hz.1 0 (by omega)]; exact h0.1.1.2.2.1.2
    obtain ⟨v2, M2, a1, a2, a3⟩ := fr_i h0 hj (K40 := K40) (K48 := f_X9_findFar_b48 K40 n) np gw_F v M (Nat.le_refl np) (Nat.lt_of_le_of_lt hnp (by decide)) hz
    rw [Nat.sub_self, show nI 0 = (0 : Int32) from rfl] at a1
    rw [Nat.sub_self] at a3
    obtain ⟨v', M1, b1, b2, b3⟩ := fr_o h0 (K40 := K40) k n v2 M2 (by omega) (by omega) a2
    rw [ej, f_X9_findFar_b48, e29, if_neg (pn_le hj (by omega)), a1, e1, b1]
    refine ⟨v', M1, rfl, b2, ?_⟩
    rcases a3 with ⟨q1, q2, q3⟩ | ⟨q1, q2⟩
    · subst q1 q2
      rcases b3 with ⟨r1, r2, r3⟩ | r
      · refine Or.inl ⟨r1, r2, fun j' h1 h2 => ?_⟩
        by_cases e : j' = j
        · subst e; exact q3
        · exact r3 j' (by omega) h2
      · exact Or.inr r
    · right
      rcases b3 with ⟨r1, r2, r3⟩ | ⟨r1, r2⟩
      · exact ⟨by rw [r1, q1], by rw [r2]; exact q2⟩
      · exact ⟨r1, by omega⟩
theorem fr_w (h0 : cC w np nb S M0) : ∀ (N n : Nat) (M : gw_S), N + 1 < n → fSum M nb ≤ N → fZ M0 np nb M → ∃ M1, f_X9_findFar_b40 n 1 M = some M1 ∧ fZ M0 np nb M1 ∧ ∀ j, j < nb → fE M0 np nb j 0 M1
  | N, n + 2, M, hn, hN, hz => by
    have hnb := h0.1.1.1.2
    obtain ⟨v', M1, a1, a2, a3⟩ := fr_o h0 (K40 := f_X9_findFar_b40 (n + 1)) nb gw_F 0 M (Nat.le_refl nb) (Nat.lt_of_le_of_lt hnb (by decide)) hz
    rw [Nat.sub_self, show nI 0 = (0 : Int32) from rfl] at a1
    rw [Nat.sub_self] at a3
    rw [f_X9_findFar_b40, if_neg pn_10, a1]
    rcases a3 with ⟨q1, q2, q3⟩ | ⟨q1, q2⟩
    · rw [q1, q2, f_X9_findFar_b40, if_pos rfl]
      exact ⟨M, rfl, hz, fun j hj => q3 j (Nat.zero_le j) hj⟩
    · rw [q1]
      have := (fSum_b (M := M1) nb a2.2.1).1
      cases N with
      | zero => exact absurd q2 (by omega)
      | succ N => exact fr_w h0 N (n + 1) M1 (by omega) (by omega) a2
theorem cC.findFar (h0 : cC w np nb S M) : ∃ M1, f_X9_findFar M = some M1 ∧ (∀ r, r ≠ 39 → M1 r = M r) ∧ (∀ j, j < nb → rg 1 1000 (M1 39 j)) ∧ ∀ s j, j < nb → pT (oS M) np nb s j → (M1 39 j).toInt ≤ s + 1 := by
  have hnb := h0.1.1.1.2
  obtain ⟨M2, a1, a2, a3⟩ := fin_l h0 nb gw_F M (Nat.le_refl nb) (Nat.lt_of_le_of_lt hnb (by decide)) (fun _ _ => rfl) (fun j hj => absurd hj (by omega))
  rw [Nat.sub_self, show nI 0 = (0 : Int32) from rfl] at a1
  have hz : fZ M np nb M2 := ⟨a2, fun j hj => by
    rcases (a3 j hj).1 with q | q
    · rw [q]; exact ⟨by decide, by decide⟩
    · rw [q]; exact ⟨by decide, by decide⟩, fun j hj hp => by rw [(a3 j hj).2 hp]; decide⟩
  have hs := (fSum_b (M := M2) nb hz.2.1).2
  obtain ⟨M1, b1, b2, b3⟩ := fr_w h0 30000 gw_F M2 (by decide) (by omega) hz
  unfold f_X9_findFar
  rw [a1, b1]
  refine ⟨M1, rfl, b2.1, b2.2.1, fun s => ?_⟩
  induction s with
  | zero => intro j hj hp; have := b2.2.2 j hj hp; omega
  | succ s ih =>
    intro j hj hp
    obtain ⟨p, c, h1, h2, h3, h4⟩ := hp
    have := ih c h2 h4
    rcases b3 j hj p c (Nat.zero_le p) h1 h2 h3 with q | q <;> omega
end RCF
