section
section RCF
variable {w np nb t i j p c a b f nd pl ms : Nat} {S S0 M M0 S' M' : gw_S} {x x1 x2 x3 x4 x5 x6 u z d v l r : Int32} {T : List Nat}
theorem gv_s (h : cC w np nb S M) (hi : i < np) (hj : j < nb) {K9 : Int32 → Int32 → Int32 → Int32 → Int32 → Option Int32} : ∃ v2 l2, f_X9_givenOf_b33 M K9 (nI j) (-1) v l (nI i) = f_X9_givenOf_b134 M K9 (nI j) (-1) v2 l2 (nI i) ∧ ((v2 = v ∧ (aSrc M i j = -1 → ¬ v < 0)) ∨ v2 = nI i) := by
  obtain ⟨fv, hv, -, a2, -, a4, -, -⟩ := h.src hi hj
  have e := h.last hi hj
  have hA := h.1
  obtain ⟨fr, g0, -, g2⟩ := hA.free h.2.1 h.2.2.1 hi hj
  obtain ⟨m, sz, hm, em, s1, s2⟩ := hA.offM h.2.2.2 hi hj
  obtain ⟨-, p2, p3⟩ := hA.po h.2.2.1 hi hj
  rw [a2, gw_bdS, g2, gw_bdS] at e
  unfold f_X9_givenOf_b33 f_X9_givenOf_b127
  rw [gw_gdT (hA.inb hj)]
  simp only [hA.cb hj]
  rw [a2, gw_bdS, g2, gw_bdS, gw_gdT (hA.inp hi), hA.cp hi, em, gw_gdT (pi_in hm (by omega)), nI_clamp (by omega), s1, gw_bdS, p2, gw_bdS, gw_letS]
  by_cases c1 : fv = 2
  · rw [if_pos c1] at e
    rw [if_pos c1]
    by_cases c2 : fr = 0
    · rw [if_pos c2] at e
      rw [if_pos c2]
      refine ⟨v, l, rfl, Or.inl ⟨rfl, fun q => ?_⟩⟩
      rw [if_pos q] at e
      exact absurd e (by decide)
    · rw [if_neg c2]
      by_cases c3 : v < 0
      · rw [if_pos c3]; exact ⟨_, _, rfl, Or.inr rfl⟩
      · rw [if_neg c3]
        split
        · exact ⟨_, _, rfl, Or.inl ⟨rfl, fun _ => c3⟩⟩
        · exact ⟨_, _, rfl, Or.inr rfl⟩
  · rw [if_neg c1] at e
    rw [if_neg c1]
    refine ⟨v, l, rfl, Or.inl ⟨rfl, fun q => ?_⟩⟩
    rw [if_pos q] at e
    exact absurd e (by decide)
theorem gv_l (h : cC w np nb S M) (hj : j < nb) : ∀ (q n : Nat) (v l : Int32), q ≤ np → q < n → ∃ r, f_X9_givenOf_b9 M n (nI j) (-1) v l (nI (np - q)) = some r ∧ (r < 0 → v < 0 ∧ ∀ i, np - q ≤ i → i < np → ¬ aSrc M i j = -1)
  | 0, n + 1, v, l, _, _ => by
    have hnp := h.1.1.1.1
    rw [f_X9_givenOf_b9, h.1.1.2.2.1.1, if_pos (nI_le (by omega) (by omega))]
    exact ⟨v, rfl, fun q => ⟨q, fun i h1 h2 => absurd h2 (by omega)⟩⟩
  | q + 1, n + 1, v, l, hq, hn => by
    have hnp := h.1.1.1.1
    obtain ⟨i, ei⟩ : ∃ i, np - (q + 1) = i := ⟨_, rfl⟩
    have hi : i < np := by omega
    have e1 : nI i + (1 : Int32) = nI (np - q) := by rw [← ei]; exact pn_s hq
    obtain ⟨v2, l2, a1, a2⟩ := gv_s (v := v) (l := l) (K9 := f_X9_givenOf_b9 M n) h hi hj
    rw [ei, f_X9_givenOf_b9, h.1.1.2.2.1.1, if_neg (pn_le hi (by omega)), if_pos (show (-1 : Int32) < 0 by decide), a1]
    unfold f_X9_givenOf_b134
    rw [gw_letS, e1]
    obtain ⟨r, b1, b2⟩ := gv_l h hj q n v2 l2 (by omega) (by omega)
    refine ⟨r, b1, fun hr => ?_⟩
    obtain ⟨k1, k2⟩ := b2 hr
    rcases a2 with ⟨e2, a3⟩ | e2
    · rw [e2] at k1
      refine ⟨k1, fun i' h1 h2 => ?_⟩
      by_cases e : i' = i
      · subst e; exact fun q => a3 q k1
      · exact k2 i' (by omega) h2
    · rw [e2] at k1; exact absurd k1 (pn_n0 (by omega))
/-- from a start: from whom, by BOOKING -/
def oS (M : gw_S) (b p : Nat) : Int32 := aSrc M p b
theorem fin_l (h0 : cC w np nb S M0) : ∀ (k n : Nat) (M : gw_S), k ≤ nb → k < n → (∀ r, r ≠ 39 → M r = M0 r) → (∀ j, j < nb - k → (M 39 j = 1 ∨ M 39 j = 1000) ∧ (pT (oS M0) np nb 0 j → M 39 j = 1)) → ∃ M1, f_X9_findFar_b2 n (nI (nb - k)) M = f_X9_findFar_b40 gw_F 1 M1 ∧ (∀ r, r ≠ 39 → M1 r = M0 r) ∧ ∀ j, j < nb → (M1 39 j = 1 ∨ M1 39 j = 1000) ∧ (pT (oS M0) np nb 0 j → M1 39 j = 1)
  | 0, n + 1, M, _, _, hM, hd => by
    have hnb := h0.1.1.1.2
    have e29 : M 0 29 = nI nb := by rw [hM 0 (by omega)]; exact h0.1.1.2.2.1.2
    rw [f_X9_findFar_b2, e29, if_pos (nI_le (by omega) (by omega))]
    exact ⟨M, rfl, hM, fun j hj => hd j (by omega)⟩
  | k + 1, n + 1, M, hk, hn, hM, hd => by
    have hnb := h0.1.1.1.2
    have hnp := h0.1.1.1.1
    obtain ⟨j, ej⟩ : ∃ j, nb - (k + 1) = j := ⟨_, rfl⟩
    have hj : j < nb := by omega
    have e1 : nI j + (1 : Int32) = nI (nb - k) := by rw [← ej]; exact pn_s hk
    have e29 : M 0 29 = nI nb := by rw [hM 0 (by omega)]; exact h0.1.1.2.2.1.2
    have p0 : ∀ r, ¬ (39 ≤ r ∧ r ≤ 42) → M r = M0 r := fun r hr => hM r (by omega)
    have h : cC w np nb S M := h0.scr (fun _ _ => rfl) p0
    obtain ⟨r, g1, g2⟩ := gv_l h hj np gw_F (-4) 0 (Nat.le_refl np) (Nat.lt_of_le_of_lt hnp (by decide))
    rw [Nat.sub_self, show nI 0 = (0 : Int32) from rfl] at g1
    rw [Nat.sub_self] at g2
    have go : ∀ y : Int32, (y = 1 ∨ y = 1000) → (pT (oS M0) np nb 0 j → y = 1) → ∃ M1, f_X9_findFar_b31 (f_X9_findFar_b2 n) (nI j) y (nI j) M = f_X9_findFar_b40 gw_F 1 M1 ∧ (∀ r, r ≠ 39 → M1 r = M0 r) ∧ ∀ j, j < nb → (M1 39 j = 1 ∨ M1 39 j = 1000) ∧ (pT (oS M0) np nb 0 j → M1 39 j = 1) := fun y hy hy2 => by
      unfold f_X9_findFar_b31
      rw [gw_gdT (pi_in (show j < 30 by omega) (by omega)), gw_letS, gw_letS, nI_clamp (by omega), e1]
      refine fin_l h0 k n (gw_up M 39 j y) (by omega) (by omega) (fun r hr => by rw [gw_upN hr, hM r hr]) (fun j' hj' => ?_)
      rw [gw_upE]
      by_cases e : j' = j
      · subst e; rw [gw_rs]; exact ⟨hy, hy2⟩
      · rw [gw_ru e]; exact hd j' (by omega)
    rw [ej, f_X9_findFar_b2, e29, if_neg (pn_le hj (by omega))]
    unfold f_X9_givenOf
    rw [g1, gw_bdS]
    by_cases c : r < 0
    · rw [if_pos c]
      refine go 1000 (Or.inr rfl) (fun q => ?_)
      obtain ⟨p, hp, q⟩ := q
      refine absurd ?_ ((g2 c).2 p (Nat.zero_le p) hp)
      rw [h0.srcE p0 hp hj]; exact q
    · rw [if_neg c]
      exact go 1 (Or.inl rfl) (fun _ => rfl)
def fSum (M : gw_S) : Nat → Int
  | 0 => 0
  | k + 1 => fSum M k + (M 39 k).toInt
theorem fSum_u : ∀ k, fSum (gw_up M 39 j v) k = fSum M k + if j < k then v.toInt - (M 39 j).toInt else 0
  | 0 => by simp [fSum]
  | k + 1 => by
    unfold fSum
    rw [fSum_u k, gw_upE]
    by_cases e : k = j
    · subst e; rw [gw_rs, if_neg (by omega), if_pos (by omega)]; omega
    · rw [gw_ru e]; split <;> split <;> omega
theorem fSum_e (h : M' 39 = M 39) : ∀ k, fSum M' k = fSum M k
  | 0 => rfl
  | k + 1 => by unfold fSum; rw [fSum_e h k, h]
theorem fSum_b : ∀ k, (∀ j, j < k → rg 1 1000 (M 39 j)) → 0 ≤ fSum M k ∧ fSum M k ≤ 1000 * k
  | 0, _ => by simp [fSum]
  | k + 1, h => by
    have h1 := fSum_b k (fun j hj => h j (by omega))
    have h2 := h k (by omega)
    unfold rg at h2
    unfold fSum
    omega
/-- one is no farther than all to which it leads -/
def fE (M0 : gw_S) (np nb j q : Nat) (M : gw_S) : Prop := ∀ p c, q ≤ p → p < np → c < nb → oS M0 j p = nI c → (M 39 j).toInt ≤ 1 ∨ (M 39 j).toInt ≤ (M 39 c).toInt + 1
def fZ (M0 : gw_S) (np nb : Nat) (M : gw_S) : Prop := (∀ r, r ≠ 39 → M r = M0 r) ∧ (∀ j, j < nb → rg 1 1000 (M 39 j)) ∧ ∀ j, j < nb → pT (oS M0) np nb 0 j → (M 39 j).toInt ≤ 1
theorem fr_i (h0 : cC w np nb S M0) (hj : j < nb) {K40 : Int32 → gw_S → Option gw_S} {K48 : Int32 → Int32 → gw_S → Option gw_S} : ∀ (k n : Nat) (v : Int32) (M : gw_S), k ≤ np → k < n → fZ M0 np nb M → ∃ v' M1, f_X9_findFar_b58 K40 K48 n v (nI j) (nI (np - k)) M = K48 v' (nI (j + 1)) M1 ∧ fZ M0 np nb M1 ∧ ((v' = v ∧ M1 = M ∧ fE M0 np nb j (np - k) M) ∨ (v' = 1 ∧ fSum M1 nb < fSum M nb))
  | 0, n + 1, v, M, _, _, hz => by
    have hnp := h0.1.1.1.1
    have e8 : M 0 8 = nI np := by rw [hz.1 0 (by omega)]; exact h0.1.1.2.2.1.1
    rw [f_X9_findFar_b58, e8, if_pos (nI_le (by omega) (by omega)), gw_letS, pn_a1]
    exact ⟨v, M, rfl, hz, Or.inl ⟨rfl, rfl, fun p c h1 h2 => absurd h2 (by omega)⟩⟩
  | k + 1, n + 1, v, M, hk, hn, hz => by
    have hnp := h0.1.1.1.1
    have hnb := h0.1.1.1.2
    obtain ⟨p, ep⟩ : ∃ p, np - (k + 1) = p := ⟨_, rfl⟩
    have hp : p < np := by omega
    have e1 : nI p + (1 : Int32) = nI (np - k) := by rw [← ep]; exact pn_s hk
    have e8 : M 0 8 = nI np := by rw [hz.1 0 (by omega)]; exact h0.1.1.2.2.1.1
    have p0 : ∀ r, ¬ (39 ≤ r ∧ r ≤ 42) → M r = M0 r := fun r hr => hz.1 r (by omega)
    have h : cC w np nb S M := h0.scr (fun _ _ => rfl) p0
    have cj : (nI j).toNatClampNeg = j := nI_clamp (by omega)
    have keep : (∀ c, c < nb → oS M0 j p = nI c → (M 39 j).toInt ≤ 1 ∨ (M 39 j).toInt ≤ (M 39 c).toInt + 1) → ∃ v' M1, f_X9_findFar_b128 K40 K48 (f_X9_findFar_b58 K40 K48 n) v (nI j) (nI p) M = K48 v' (nI (j + 1)) M1 ∧ fZ M0 np nb M1 ∧ ((v' = v ∧ M1 = M ∧ fE M0 np nb j p M) ∨ (v' = 1 ∧ fSum M1 nb < fSum M nb)) := fun hc => by
      unfold f_X9_findFar_b128
      rw [gw_letS, e1]
      obtain ⟨v', M1, a1, a2, a3⟩ := fr_i h0 hj (K40 := K40) (K48 := K48) k n v M (by omega) (by omega) hz
      refine ⟨v', M1, a1, a2, ?_⟩
      rcases a3 with ⟨q1, q2, q3⟩ | q
      · refine Or.inl ⟨q1, q2, fun p' c h1 h2 h3 h4 => ?_⟩
        by_cases e : p' = p
        · subst e; exact hc c h3 h4
        · exact q3 p' c (by omega) h2 h3 h4
      · exact Or.inr q
    rw [ep, f_X9_findFar_b58, e8, if_neg (pn_le hp (by omega)), gw_gdT (pi_in (show j < 30 by omega) (by omega))]
    simp only [cj]
    by_cases c0 : M 39 j ≤ 1
    · rw [if_pos c0]
      unfold f_X9_findFar_b86
      rw [if_pos (show (-1 : Int32) < 0 by decide)]
      exact keep (fun c _ _ => Or.inl (by rw [ps_leI, pz_1] at c0; exact c0))
    · rw [if_neg c0, h.whom hp hj, h0.srcE p0 hp hj, gw_bdS]
      unfold f_X9_findFar_b86
      by_cases c1 : aSrc M0 p j < 0
      · rw [if_pos c1, if_pos (show (-1 : Int32) < 0 by decide)]
        exact keep (fun c hc e => by unfold oS at e; rw [e] at c1; exact absurd c1 (pn_n0 (by omega)))
      · rw [if_neg c1, if_neg c1]
        rcases h0.srcR hp hj with e | e | ⟨c, hc, e, -, -⟩
        · rw [e] at c1; exact absurd (by decide) c1
        · rw [e] at c1; exact absurd (by decide) c1
        · have zc := hz.2.1 c hc
          have zj := hz.2.1 j hj
          unfold rg at zc zj
          have ec : (M 39 c + 1).toInt = (M 39 c).toInt + 1 := by rw [pn_add (by omega) (by rw [pz_1]; omega), pz_1]
          rw [e, gw_gdT (pi_in (show c < 30 by omega) (by omega)), gw_gdT (pi_in (show j < 30 by omega) (by omega))]
          simp only [cj, nI_clamp (show c < 2 ^ 31 by omega)]
          by_cases c2 : M 39 j ≤ M 39 c + 1
          · rw [if_pos c2]
            refine keep (fun c' hc' e' => Or.inr ?_)
            unfold oS at e'
            rw [e] at e'
            rw [← (nI_eq (by omega) (by omega)).mp e', ← ec, ← ps_leI]; exact c2
          · rw [if_neg c2, gw_letS]
            rw [ps_leI, ec] at c2
            rw [ps_leI, pz_1] at c0
            have hz' : fZ M0 np nb (gw_up M 39 j (M 39 c + 1)) := ⟨fun r hr => by rw [gw_upN hr, hz.1 r hr], fun j' hj' => by
              rw [gw_upE]
              by_cases e : j' = j
              · subst e; rw [gw_rs]; unfold rg; omega
              · rw [gw_ru e]; exact hz.2.1 j' hj', fun j' hj' hp' => by
              rw [gw_upE]
              by_cases e : j' = j
              · subst e; exact absurd (hz.2.2 j' hj' hp') c0
              · rw [gw_ru e]; exact hz.2.2 j' hj' hp'⟩
            have fall : fSum (gw_up M 39 j (M 39 c + 1)) nb < fSum M nb := by rw [fSum_u, if_pos hj, ec]; omega
            unfold f_X9_findFar_b128
            rw [gw_letS, e1]
            obtain ⟨v', M1, a1, a2, a3⟩ := fr_i h0 hj (K40 := K40) (K48 := K48) k n 1 (gw_up M 39 j (M 39 c + 1)) (by omega) (by omega) hz'
            refine ⟨v', M1, a1, a2, Or.inr ?_⟩
            rcases a3 with ⟨q1, q2, -⟩ | ⟨q1, q2⟩
            · exact ⟨q1, by rw [q2]; exact fall⟩
            · exact ⟨q1, by omega⟩
theorem fr_o (h0 : cC w np nb S M0) {K40 : Int32 → gw_S → Option gw_S} : ∀ (k n : Nat) (v : Int32) (M : gw_S), k ≤ nb → k < n → fZ M0 np nb M → ∃ v' M1, f_X9_findFar_b48 K40 n v (nI (nb - k)) M = K40 v' M1 ∧ fZ M0 np nb M1 ∧ ((v' = v ∧ M1 = M ∧ ∀ j, nb - k ≤ j → j < nb → fE M0 np nb j 0 M) ∨ (v' = 1 ∧ fSum M1 nb < fSum M nb))
  | 0, n + 1, v, M, _, _, hz => by
    have hnb := h0.1.1.1.2
    have e29 : M 0 29 = nI nb := by rw [hz.1 0 (by omega)]; exact h0.1.1.2.2.1.2
    rw [f_X9_findFar_b48, e29, if_pos (nI_le (by omega) (by omega))]
    exact ⟨v, M, rfl, hz, Or.inl ⟨rfl, rfl, fun j h1 h2 => absurd h2 (by omega)⟩⟩
  | k + 1, n + 1, v, M, hk, hn, hz => by
    have hnb := h0.1.1.1.2
    have hnp := h0.1.1.1.1
    obtain ⟨j, ej⟩ : ∃ j, nb - (k + 1) = j := ⟨_, rfl⟩
    have hj : j < nb := by omega
    have e1 : j + 1 = nb - k := by omega
    have e29 : M 0 29 = nI nb := by rw [hz.1 0 (by omega)]; exact h0.1.1.2.2.1.2
    obtain ⟨v2, M2, a1, a2, a3⟩ := fr_i h0 hj (K40 := K40) (K48 := f_X9_findFar_b48 K40 n) np gw_F v M (Nat.le_refl np) (Nat.lt_of_le_of_lt hnp (by decide)) hz
    rw [Nat.sub_self, show nI 0 = (0 : Int32) from rfl] at a1
    rw [Nat.sub_self] at a3
    obtain ⟨v', M1, b1, b2, b3⟩ := fr_o h0 (K40 := K40) k n v2 M2 (by omega) (by omega) a2
    rw [ej, f_X9_findFar_b48, e29, if_neg (pn_le hj (by omega)), a1, e1, b1]
    refine ⟨v', M1, rfl, b2, ?_⟩
    rcases a3 with ⟨q1, q2, q3⟩ | ⟨q1, q2⟩
    · subst q1 q2
      rcases b3 with ⟨r1, r2, r3⟩ | r
      · refine Or.inl ⟨r1, r2, fun j' h1 h2 => ?_⟩
        by_cases e : j' = j
        · subst e; exact q3
        · exact r3 j' (by omega) h2
      · exact Or.inr r
    · right
      rcases b3 with ⟨r1, r2, r3⟩ | ⟨r1, r2⟩
      · exact ⟨by rw [r1, q1], by rw [r2]; exact q2⟩
      · exact ⟨r1, by omega⟩
theorem fr_w (h0 : cC w np nb S M0) : ∀ (N n : Nat) (M : gw_S), N + 1 < n → fSum M nb ≤ N → fZ M0 np nb M → ∃ M1, f_X9_findFar_b40 n 1 M = some M1 ∧ fZ M0 np nb M1 ∧ ∀ j, j < nb → fE M0 np nb j 0 M1
  | N, n + 2, M, hn, hN, hz => by
    have hnb := h0.1.1.1.2
    obtain ⟨v', M1, a1, a2, a3⟩ := fr_o h0 (K40 := f_X9_findFar_b40 (n + 1)) nb gw_F 0 M (Nat.le_refl nb) (Nat.lt_of_le_of_lt hnb (by decide)) hz
    rw [Nat.sub_self, show nI 0 = (0 : Int32) from rfl] at a1
    rw [Nat.sub_self] at a3
    rw [f_X9_findFar_b40, if_neg pn_10, a1]
    rcases a3 with ⟨q1, q2, q3⟩ | ⟨q1, q2⟩
    · rw [q1, q2, f_X9_findFar_b40, if_pos rfl]
      exact ⟨M, rfl, hz, fun j hj => q3 j (Nat.zero_le j) hj⟩
    · rw [q1]
      have := (fSum_b (M := M1) nb a2.2.1).1
      cases N with
      | zero => exact absurd q2 (by omega)
      | succ N => exact fr_w h0 N (n + 1) M1 (by omega) (by omega) a2
theorem cC.findFar (h0 : cC w np nb S M) : ∃ M1, f_X9_findFar M = some M1 ∧ (∀ r, r ≠ 39 → M1 r = M r) ∧ (∀ j, j < nb → rg 1 1000 (M1 39 j)) ∧ ∀ s j, j < nb → pT (oS M) np nb s j → (M1 39 j).toInt ≤ s + 1 := by
  have hnb := h0.1.1.1.2
  obtain ⟨M2, a1, a2, a3⟩ := fin_l h0 nb gw_F M (Nat.le_refl nb) (Nat.lt_of_le_of_lt hnb (by decide)) (fun _ _ => rfl) (fun j hj => absurd hj (by omega))
  rw [Nat.sub_self, show nI 0 = (0 : Int32) from rfl] at a1
  have hz : fZ M np nb M2 := ⟨a2, fun j hj => by
    rcases (a3 j hj).1 with q | q
    · rw [q]; exact ⟨by decide, by decide⟩
    · rw [q]; exact ⟨by decide, by decide⟩, fun j hj hp => by rw [(a3 j hj).2 hp]; decide⟩
  have hs := (fSum_b (M := M2) nb hz.2.1).2
  obtain ⟨M1, b1, b2, b3⟩ := fr_w h0 30000 gw_F M2 (by decide) (by omega) hz
  unfold f_X9_findFar
  rw [a1, b1]
  refine ⟨M1, rfl, b2.1, b2.2.1, fun s => ?_⟩
  induction s with
  | zero => intro j hj hp; have := b2.2.2 j hj hp; omega
  | succ s ih =>
    intro j hj hp
    obtain ⟨p, c, h1, h2, h3, h4⟩ := hp
    have := ih c h2 h4
    rcases b3 j hj p c (Nat.zero_le p) h1 h2 h3 with q | q <;> omega
end RCF
end
section
section RCG
variable {w np nb t i j p c a b f nd pl ms many lev : Nat} {S S0 M M0 S' M' : gw_S} {x x1 x2 x3 x4 x5 x6 u z d v l r : Int32} {T : List Nat} {fa : Nat → Int32}
theorem tby_l (hm : many ≤ 7) : ∀ (k n : Nat) (v : Int32), k ≤ many → k < n → (v = 0 ∨ v = 1) → ∃ r, f_X9_isTakenBy_b5 M n x (nI many) v (nI (many - k)) = some r ∧ ((r = 1 ∧ (v = 1 ∨ ∃ i, many - k ≤ i ∧ i < many ∧ M 41 i = x)) ∨ (r = 0 ∧ v = 0 ∧ ∀ i, many - k ≤ i → i < many → ¬ M 41 i = x))
  | 0, n + 1, v, _, _, hv => by
    rw [f_X9_isTakenBy_b5, if_pos (nI_le (by omega) (by omega)), gw_gdT hv]
    refine ⟨v, rfl, ?_⟩
    rcases hv with e | e
    · exact Or.inr ⟨e, e, fun i h1 h2 => absurd h2 (by omega)⟩
    · exact Or.inl ⟨e, Or.inl e⟩
  | k + 1, n + 1, v, hk, hn, hv => by
    obtain ⟨i, ei⟩ : ∃ i, many - (k + 1) = i := ⟨_, rfl⟩
    have e1 : nI i + (1 : Int32) = nI (many - k) := by rw [← ei]; exact pn_s hk
    rw [ei, f_X9_isTakenBy_b5, if_neg (pn_le (by omega) (by omega)), gw_gdT (pi_in (show i < 8 by omega) (by omega)), nI_clamp (by omega)]
    unfold f_X9_isTakenBy_b26 f_X9_isTakenBy_b31
    rw [gw_letS, gw_letS, e1]
    obtain ⟨r1, a1, a2⟩ := tby_l hm k n 1 (by omega) (by omega) (Or.inr rfl)
    obtain ⟨r0, b1, b2⟩ := tby_l hm k n 0 (by omega) (by omega) (Or.inl rfl)
    have one : r1 = 1 := by rcases a2 with ⟨q, -⟩ | ⟨-, q, -⟩; exact q; exact absurd q (by decide)
    by_cases c0 : v = 0
    · rw [if_pos c0]
      by_cases c1 : M 41 i = x
      · rw [if_pos c1, a1]; exact ⟨r1, rfl, Or.inl ⟨one, Or.inr ⟨i, Nat.le_refl i, by omega, c1⟩⟩⟩
      · rw [if_neg c1, b1]
        refine ⟨r0, rfl, ?_⟩
        rcases b2 with ⟨q1, q2 | ⟨i', h1, h2, h3⟩⟩ | ⟨q1, q2, q3⟩
        · exact absurd q2 (by decide)
        · exact Or.inl ⟨q1, Or.inr ⟨i', by omega, h2, h3⟩⟩
        · refine Or.inr ⟨q1, c0, fun i' h1 h2 => ?_⟩
          by_cases e : i' = i
          · subst e; exact c1
          · exact q3 i' (by omega) h2
    · rw [if_neg c0, a1]
      rcases hv with e | e
      · exact absurd e c0
      · exact ⟨r1, rfl, Or.inl ⟨one, Or.inl e⟩⟩
theorem tK.by (h : tK 41 np M pl T) (hpl : pl ≤ 7) (hp : p < np) : f_X9_isTakenBy (nI p) (nI pl) M = some (if p ∈ T then 1 else 0) := by
  obtain ⟨r, h1, h2⟩ := tby_l (M := M) (x := nI p) hpl pl gw_F 0 (Nat.le_refl pl) (Nat.lt_of_le_of_lt hpl (by decide)) (Or.inl rfl)
  rw [Nat.sub_self, show nI 0 = (0 : Int32) from rfl] at h1
  unfold f_X9_isTakenBy
  rw [h1]
  rcases h2 with ⟨e, q | ⟨i, -, a2, a3⟩⟩ | ⟨e, -, a⟩
  · exact absurd q (by decide)
  · rw [e, if_pos ((h p hp).mpr ⟨i, a2, a3⟩)]
  · rw [e, if_neg (fun q => by obtain ⟨i, a2, a3⟩ := (h p hp).mp q; exact a i (by omega) a2 a3)]
theorem inc_l (hm : pl ≤ 6) (hN : ∀ i, i ≤ pl → ¬ M 40 i = x) : ∀ (k n : Nat), k ≤ pl + 1 → k < n → f_X9_isInChain_b5 M n x (nI pl) 0 (nI (pl + 1 - k)) = some 0
  | 0, n + 1, _, _ => by
    rw [f_X9_isInChain_b5, if_pos (show nI pl < nI (pl + 1 - 0) from pn_lt (by omega) (by omega)), gw_gdT (Or.inl rfl)]
  | k + 1, n + 1, hk, hn => by
    obtain ⟨i, ei⟩ : ∃ i, pl + 1 - (k + 1) = i := ⟨_, rfl⟩
    have e1 : nI i + (1 : Int32) = nI (pl + 1 - k) := by rw [← ei]; exact pn_s hk
    rw [ei, f_X9_isInChain_b5, if_neg (show ¬ nI pl < nI i by rw [ps_ltI, nI_toInt (by omega), nI_toInt (by omega)]; omega), if_pos rfl, gw_gdT (pi_in (show i < 8 by omega) (by omega)), nI_clamp (by omega), if_neg (hN i (by omega))]
    unfold f_X9_isInChain_b31
    rw [gw_letS, e1]
    exact inc_l hm hN k n (by omega) (by omega)
theorem inChain (hm : pl ≤ 6) (hN : ∀ i, i ≤ pl → ¬ M 40 i = x) : f_X9_isInChain x (nI pl) M = some 0 := by
  have := inc_l hm hN (pl + 1) gw_F (Nat.le_refl _) (Nat.lt_of_le_of_lt (show pl + 1 ≤ 7 by omega) (by decide))
  rw [Nat.sub_self, show nI 0 = (0 : Int32) from rfl] at this
  exact this
/-- a search under way, at a place -/
def bK (M0 : gw_S) (fa : Nat → Int32) (np nb lev b : Nat) (T : List Nat) (M : gw_S) : Prop := (∀ r, r ≠ 39 → r ≠ 40 → r ≠ 41 → M r = M0 r) ∧ M 39 = fa ∧ b < nb ∧ M 40 lev = nI b ∧ tK 41 np M lev T ∧ ∀ i, i ≤ lev → ∃ b', b' < nb ∧ M 40 i = nI b' ∧ ∀ p, p < np → M0 32 b' = nI p → p ∈ T
def fFar (M0 : gw_S) (fa : Nat → Int32) (np nb : Nat) : Prop := (∀ j, j < nb → rg 1 1000 (fa j)) ∧ ∀ s j, j < nb → pT (oS M0) np nb s j → (fa j).toInt ≤ s + 1
theorem can_t (h0 : cC w np nb S M0) (hfa : fFar M0 fa np nb) {s : Nat} (hm : lev + s + 1 = many) (h4 : many ≤ 4) (hp : p < np) (h : bK M0 fa np nb lev b T M) : (f_X9_canTake (nI p) (nI lev) (nI many) M = some 0 ∧ fSt (oS M0) np s b T p = none) ∨ (f_X9_canTake (nI p) (nI lev) (nI many) M = some 1 ∧ ((s = 0 ∧ fSt (oS M0) np s b T p = some [(b, p)]) ∨ ∃ s' c, s = s' + 1 ∧ c < nb ∧ oS M0 b p = nI c ∧ M0 32 c = nI p ∧ fSt (oS M0) np s b T p = (fN (oS M0) np s' c (p :: T)).map (fun l => (b, p) :: l))) := by
  obtain ⟨k1, k2, hb, k4, k5, k6⟩ := h
  have hnb := h0.1.1.1.2
  have p0 : ∀ r, ¬ (39 ≤ r ∧ r ≤ 42) → M r = M0 r := fun r hr => k1 r (by omega) (by omega) (by omega)
  have h : cC w np nb S M := h0.scr (fun _ _ => rfl) p0
  have cb : (nI b).toNatClampNeg = b := nI_clamp (by omega)
  have m1 : nI many - (1 : Int32) = nI (lev + s) := by rw [← hm]; exact pn_pred
  unfold f_X9_canTake
  rw [gw_gdT (pi_in (show lev < 8 by omega) (by omega)), nI_clamp (show lev < 2 ^ 31 by omega), k4, gw_letS, k5.by (by omega) hp, ps_br, m1, gw_gdT (pi_in (show b < 30 by omega) (by omega))]
  simp only [cb]
  rw [h.last hp hb, h.whom hp hb, h0.srcE p0 hp hb]
  by_cases cT : p ∈ T
  · rw [if_pos cT]
    exact Or.inl ⟨rfl, by unfold fSt; cases s <;> simp [cT]⟩
  · rw [if_neg cT]
    cases s with
    | zero =>
      rw [if_pos (show nI lev = nI (lev + 0) from rfl)]
      by_cases c : aSrc M0 p b = -1
      · rw [if_pos c]
        exact Or.inr ⟨rfl, Or.inl ⟨rfl, by unfold fSt; simp only [if_neg cT]; exact if_pos c⟩⟩
      · rw [if_neg c]
        exact Or.inl ⟨rfl, by unfold fSt; simp only [if_neg cT]; exact if_neg c⟩
    | succ s =>
      rw [if_neg (show ¬ nI lev = nI (lev + (s + 1)) from fun q => by have := (nI_eq (by omega) (by omega)).mp q; omega), gw_bdS]
      rcases h0.srcR hp hb with e | e | ⟨c, hc, e, ec, -⟩
      · refine Or.inl ⟨by rw [e, if_pos (by decide)], ?_⟩
        unfold fSt; simp only [if_neg cT]; exact if_neg (by unfold oS; rw [e]; decide)
      · refine Or.inl ⟨by rw [e, if_pos (by decide)], ?_⟩
        unfold fSt; simp only [if_neg cT]; exact if_neg (by unfold oS; rw [e]; decide)
      · have nc : ∀ i, i ≤ lev → ¬ M 40 i = nI c := fun i hi q => by
          obtain ⟨b', h1, h2, h3⟩ := k6 i hi
          rw [h2] at q
          have := (nI_eq (by omega) (by omega)).mp q
          subst this
          exact cT (h3 p hp ec)
        have hst : fSt (oS M0) np (s + 1) b T p = (fN (oS M0) np s c (p :: T)).map (fun l => (b, p) :: l) := by
          unfold fSt oS; simp only [if_neg cT]; rw [e, if_pos (pn_p0 (by omega)), nI_clamp (by omega)]
        rw [e, if_neg (pn_n0 (by omega)), if_neg (pn_n0 (by omega)), inChain (by omega) nc, gw_bdS, if_pos rfl, gw_gdT (pi_in (show c < 30 by omega) (by omega)), nI_clamp (by omega), k2]
        have e2 : nI (lev + (s + 1)) - nI lev = nI (s + 1) := by
          rw [← Int32.toInt_inj, pn_sbi (by rw [nI_toInt (by omega)]; omega) (by rw [nI_toInt (by omega)]; omega), nI_toInt (by omega), nI_toInt (by omega), nI_toInt (by omega)]; omega
        rw [e2]
        by_cases c2 : nI (s + 1) < fa c
        · rw [if_pos c2]
          refine Or.inl ⟨rfl, ?_⟩
          rw [hst]
          cases e3 : fN (oS M0) np s c (p :: T) with
          | none => rfl
          | some l' =>
            have := hfa.2 s c hc (fN_ok (show sR (oS M0) np nb from h0.sR1) s c _ l' hc e3).1
            rw [ps_ltI, nI_toInt (by omega)] at c2
            omega
        · rw [if_neg c2]
          exact Or.inr ⟨rfl, Or.inr ⟨s, c, rfl, hc, e, ec, hst⟩⟩
def cB : Nat → Nat
  | 0 => 1
  | s + 1 => 24 * cB s + 2
def bO (many lev n : Nat) (M : gw_S) : Option (Int32 × gw_S) := if lev = 0 then f_X9_findChainOf_b12 n (nI many) (-1) 0 M else f_X9_findChainOf_b12 n (nI many) (nI (lev - 1)) (M 41 (lev - 1) + 1) M
def bF (lev : Nat) (M M2 : gw_S) : Prop := (∀ r, r ≠ 40 → r ≠ 41 → M2 r = M r) ∧ (∀ i, i < lev → M2 41 i = M 41 i) ∧ ∀ i, i ≤ lev → M2 40 i = M 40 i
theorem bK.fr (h : bK M0 fa np nb lev b T M) (q : bF lev M M') : bK M0 fa np nb lev b T M' := by
  obtain ⟨k1, k2, hb, k4, k5, k6⟩ := h
  exact ⟨fun r h1 h2 h3 => by rw [q.1 r h2 h3, k1 r h1 h2 h3], by rw [q.1 39 (by omega) (by omega), k2], hb, by rw [q.2.2 lev (Nat.le_refl lev), k4], k5.fr q.2.1, fun i hi => by rw [q.2.2 i hi]; exact k6 i hi⟩
def BT (M0 : gw_S) (fa : Nat → Int32) (np nb many s lev : Nat) : Prop := ∀ (M : gw_S) (b : Nat) (T : List Nat), bK M0 fa np nb lev b T M → ∃ m M2, m ≤ 24 * cB s + 1 ∧ bF lev M M2 ∧ ((fN (oS M0) np s b T = none ∧ ∀ n, f_X9_findChainOf_b12 (n + m) (nI many) (nI lev) 0 M = bO many lev n M2) ∨ ∃ l, fN (oS M0) np s b T = some l ∧ fRw 40 41 M2 l lev ∧ ∀ n, f_X9_findChainOf_b12 (n + m) (nI many) (nI lev) 0 M = some (1, M2))
theorem bt_i (h0 : cC w np nb S M0) (hfa : fFar M0 fa np nb) {s : Nat} (hm : lev + s + 1 = many) (h4 : many ≤ 4) (hF : ∀ s', s = s' + 1 → BT M0 fa np nb many s' (lev + 1)) : ∀ (k f : Nat) (M : gw_S), k ≤ np → k < f → bK M0 fa np nb lev b T M → ∃ m M2, m ≤ k * cB s ∧ bF lev M M2 ∧ ((fG np (fSt (oS M0) np s b T) k = none ∧ ∀ n, f_X9_findChainOf_b25 (f_X9_findChainOf_b12 (n + m)) f (nI many) (nI lev) (nI (np - k)) M = bO many lev n M2) ∨ ∃ l, fG np (fSt (oS M0) np s b T) k = some l ∧ fRw 40 41 M2 l lev ∧ ∀ n, f_X9_findChainOf_b25 (f_X9_findChainOf_b12 (n + m)) f (nI many) (nI lev) (nI (np - k)) M = some (1, M2))
  | 0, f + 1, M, _, _, h => by
    have hnp := h0.1.1.1.1
    have e8 : M 0 8 = nI np := by rw [h.1 0 (by omega) (by omega) (by omega)]; exact h0.1.1.2.2.1.1
    refine ⟨0, M, Nat.zero_le _, ⟨fun _ _ _ => rfl, fun _ _ => rfl, fun _ _ => rfl⟩, Or.inl ⟨rfl, fun n => ?_⟩⟩
    rw [f_X9_findChainOf_b25, e8, if_pos (nI_le (by omega) (by omega))]
    unfold f_X9_findChainOf_b51 f_X9_findChainOf_b121 f_X9_findChainOf_b123 bO
    rw [e8, if_pos (nI_le (by omega) (by omega)), gw_letS, pn_addm]
    cases lev with
    | zero => rw [if_pos rfl, if_pos (by decide)]; rfl
    | succ lev =>
      rw [pn_pred, if_neg (pn_n0 (by omega)), gw_gdT (pi_in (show lev < 8 by omega) (by omega)), nI_clamp (by omega), if_neg (by omega)]
      rfl
  | k + 1, f + 1, M, hk, hf, h => by
    have hnp := h0.1.1.1.1
    have hnb := h0.1.1.1.2
    obtain ⟨p, ep⟩ : ∃ p, np - (k + 1) = p := ⟨_, rfl⟩
    have hp : p < np := by omega
    have e1 : nI p + (1 : Int32) = nI (np - k) := by rw [← ep]; exact pn_s hk
    have e8 : M 0 8 = nI np := by rw [h.1 0 (by omega) (by omega) (by omega)]; exact h0.1.1.2.2.1.1
    have got : ∀ l, fSt (oS M0) np s b T p = some l → fG np (fSt (oS M0) np s b T) (k + 1) = some l := fun l hl => by unfold fG; rw [ep, hl]
    have nxt : fSt (oS M0) np s b T p = none → fG np (fSt (oS M0) np s b T) (k + 1) = fG np (fSt (oS M0) np s b T) k := fun hl => by rw [fG, ep, hl]
    have pos : 1 ≤ cB s := by cases s <;> unfold cB <;> omega
    have mul : (k + 1) * cB s = k * cB s + cB s := by rw [Nat.add_mul, Nat.one_mul]
    rw [ep]
    rcases can_t h0 hfa hm h4 hp h with ⟨c1, c2⟩ | ⟨c1, c2⟩
    · obtain ⟨m, M2, a1, a2, a3⟩ := bt_i h0 hfa hm h4 hF k f M (by omega) (by omega) h
      refine ⟨m, M2, by omega, a2, ?_⟩
      have st : ∀ K, f_X9_findChainOf_b25 K (f + 1) (nI many) (nI lev) (nI p) M = f_X9_findChainOf_b25 K f (nI many) (nI lev) (nI (np - k)) M := fun K => by
        rw [f_X9_findChainOf_b25, e8, if_neg (pn_le hp (by omega)), c1, gw_bdS, if_pos rfl, gw_letS, e1]
      simp only [st, nxt c2]
      exact a3
    · have st : ∀ K, f_X9_findChainOf_b25 K (f + 1) (nI many) (nI lev) (nI p) M = f_X9_findChainOf_b51 K (nI many) (nI lev) (nI p) M := fun K => by
        rw [f_X9_findChainOf_b25, e8, if_neg (pn_le hp (by omega)), c1, gw_bdS, if_neg pn_10]
      obtain ⟨k1, k2, hb, k4, k5, k6⟩ := h
      rcases c2 with ⟨hs0, c3⟩ | ⟨s', c, hs', hc, ec, ecp, c3⟩
      · subst hs0
        have em : lev + 1 = many := by omega
        have st2 : ∀ K, f_X9_findChainOf_b25 K (f + 1) (nI many) (nI lev) (nI p) M = K (nI many) (nI many) 0 (gw_up M 41 lev (nI p)) := fun K => by
          rw [st]
          unfold f_X9_findChainOf_b51 f_X9_findChainOf_b96 f_X9_findChainOf_b123
          rw [e8, if_neg (pn_le hp (by omega)), gw_gdT (pi_in (show lev < 8 by omega) (by omega)), nI_clamp (show lev < 2 ^ 31 by omega), gw_letS, pn_a1, em, gw_letS, if_pos (nI_le (Nat.le_refl many) (by omega))]
        simp only [st2]
        refine ⟨1, gw_up M 41 lev (nI p), by omega, ⟨fun r h1 h2 => gw_upN h2, fun i hi => by rw [gw_upE, gw_ru (by omega)], fun i hi => rfl⟩, Or.inr ⟨_, got _ c3, ⟨k4, by rw [gw_upE, gw_rs], trivial⟩, fun n => ?_⟩⟩
        rw [f_X9_findChainOf_b12, if_neg (pn_n0 (by omega)), if_pos (nI_le (Nat.le_refl many) (by omega))]
        unfold f_X9_findChainOf_b126
        rw [if_pos rfl]
      · obtain ⟨M1, eM1⟩ : ∃ M1, gw_up M 41 lev (nI p) = M1 := ⟨_, rfl⟩
        have f1 : ∀ r, r ≠ 41 → M1 r = M r := fun r hr => by rw [← eM1, gw_upN hr]
        have p1 : ∀ r, ¬ (39 ≤ r ∧ r ≤ 42) → M1 r = M0 r := fun r hr => by rw [f1 r (by omega), k1 r (by omega) (by omega) (by omega)]
        have h1 : cC w np nb S M1 := h0.scr (fun _ _ => rfl) p1
        have wh : f_X9_fromWhom (nI p) (nI b) M1 = some (nI c) := by
          rw [h1.whom hp hb, h0.srcE p1 hp hb]
          unfold oS at ec
          rw [ec, if_neg (pn_n0 (by omega))]
        obtain ⟨M3, eM3⟩ : ∃ M3, gw_up M1 40 (lev + 1) (nI c) = M3 := ⟨_, rfl⟩
        have st2 : ∀ K, f_X9_findChainOf_b25 K (f + 1) (nI many) (nI lev) (nI p) M = K (nI many) (nI (lev + 1)) 0 M3 := fun K => by
          rw [st]
          unfold f_X9_findChainOf_b51 f_X9_findChainOf_b96 f_X9_findChainOf_b123
          rw [e8, if_neg (pn_le hp (by omega)), gw_gdT (pi_in (show lev < 8 by omega) (by omega)), nI_clamp (show lev < 2 ^ 31 by omega), eM1, gw_letS, pn_a1, gw_letS, if_neg (pn_le (by omega) (by omega)), show nI (lev + 1) - (1 : Int32) = nI lev from pn_pred, gw_gdT (pi_in (show lev < 8 by omega) (by omega)), nI_clamp (show lev < 2 ^ 31 by omega), f1 40 (by omega), k4, wh, gw_bdS, gw_gdT (pi_in (show lev + 1 < 8 by omega) (by omega)), nI_clamp (show lev + 1 < 2 ^ 31 by omega), gw_letS, eM3]
        simp only [st2]
        have f3 : ∀ r, r ≠ 40 → r ≠ 41 → M3 r = M r := fun r h1 h2 => by rw [← eM3, gw_upN h1, f1 r h2]
        have f341 : M3 41 = upd (M 41) lev (nI p) := by rw [← eM3, gw_upN (by omega), ← eM1, gw_upE]
        have f340 : M3 40 = upd (M 40) (lev + 1) (nI c) := by rw [← eM3, gw_upE, f1 40 (by omega)]
        have h3 : bK M0 fa np nb (lev + 1) c (p :: T) M3 := ⟨fun r r1 r2 r3 => by rw [f3 r r2 r3, k1 r r1 r2 r3], by rw [f3 39 (by omega) (by omega), k2], hc, by rw [f340, gw_rs], k5.next hnp hp (fun i hi => by rw [f341, gw_ru (by omega)]) (by rw [f341, gw_rs]), fun i hi => by
          rw [f340]
          by_cases e : i = lev + 1
          · subst e
            rw [gw_rs]
            exact ⟨c, hc, rfl, fun p' hp' e' => by rw [ecp] at e'; rw [(nI_eq (by omega) (by omega)).mp e']; exact List.mem_cons_self⟩
          · rw [gw_ru e]
            obtain ⟨b', q1, q2, q3⟩ := k6 i (by omega)
            exact ⟨b', q1, q2, fun p' hp' e' => List.mem_cons_of_mem _ (q3 p' hp' e')⟩⟩
        obtain ⟨m1, M4, a1, a2, a3⟩ := hF s' hs' M3 c (p :: T) h3
        have g0 : ∀ r, r ≠ 40 → r ≠ 41 → M4 r = M r := fun r r1 r2 => by rw [a2.1 r r1 r2, f3 r r1 r2]
        have g41 : ∀ i, i < lev → M4 41 i = M 41 i := fun i hi => by rw [a2.2.1 i (by omega), f341, gw_ru (by omega)]
        have g40 : ∀ i, i ≤ lev → M4 40 i = M 40 i := fun i hi => by rw [a2.2.2 i (by omega), f340, gw_ru (by omega)]
        have gl : M4 41 lev = nI p := by rw [a2.2.1 lev (by omega), f341, gw_rs]
        have hF4 : bF lev M M4 := ⟨g0, g41, g40⟩
        have ecB : cB s = 24 * cB s' + 2 := by rw [hs']; rfl
        rcases a3 with ⟨o, a3⟩ | ⟨l', o, rw3, a3⟩
        · obtain ⟨m2, M5, b1, b2, b3⟩ := bt_i h0 hfa hm h4 hF k gw_F M4 (by omega) (Nat.lt_of_le_of_lt (show k ≤ 24 by omega) (by decide)) ((show bK M0 fa np nb lev b T M from ⟨k1, k2, hb, k4, k5, k6⟩).fr hF4)
          have hN : fSt (oS M0) np s b T p = none := by rw [c3, o]; rfl
          have hF5 : bF lev M M5 := ⟨fun r r1 r2 => by rw [b2.1 r r1 r2, g0 r r1 r2], fun i hi => by rw [b2.2.1 i hi, g41 i hi], fun i hi => by rw [b2.2.2 i hi, g40 i hi]⟩
          have step : ∀ n, f_X9_findChainOf_b12 (n + (m2 + 1 + m1)) (nI many) (nI (lev + 1)) 0 M3 = f_X9_findChainOf_b25 (f_X9_findChainOf_b12 (n + m2)) gw_F (nI many) (nI lev) (nI (np - k)) M4 := fun n => by
            rw [show n + (m2 + 1 + m1) = (n + m2 + 1) + m1 by omega, a3 (n + m2 + 1)]
            unfold bO
            rw [if_neg (by omega), show lev + 1 - 1 = lev by omega, gl, e1, f_X9_findChainOf_b12, if_neg (pn_n0 (by omega)), if_neg (pn_le (by omega) (by omega))]
          refine ⟨m2 + 1 + m1, M5, by omega, hF5, ?_⟩
          simp only [step, nxt hN]
          exact b3
        · refine ⟨m1, M4, by omega, hF4, Or.inr ⟨(b, p) :: l', got _ (by rw [c3, o]; rfl), ⟨by rw [g40 lev (Nat.le_refl lev)]; exact k4, gl, rw3⟩, a3⟩⟩
theorem bt_s (h0 : cC w np nb S M0) (hfa : fFar M0 fa np nb) (h4 : many ≤ 4) : ∀ (s lev : Nat), lev + s + 1 = many → BT M0 fa np nb many s lev
  | s, lev, hm => fun M b T h => by
    have hnp := h0.1.1.1.1
    have hF : ∀ s', s = s' + 1 → BT M0 fa np nb many s' (lev + 1) := fun s' e => bt_s h0 hfa h4 s' (lev + 1) (by omega)
    obtain ⟨m, M2, a1, a2, a3⟩ := bt_i h0 hfa hm h4 hF np gw_F M (Nat.le_refl np) (Nat.lt_of_le_of_lt hnp (by decide)) h
    rw [Nat.sub_self, show nI 0 = (0 : Int32) from rfl, ← fN_e] at a3
    have le : np * cB s ≤ 24 * cB s := Nat.mul_le_mul_right _ hnp
    have st : ∀ n, f_X9_findChainOf_b12 (n + (m + 1)) (nI many) (nI lev) 0 M = f_X9_findChainOf_b25 (f_X9_findChainOf_b12 (n + m)) gw_F (nI many) (nI lev) 0 M := fun n => by
      rw [show n + (m + 1) = n + m + 1 by omega, f_X9_findChainOf_b12, if_neg (pn_n0 (by omega)), if_neg (pn_le (by omega) (by omega))]
    refine ⟨m + 1, M2, by omega, a2, ?_⟩
    simp only [st]
    exact a3
theorem findChainOf (h0 : cC w np nb S M0) (hfa : fFar M0 fa np nb) {s : Nat} (h4 : s ≤ 3) (hb : b < nb) (hw : M0 32 b = -1) (hM : ∀ r, r ≠ 39 → r ≠ 40 → r ≠ 41 → M r = M0 r) (h39 : M 39 = fa) : ∃ r M2, f_X9_findChainOf (nI b) (nI (s + 1)) M = some (r, M2) ∧ (∀ r, r ≠ 40 → r ≠ 41 → M2 r = M r) ∧ ((fN (oS M0) np s b [] = none ∧ r = 0) ∨ ∃ l, fN (oS M0) np s b [] = some l ∧ r = 1 ∧ fRw 40 41 M2 l 0) := by
  have hnb := h0.1.1.1.2
  have hnp := h0.1.1.1.1
  obtain ⟨m, M2, a1, a2, a3⟩ := bt_s h0 hfa (many := s + 1) (by omega) s 0 (by omega) (gw_up M 40 0 (nI b)) b [] ⟨fun r h1 h2 h3 => by rw [gw_upN h2, hM r h1 h2 h3], h39, hb, by rw [gw_upE, gw_rs], fun p hp => by simp, fun i hi => ⟨b, hb, by rw [show i = 0 by omega, gw_upE, gw_rs], fun p hp e => by rw [hw] at e; exact absurd e.symm (pn_m1 (by omega))⟩⟩
  have c3 : cB s ≤ 15026 := by
    rcases (show s = 0 ∨ s = 1 ∨ s = 2 ∨ s = 3 by omega) with rfl | rfl | rfl | rfl <;> decide
  have eF : gw_F = (gw_F - m) + m := by have : gw_F = 1000000000 := rfl; omega
  have eF2 : gw_F - m = (gw_F - m - 1) + 1 := by have : gw_F = 1000000000 := rfl; omega
  unfold f_X9_findChainOf
  rw [gw_letS, show (0 : Int32).toNatClampNeg = 0 from rfl, eF]
  have fr : ∀ r, r ≠ 40 → r ≠ 41 → M2 r = M r := fun r h1 h2 => by rw [a2.1 r h1 h2, gw_upN h1]
  rw [show nI 0 = (0 : Int32) from rfl] at a3
  rcases a3 with ⟨o, a3⟩ | ⟨l, o, rw3, a3⟩
  · rw [a3]
    unfold bO
    rw [if_pos rfl, eF2, f_X9_findChainOf_b12, if_pos (show (-1 : Int32) < 0 by decide)]
    unfold f_X9_findChainOf_b126
    rw [if_neg (show ¬ (-1 : Int32) = nI (s + 1) from fun q => pn_m1 (by omega) q.symm)]
    exact ⟨0, M2, rfl, fr, Or.inl ⟨o, rfl⟩⟩
  · rw [a3]
    exact ⟨1, M2, rfl, fr, Or.inr ⟨l, o, rfl, rw3⟩⟩
end RCG
end
section
section RCH
variable {w np nb t i j p c a b f nd pl ms many lev : Nat} {S S0 S1 M M0 M1 S' M' : gw_S} {x x1 x2 x3 x4 x5 x6 u z d v r : Int32} {T : List Nat} {fa : Nat → Int32} {l : List (Nat × Nat)}
theorem fN_same (h : cC w np nb S M) (hf : f < nb) (hw : M 32 f = -1) (s : Nat) : fN (aSo M f) np s f [] = fN (oS M) np s f [] := by
  have hnb := h.1.1.1.2
  have hnp := h.1.1.1.1
  refine fN_q (own := fun b p => p < 24 ∧ M 32 b = nI p) (ok := fun b => b = f ∨ ¬ M 32 b = -1) (show sR (oS M) np nb from h.sR1) (fun b hb hk p hp ho => ?_) (fun b hb p hp c hc e => ?_) s f [] hf (Or.inl rfl) (fun p ho => ?_)
  · unfold aSo
    rw [if_pos ⟨hk, fun q => ho ⟨by omega, q⟩⟩]; rfl
  · rcases h.srcR hp hb with q | q | ⟨c', hc', q, q2, -⟩
    · unfold oS at e; rw [e] at q
      have := congrArg Int32.toInt q; rw [nI_toInt (by omega), show ((-2 : Int32)).toInt = -2 by decide] at this; omega
    · unfold oS at e; rw [e] at q
      exact absurd q (pn_m1 (by omega))
    · unfold oS at e
      rw [e] at q
      obtain rfl := (nI_eq (by omega) (by omega)).mp q
      exact ⟨Or.inr (by rw [q2]; exact pn_m1 (by omega)), fun p' hp' => by
        have := hp'.2
        rw [q2] at this
        exact ((nI_eq (by omega) (by omega)).mp this).symm⟩
  · have := ho.2
    rw [hw] at this
    exact absurd this.symm (pn_m1 (by omega))
/-- a CHAIN, there and here -/
def cR (np nb : Nat) (r : Int32) (S M : gw_S) : Prop := r = -4 ∨ ∃ s l, s ≤ 3 ∧ r = nI (s + 1) ∧ l.length = s + 1 ∧ S 15 5 = nI (s + 1) ∧ fRw 18 19 S l 0 ∧ fRw 40 41 M l 0 ∧ ∀ x, x ∈ l → x.1 < nb ∧ x.2 < np
theorem ch_l (h0 : cC w np nb S0 M0) (hfa : fFar M0 fa np nb) (hf : f < nb) (hw : M0 32 f = -1) (hms : ms ≤ 3) (h7 : M0 3 7 = nI ms) : ∀ (k n n' : Nat) (S M : gw_S), k ≤ ms + 1 → k < n → k < n' → fK (aSo M0 f) np nb ms S → S 18 0 = nI f → (∀ r, r ≠ 39 → r ≠ 40 → r ≠ 41 → M r = M0 r) → M 39 = fa → ∃ r S' M', f_X1_find_b83 n (nI ms) (nI (ms + 1 - k)) S = some (r, S') ∧ f_X9_findChain_b10 n' (nI f) (nI (ms + 1 - k + 1)) M = some (r, M') ∧ (∀ q, q ≠ 15 → q ≠ 18 → q ≠ 19 → S' q = S q) ∧ (∀ q, q ≠ 40 → q ≠ 41 → M' q = M q) ∧ cR np nb r S' M'
  | 0, n + 1, n' + 1, S, M, _, _, _, h, h18, hM, h39 => by
    have e3 : M 3 = M0 3 := hM 3 (by omega) (by omega) (by omega)
    rw [f_X1_find_b83, f_X9_findChain_b10, if_pos (pn_lt (by omega) (by omega)), show (7 : Int32).toNatClampNeg = 7 from rfl, e3, h7, pn_a1, if_pos (pn_lt (by omega) (by omega))]
    exact ⟨-4, S, M, rfl, rfl, fun _ _ _ _ => rfl, fun _ _ _ => rfl, Or.inl rfl⟩
  | k + 1, n + 1, n' + 1, S, M, hk, hn, hn', h, h18, hM, h39 => by
    have hnb := h0.1.1.1.2
    have hnp := h0.1.1.1.1
    obtain ⟨s, es⟩ : ∃ s, ms + 1 - (k + 1) = s := ⟨_, rfl⟩
    have e1 : s + 1 = ms + 1 - k := by omega
    have e3 : M 3 = M0 3 := hM 3 (by omega) (by omega) (by omega)
    have hR := h0.sR2 (f := f)
    obtain ⟨r, S2, a1, a2⟩ := fo_s (ms := ms) hR hnp s 6 (by omega) (by omega) 0 S f [] (by omega) h hf h18 (fun p hp => by simp)
    rw [show nI 0 = (0 : Int32) from rfl] at a1
    obtain ⟨a2, -, a4, a5⟩ := a2
    have h2 : fK (aSo M0 f) np nb ms S2 := h.fr a2
    have rcs := fun (M2 : gw_S) (q : ∀ r, r ≠ 40 → r ≠ 41 → M2 r = M r) => ch_l h0 hfa hf hw hms h7 k n n' S2 M2 (by omega) (by omega) (by omega) h2 (by rw [a4 0 (Nat.le_refl 0)]; exact h18) (fun r r1 r2 r3 => by rw [q r r2 r3, hM r r1 r2 r3]) (by rw [q 39 (by omega) (by omega)]; exact h39)
    rw [es, f_X1_find_b83, f_X9_findChain_b10, if_neg (show ¬ nI ms < nI s by rw [ps_ltI, nI_toInt (by omega), nI_toInt (by omega)]; omega), show (7 : Int32).toNatClampNeg = 7 from rfl, e3, h7, show nI ms + (1 : Int32) = nI (ms + 1) from pn_a1, if_neg (show ¬ nI (ms + 1) < nI (s + 1) by rw [ps_ltI, nI_toInt (by omega), nI_toInt (by omega)]; omega), gw_gdT (pi_in (show f < 30 by omega) (by omega)), nI_clamp (show f < 2 ^ 31 by omega), a1, gw_b2S]
    unfold f_X9_findChain_b44
    simp only [gw_letS, show nI (s + 1) + (1 : Int32) = nI (s + 1 + 1) from pn_a1, show nI s + (1 : Int32) = nI (s + 1) from pn_a1]
    have none1 : fN (oS M0) np s f [] = none → ∀ M2 : gw_S, (∀ r, r ≠ 40 → r ≠ 41 → M2 r = M r) → ∃ r_1 S' M', (if r = 0 then f_X1_find_b83 n (nI ms) (nI (s + 1)) S2 else some (gw_up S2 15 5 (nI (s + 1)) 15 5, gw_up S2 15 5 (nI (s + 1)))) = some (r_1, S') ∧ f_X9_findChain_b10 n' (nI f) (nI (s + 1 + 1)) M2 = some (r_1, M') ∧ (∀ q, q ≠ 15 → q ≠ 18 → q ≠ 19 → S' q = S q) ∧ (∀ q, q ≠ 40 → q ≠ 41 → M' q = M q) ∧ cR np nb r_1 S' M' := fun o M2 q => by
      rcases a5 with ⟨-, r0⟩ | ⟨l, o2, -⟩
      · obtain ⟨r1, S3, M3, b1, b2, b3, b4, b5⟩ := rcs M2 q
        rw [r0, if_pos rfl, e1]
        exact ⟨r1, S3, M3, b1, b2, fun q' q1 q2 q3 => by rw [b3 q' q1 q2 q3, a2 q' q2 q3], fun q' q1 q2 => by rw [b4 q' q1 q2, q q' q1 q2], b5⟩
      · rw [fN_same h0 hf hw s, o] at o2; exact absurd o2 (by simp)
    rw [h39]
    by_cases c1 : nI (s + 1) < fa f
    · rw [if_pos c1]
      refine none1 ?_ M (fun _ _ _ => rfl)
      cases e : fN (oS M0) np s f [] with
      | none => rfl
      | some l' =>
        have := hfa.2 s f hf (fN_ok (show sR (oS M0) np nb from h0.sR1) s f _ l' hf e).1
        rw [ps_ltI, nI_toInt (by omega)] at c1
        omega
    · rw [if_neg c1]
      obtain ⟨r6, M2, b1, b2, b3⟩ := findChainOf h0 hfa (s := s) (by omega) hf hw hM h39
      rw [b1, gw_b2S]
      rcases b3 with ⟨o, r60⟩ | ⟨l, o, r61, rw2⟩
      · rw [r60, if_pos rfl]; exact none1 o M2 b2
      · rw [r61, if_neg pn_10]
        rcases a5 with ⟨o2, -⟩ | ⟨l2, o2, r1, rw1⟩
        · rw [fN_same h0 hf hw s, o] at o2; exact absurd o2 (by simp)
        · have ok := fN_ok (show sR (oS M0) np nb from h0.sR1) s f _ l hf o
          rw [fN_same h0 hf hw s, o] at o2
          obtain rfl := Option.some.inj o2
          rw [r1, if_neg pn_10]
          refine ⟨_, _, M2, rfl, by rw [gw_upE, gw_rs], fun q q1 q2 q3 => by rw [gw_upN q1, a2 q q2 q3], b2, Or.inr ⟨s, l, by omega, by rw [gw_upE, gw_rs], ok.2.1, by rw [gw_upE, gw_rs], ?_, rw2, ok.2.2⟩⟩
          exact fRw_fr l 0 (fun i hi => ⟨by rw [gw_upN (show 18 ≠ 15 by omega)], by rw [gw_upN (show 19 ≠ 15 by omega)]⟩) rw1
theorem cC.find (h0 : cC w np nb S M) (hf : f < nb) (hw : M 32 f = -1) : ∃ r S' M', f_X1_find (nI f) S = some (r, S') ∧ gw_bd (f_X9_findFar M) (fun S12 => f_X9_findChain_b10 gw_F (nI f) (1 : Int32) S12) = some (r, M') ∧ (∀ q, ¬ (15 ≤ q ∧ q ≤ 19) → S' q = S q) ∧ (∀ q, ¬ (39 ≤ q ∧ q ≤ 42) → M' q = M q) ∧ cR np nb r S' M' := by
  have hnb := h0.1.1.1.2
  have hnp := h0.1.1.1.1
  have r7 : rg 0 3 (M 3 7) := (h0.2.1 7 (by omega)).2.1
  obtain ⟨ms, -, hms, e7⟩ := rg_nI (lo := 0) (n := 3) r7 (by omega)
  have h1 : cC w np nb (gw_up S 15 5 0) M := h0.scr (fun r hr => gw_upN (by omega)) (fun _ _ => rfl)
  obtain ⟨S1, a1, a2, a3⟩ := rd_l (v := nI ms) hf nb gw_F (gw_up S 15 5 0) (Nat.le_refl nb) (Nat.lt_of_le_of_lt hnb (by decide)) h1 (fun j hj => absurd hj (by omega))
  rw [Nat.sub_self, show nI 0 = (0 : Int32) from rfl] at a1
  have hR := h0.sR2 (f := f)
  have q1 : ∀ r, ¬ (15 ≤ r ∧ r ≤ 19) → S1 r = S r := fun r hr => by rw [a2 r (by omega) (by omega), gw_upN (by omega)]
  have hK : nK (aSo M f) np nb S1 := ⟨fun j hj p hp => (a3 j hj).1.1 p hp, fun j hj => by
    rcases (a3 j hj).1.2 with q | q
    · rw [q]; exact ⟨by decide, by decide⟩
    · rw [q]; exact ⟨by decide, by decide⟩⟩
  obtain ⟨S2, b1, b2, b3, b4⟩ := sp_n hR hnp hms hf ms gw_F S1 (Nat.le_refl ms) (Nat.lt_of_le_of_lt hms (by decide)) (by rw [q1 3 (by omega)]; exact h0.1.1.2.1.1) (by rw [q1 3 (by omega)]; exact h0.1.1.2.1.2.1) (by rw [q1 29 (by omega)]; exact h0.1.1.2.1.2.2.2) (by rw [q1 _ (by omega)]; exact (h0.1.b hf).1.1) hK (by
    rw [Nat.sub_self]
    intro s hs j hj hp
    obtain rfl : s = 0 := by omega
    rw [(a3 j hj).2 hp]; decide)
  rw [Nat.sub_self, show nI 0 = (0 : Int32) from rfl] at b1
  obtain ⟨M1, f1, f2, f3, f4⟩ := h0.findFar
  have p1 : ∀ r, ¬ (39 ≤ r ∧ r ≤ 42) → M1 r = M r := fun r hr => f2 r (by omega)
  obtain ⟨r, S', M', c1, c2, c3, c4, c5⟩ := ch_l h0 (fa := M1 39) ⟨f3, f4⟩ hf hw hms e7 (ms + 1) gw_F gw_F (gw_up S2 18 0 (nI f)) M1 (Nat.le_refl _) (Nat.lt_of_le_of_lt (show ms + 1 ≤ 4 by omega) (by decide)) (Nat.lt_of_le_of_lt (show ms + 1 ≤ 4 by omega) (by decide)) ((show fK (aSo M f) np nb ms S2 from ⟨by rw [b2 3 (by omega), q1 3 (by omega)]; exact h0.1.1.2.1.1, b3, b4⟩).fr (fun r h1 h2 => gw_upN h1)) (by rw [gw_upE, gw_rs]) (fun r h1 h2 h3 => f2 r h1) rfl
  rw [Nat.sub_self, show nI 0 = (0 : Int32) from rfl, show nI (0 + 1) = (1 : Int32) from rfl] at *
  refine ⟨r, S', M', ?_, by rw [f1, gw_bdS]; exact c2, fun q hq => by rw [c3 q (by omega) (by omega) (by omega), gw_upN (by omega), b2 q (by omega), q1 q hq], fun q hq => by rw [c4 q (by omega) (by omega), f2 q (by omega)], c5⟩
  unfold f_X1_find
  rw [h0.2.1.t7, gw_bdS, e7, gw_letS, gw_letS, if_neg (show ¬ (3 : Int32) < nI ms by rw [ps_ltI, nI_toInt (by omega), pz_3]; omega), a1, b1]
  exact c1
/-- what a search does: none is asked for, or none is wanted, or both search alike -/
theorem rR.search (h : rR w S M) (x1 : Int32) : (f_X8_chain x1 S = some (-1, S) ∧ f_X9_isThere x1 M = some 0) ∨ (f_X8_chain x1 S = some (-2, S) ∧ f_X9_isThere x1 M = some 1 ∧ f_X9_isOpen x1 M = some 0) ∨ ∃ r S' M' np nb t, f_X8_chain x1 S = some (r, S') ∧ f_X9_isThere x1 M = some 1 ∧ f_X9_isOpen x1 M = some 1 ∧ f_X9_findChain x1 M = some (r, M') ∧ rA w np nb S' M' ∧ rC t S' M' ∧ cR np nb r S' M' := by
  obtain ⟨np, nb, t, hA, hT, hY, hO, hS, hI, hL⟩ := h
  unfold f_X8_chain
  rcases hA.1.booking x1 with ⟨j, hj, rfl, d1, d2⟩ | ⟨d1, d2⟩
  · rw [d1, gw_bdS, if_neg (hA.nb1 hj), gw_gdT (hA.gb hj), (hA.waits hj).1, gw_bdS]
    by_cases c : M 32 j = -1 ∧ ¬ 0 ≤ M 31 j
    · rw [if_pos c, if_neg pn_10]
      obtain ⟨M1, e1, e2, e3, e4, e5⟩ := hL.find
      have hA' := hA.lies e2 e3
      have hC' : rC t S M1 := rC.lies ⟨hT, hY, hO, hS, hI, hL⟩ e2 e3
      obtain ⟨r, S', M', b1, b2, b3, b4, b5⟩ := (show cC w np nb S M1 from ⟨hA', hC'.1, hC'.2.2.1, e4⟩).find hj (by rw [e2 32 (by omega) (by omega) (by omega)]; exact c.1)
      refine Or.inr (Or.inr ⟨r, S', M', np, nb, t, by rw [b1, gw_b2S], d2, by rw [(hA.waits hj).2, if_pos c], ?_, hA'.scr b3 b4, hC'.scr b3 b4, b5⟩)
      unfold f_X9_findChain
      rw [e1, gw_bdS, b2]
    · rw [if_neg c, if_pos rfl]
      exact Or.inr (Or.inl ⟨rfl, d2, by rw [(hA.waits hj).2, if_neg c]⟩)
  · rw [d1, gw_bdS, if_pos rfl]
    exact Or.inl ⟨rfl, d2⟩
theorem so_chain (h : rR w S M) : gw_ex w (f_X8_chain x1 S) (f_X9_chain x1 M) := by
  unfold f_X9_chain
  rcases h.search x1 with ⟨a1, a2⟩ | ⟨a1, a2, a3⟩ | ⟨r, S', M', np, nb, t, a1, a2, a3, a4, a5, a6, a7⟩
  · rw [a1, a2, gw_bdS, if_pos rfl]; exact gx rfl h
  · rw [a1, a2, gw_bdS, if_neg pn_10, a3, gw_bdS, if_pos rfl]; exact gx rfl h
  · rw [a1, a2, gw_bdS, if_neg pn_10, a3, gw_bdS, if_neg pn_10, a4, gw_b2S]; exact gx rfl (a6.rR a5)
theorem so_link (h : rR w S M) : gw_ex w (f_X8_link x1 x2 x3 S) (f_X9_link x1 x2 x3 M) := by
  unfold f_X8_link f_X9_link
  rw [ps_isIn, ps_br, ps_in, ps_br, pz_0, pz_1, pq_0, pq_1]
  rcases h.search x1 with ⟨a1, a2⟩ | ⟨a1, a2, a3⟩ | ⟨r, S', M', np, nb, t, a1, a2, a3, a4, a5, a6, a7⟩
  · rw [a1, a2, gw_bdS, gw_b2S, if_pos rfl, if_neg (show ¬ (0 : Int32) ≤ -1 by decide)]
    repeat' split
    all_goals exact gx rfl h
  · rw [a1, a2, gw_bdS, gw_b2S, if_neg pn_10, a3, gw_bdS, if_pos rfl, if_neg (show ¬ (0 : Int32) ≤ -2 by decide)]
    by_cases c1 : x2 < 0
    · rw [if_pos c1, if_pos c1]; exact gx rfl h
    · rw [if_neg c1, if_neg c1]
      split <;> exact gx rfl h
  · rw [a1, a2, gw_bdS, gw_b2S, if_neg pn_10, a3, gw_bdS, if_neg pn_10, a4, gw_b2S]
    by_cases c1 : x2 < 0
    · rw [if_pos c1, if_pos c1]; exact gx rfl h
    · rw [if_neg c1, if_neg c1]
      by_cases c2 : 0 ≤ x3.toInt ∧ x3.toInt ≤ 1
      · rw [if_pos c2, if_pos c2]
        have fin := a6.rR a5
        rcases a7 with e | ⟨s, l, hs, e, hl, h15, r1, r2, -⟩
        · rw [e, if_neg (by decide), if_neg (by decide)]; exact gx rfl fin
        · rw [e, if_pos (pn_p0 (by omega)), if_pos (pn_p0 (by omega))]
          by_cases c3 : x2 < nI (s + 1)
          · obtain ⟨i, hi, rfl⟩ := nI_of c1
            have hi2 : i < s + 1 := by rw [ps_ltI, nI_toInt hi, nI_toInt (by omega)] at c3; omega
            obtain ⟨x, -, k1, k2, k3, k4⟩ := fRw_two l 0 r1 r2 i (by omega)
            rw [Nat.zero_add] at k1 k2 k3 k4
            have g4 : gw_in (nI i) 4 := pi_in (show i < 4 by omega) (by omega)
            have g8 : gw_in (nI i) 8 := pi_in (show i < 8 by omega) (by omega)
            have n4 : ¬ (4 : Int32) ≤ nI i := pn_le (n := 4) (by omega) (by omega)
            unfold f_X1_bookingIn f_X1_pieceIn
            rw [if_pos c3, if_pos c3, if_neg c1, if_neg c1, h15, if_neg (show ¬ nI (s + 1) ≤ nI i from pn_le hi2 (by omega)), if_neg (show ¬ nI (s + 1) ≤ nI i from pn_le hi2 (by omega)), if_neg n4, if_neg n4, gw_gdT g4, gw_gdT g4, gw_gdT g8, gw_gdT g8, nI_clamp hi, k1, k2, k3, k4, gw_bdS, gw_bdS]
            split <;> exact gx rfl fin
          · rw [if_neg c3, if_neg c3]; exact gx rfl fin
      · rw [if_neg c2, if_neg c2]; exact gx rfl h
theorem pf_l {s : Nat} (hs : s ≤ 3) : ∀ (l : List (Nat × Nat)) (k n n' : Nat) (S M : gw_S), k + l.length = s + 1 → l.length < n → l.length < n' → rA w np nb S M → rC t S M → S 15 5 = nI (s + 1) → fRw 18 19 S l k → fRw 40 41 M l k → (∀ x, x ∈ l → x.1 < nb ∧ x.2 < np) → ∃ S' M', f_X1_perform_b2 n (nI k) S = some S' ∧ f_X9_swap_b29 n' (nI (s + 1)) (nI k) M = some (nI (s + 1), M') ∧ rR w S' M'
  | [], k, n + 1, n' + 1, S, M, hk, _, _, hA, hC, h15, _, _, _ => by
    have : k = s + 1 := by simpa using hk
    subst this
    rw [f_X1_perform_b2, f_X9_swap_b29, h15, if_pos (nI_le (Nat.le_refl _) (by omega)), if_pos (nI_le (Nat.le_refl _) (by omega))]
    exact ⟨S, M, rfl, rfl, hC.rR hA⟩
  | (b, p) :: l, k, n + 1, n' + 1, S, M, hk, hn, hn', hA, hC, h15, r1, r2, hx => by
    obtain ⟨k1, k2, r1⟩ := r1
    obtain ⟨k3, k4, r2⟩ := r2
    have hbp := hx (b, p) List.mem_cons_self
    have hb : b < nb := hbp.1
    have hp : p < np := hbp.2
    simp only [List.length_cons] at hk hn hn'
    have hk2 : k < s + 1 := by omega
    have n4 : ¬ (4 : Int32) ≤ nI k := pn_le (n := 4) (by omega) (by omega)
    have g4 : gw_in (nI k) 4 := pi_in (show k < 4 by omega) (by omega)
    have ck : (nI k).toNatClampNeg = k := nI_clamp (by omega)
    have b1 : f_X1_bookingIn (nI k) S = some (nI b) := by
      unfold f_X1_bookingIn
      rw [if_neg (pn_n0 (by omega)), h15, if_neg (pn_le hk2 (by omega)), if_neg n4, gw_gdT g4, ck, k1]
    have b2 : f_X1_pieceIn (nI k) S = some (nI p) := by
      unfold f_X1_pieceIn
      rw [if_neg (pn_n0 (by omega)), h15, if_neg (pn_le hk2 (by omega)), if_neg n4, gw_gdT g4, ck, k2]
    rw [f_X1_perform_b2, f_X9_swap_b29, h15, if_neg (pn_le hk2 (by omega)), if_neg (pn_le hk2 (by omega)), b1, gw_bdS, hA.1.bookingAt hb, gw_bdS, b2, gw_bdS, hA.1.pieceAt hp, gw_bdS, if_neg (hA.nb1 hb), if_neg (hA.np1 hp), gw_gdT (hA.gb hb), gw_letS, hA.cb hb, gw_gdT (pi_in (show k < 8 by omega) (by omega)), ck, k3, k4, gw_gdT (hA.inb hb), gw_letS, hA.cb hb]
    unfold f_X1_perform_b49
    rw [gw_letS, gw_letS, pn_a1]
    exact pf_l hs l (k + 1) n n' _ _ (by omega) (by omega) (by omega) (hA.give hb (Or.inr ⟨p, hp, rfl⟩)) hC.give (by rw [gw_upN (by omega)]; exact h15) (fRw_fr l (k + 1) (fun i _ => ⟨by rw [gw_upN (by omega)], by rw [gw_upN (by omega)]⟩) r1) (fRw_fr l (k + 1) (fun i _ => ⟨by rw [gw_upN (show 40 ≠ 32 by omega)], by rw [gw_upN (show 41 ≠ 32 by omega)]⟩) r2) (fun x h => hx x (List.mem_cons_of_mem _ h))
theorem so_swap (h : rR w S M) : gw_ex w (f_X8_swap x1 S) (f_X9_swap x1 M) := by
  unfold f_X8_swap f_X9_swap
  rcases h.search x1 with ⟨a1, a2⟩ | ⟨a1, a2, a3⟩ | ⟨r, S', M', np, nb, t, a1, a2, a3, a4, a5, a6, a7⟩
  · rw [a1, a2, gw_bdS, gw_b2S, if_pos rfl, if_pos (show (-1 : Int32) ≤ 0 by decide)]; exact gx rfl h
  · rw [a1, a2, gw_bdS, gw_b2S, if_neg pn_10, a3, gw_bdS, if_pos rfl, if_pos (show (-2 : Int32) ≤ 0 by decide)]; exact gx rfl h
  · rw [a1, a2, gw_bdS, gw_b2S, if_neg pn_10, a3, gw_bdS, if_neg pn_10, a4, gw_b2S]
    rcases a7 with e | ⟨s, l, hs, e, hl, h15, r1, r2, hx⟩
    · have gF : f_X9_swap_b29 gw_F (-4) 0 M' = some (-4, M') := by
        show f_X9_swap_b29 (999999999 + 1) (-4) 0 M' = _
        rw [f_X9_swap_b29, if_pos (by decide)]
      rw [e, if_pos (by decide), gF]; exact gx rfl (a6.rR a5)
    · obtain ⟨S2, M2, k1, k2, k3⟩ := pf_l hs l 0 gw_F gw_F S' M' (by omega) (Nat.lt_of_le_of_lt (show l.length ≤ 4 by omega) (by decide)) (Nat.lt_of_le_of_lt (show l.length ≤ 4 by omega) (by decide)) a5 a6 h15 r1 r2 hx
      rw [show nI 0 = (0 : Int32) from rfl] at k1 k2
      unfold f_X1_perform
      rw [e, if_neg (show ¬ nI (s + 1) ≤ 0 from pn_le (n := 0 + (s + 1)) (j := 0) (by omega) (by omega) |> fun _ => by rw [ps_leI, nI_toInt (by omega), Int32.toInt_zero]; omega), k1, gw_bdS, k2]
      exact gx rfl k3
end RCH
end
section
section RTA
variable {w np nb t i j p q c a b f k : Nat} {S S0 S1 M M0 M1 S' M' : gw_S} {x x1 x2 x3 x4 x5 x6 u z v r cap e : Int32} {d : Nat → Int32}
def tC (t : Nat) (d : Nat → Int32) (S : gw_S) : Prop := S 1 1 = nI t ∧ ∀ i, i < t → S 2 i = d i
def tM (t : Nat) (d : Nat → Int32) (M : gw_S) : Prop := M 0 5 = nI t ∧ ∀ i, i < t → M 5 i = d i
def tD (t : Nat) (d : Nat → Int32) : Prop := t ≤ 60 ∧ ∀ i, i < t → rg 32 126 (d i)
def sg (t : Nat) (d : Nat → Int32) (q : Nat) : Int32 := if q < t then d q else -1
theorem up_up : gw_up (gw_up M k i u) k i v = gw_up M k i v := by
  funext q f
  by_cases e : q = k
  · subst e
    rw [gw_upE, gw_upE, gw_upE]
    unfold upd
    split <;> rfl
  · rw [gw_upN e, gw_upN e, gw_upN e]
theorem up_id (h : M k i = v) : gw_up M k i v = M := by
  funext q f
  by_cases e : q = k
  · subst e
    rw [gw_upE]
    unfold upd
    split
    · rename_i e; rw [e]; exact h.symm
    · rfl
  · rw [gw_upN e]
theorem tM.at (h : tM t d M) (v : Int32) : tM t d (gw_up M 0 6 v) := h
theorem tC.sign (h : tC t d S) (hD : tD t d) (hp : p ≤ t) : f_X6_signAt (nI p) S = some (sg t d p) := by
  have := hD.1
  unfold f_X6_signAt sg
  rw [if_neg (pn_n0 (by omega)), h.1]
  by_cases c : p < t
  · rw [if_neg (pn_le c (by omega)), gw_gdT (pi_in (by omega) (by omega)), nI_clamp (by omega), h.2 p c, if_pos c]
  · rw [if_pos (nI_le (by omega) (by omega)), if_neg c]
theorem bl_l (hD : tD t d) : ∀ (k p : Nat), p + k = t → ∃ q, p ≤ q ∧ q ≤ t ∧ (∀ S n, tC t d S → k < n → f_X6_behindBlanks_b2 S n (nI p) = some (nI q)) ∧ ∀ M n, tM t d M → k < n → M 0 6 = nI p → f_X9_next_b0 n M = some (sg t d q, gw_up M 0 6 (nI q))
  | 0, p, hp => by
    have := hD.1
    refine ⟨p, Nat.le_refl p, by omega, fun S n h hn => ?_, fun M n h hn h6 => ?_⟩
    · cases n with
      | zero => omega
      | succ n => rw [f_X6_behindBlanks_b2, h.1, if_pos (nI_le (by omega) (by omega))]
    · cases n with
      | zero => omega
      | succ n =>
        unfold sg
        rw [f_X9_next_b0, h.1, h6, if_pos (nI_le (by omega) (by omega)), if_neg (by omega), up_id h6]
        unfold f_X9_next_b38
        rw [h.1, h6, if_pos (nI_le (by omega) (by omega))]
  | k + 1, p, hp => by
    have ht := hD.1
    have hpt : p < t := by omega
    by_cases c : d p = 32
    · obtain ⟨q, q1, q2, q3, q4⟩ := bl_l hD k (p + 1) (by omega)
      refine ⟨q, by omega, q2, fun S n h hn => ?_, fun M n h hn h6 => ?_⟩
      · cases n with
        | zero => omega
        | succ n =>
          rw [f_X6_behindBlanks_b2, h.1, if_neg (pn_le hpt (by omega)), h.sign hD (by omega), gw_bdS]
          unfold sg
          rw [if_pos hpt, if_pos c, gw_letS, pn_a1]
          exact q3 S n h (by omega)
      · cases n with
        | zero => omega
        | succ n =>
          rw [f_X9_next_b0, h.1, h6, if_neg (pn_le hpt (by omega)), gw_gdT (pi_in (show p < 60 by omega) (by omega)), nI_clamp (by omega), h.2 p hpt, if_pos c, gw_letS, pn_a1, q4 (gw_up M 0 6 (nI (p + 1))) n (h.at _) (by omega) (by rw [gw_upE, gw_rs]), up_up]
    · refine ⟨p, Nat.le_refl p, by omega, fun S n h hn => ?_, fun M n h hn h6 => ?_⟩
      · cases n with
        | zero => omega
        | succ n =>
          rw [f_X6_behindBlanks_b2, h.1, if_neg (pn_le hpt (by omega)), h.sign hD (by omega), gw_bdS]
          unfold sg
          rw [if_pos hpt, if_neg c]
      · cases n with
        | zero => omega
        | succ n =>
          unfold sg
          rw [f_X9_next_b0, h.1, h6, if_neg (pn_le hpt (by omega)), gw_gdT (pi_in (show p < 60 by omega) (by omega)), nI_clamp (by omega), h.2 p hpt, if_neg c, up_id h6]
          unfold f_X9_next_b38
          rw [h.1, h6, if_neg (pn_le hpt (by omega)), gw_gdT (pi_in (show p < 60 by omega) (by omega)), nI_clamp (by omega), h.2 p hpt, if_pos hpt]
/-- a number as it grows, there and here -/
def nV (cap c v : Int32) : Prop := (c = v ∧ 0 ≤ v.toInt ∧ v.toInt ≤ cap.toInt) ∨ (c.toInt = cap.toInt + 1 ∧ cap.toInt < v.toInt)
theorem pn_mul10 (h : 0 ≤ x.toInt ∧ x.toInt ≤ 1000) : (x * 10).toInt = x.toInt * 10 ∧ (10 * x).toInt = x.toInt * 10 := by
  have z : (10 : Int32).toInt = 10 := by decide
  constructor
  · rw [Int32.toInt_mul, z, Int.bmod_eq_of_le] <;> omega
  · rw [Int32.toInt_mul, z, Int.mul_comm, Int.bmod_eq_of_le] <;> omega
theorem nV.step (hcap : 0 ≤ cap.toInt ∧ cap.toInt ≤ 999) (he : 48 ≤ e.toInt ∧ e.toInt ≤ 57) (h : nV cap x v) : nV cap (if ((x * 10 + e) - 48) < (cap + 1) then ((x * 10 + e) - 48) else (cap + 1)) (if v ≤ cap then ((10 * v + e) - 48) else v) := by
  have z48 : (48 : Int32).toInt = 48 := by decide
  have hx : 0 ≤ x.toInt ∧ x.toInt ≤ 1000 := by
    rcases h with ⟨h1, h2, h3⟩ | ⟨h1, h2⟩
    · subst h1; omega
    · omega
  have m1 := pn_mul10 hx
  have a1 : ((x * 10 + e) - 48).toInt = x.toInt * 10 + e.toInt - 48 := by
    have := pn_add (x := x * 10) (y := e) (by omega) (by omega)
    rw [pn_sbi (by omega) (by omega), this, m1.1, z48]
  have a2 : ((10 * x + e) - 48).toInt = x.toInt * 10 + e.toInt - 48 := by
    have := pn_add (x := 10 * x) (y := e) (by omega) (by omega)
    rw [pn_sbi (by omega) (by omega), this, m1.2, z48]
  have c1 : (cap + 1).toInt = cap.toInt + 1 := by rw [pn_add (by omega) (by rw [pz_1]; omega), pz_1]
  rcases h with ⟨h1, h2, h3⟩ | ⟨h1, h2⟩
  · subst h1
    rw [if_pos (show x ≤ cap by rw [ps_leI]; omega)]
    by_cases c : ((x * 10 + e) - 48) < (cap + 1)
    · rw [if_pos c]
      rw [ps_ltI, a1, c1] at c
      exact Or.inl ⟨by rw [← Int32.toInt_inj, a1, a2], by rw [a2]; omega, by rw [a2]; omega⟩
    · rw [if_neg c]
      rw [ps_ltI, a1, c1] at c
      exact Or.inr ⟨c1, by rw [a2]; omega⟩
  · rw [if_neg (show ¬ v ≤ cap by rw [ps_leI]; omega), if_neg (show ¬ ((x * 10 + e) - 48) < (cap + 1) by rw [ps_ltI, a1, c1]; omega)]
    exact Or.inr ⟨c1, h2⟩
theorem dg_l (hD : tD t d) (hcap : 0 ≤ cap.toInt ∧ cap.toInt ≤ 999) : ∀ (k p : Nat), p + k = t → ∃ q, p ≤ q ∧ q ≤ t ∧ (∀ S n, tC t d S → k < n → f_X6_behindDigits_b2 S n (nI p) = some (nI q)) ∧ ∀ c v, nV cap c v → ∃ c' v', nV cap c' v' ∧ (∀ S n, tC t d S → k < n → f_X6_numberIn_b6 S n (nI q) cap c (nI p) = some c') ∧ ∀ M n v2 v3, tM t d M → k < n → M 0 6 = nI p → f_X9_number_b13 n cap v2 v3 v M = f_X9_number_b90 cap v2 v3 v' (gw_up M 0 6 (nI q))
  | 0, p, hp => by
    have := hD.1
    refine ⟨p, Nat.le_refl p, by omega, fun S n h hn => ?_, fun c v hv => ⟨c, v, hv, fun S n h hn => ?_, fun M n v2 v3 h hn h6 => ?_⟩⟩
    · cases n with
      | zero => omega
      | succ n => rw [f_X6_behindDigits_b2, h.1, if_pos (nI_le (by omega) (by omega))]
    · cases n with
      | zero => omega
      | succ n => rw [f_X6_numberIn_b6, if_pos (nI_le (by omega) (by omega))]
    · cases n with
      | zero => omega
      | succ n => rw [f_X9_number_b13, h.1, h6, if_pos (nI_le (by omega) (by omega)), up_id h6]
  | k + 1, p, hp => by
    have ht := hD.1
    have hpt : p < t := by omega
    have hdp := hD.2 p hpt
    have z48 : (48 : Int32).toInt = 48 := by decide
    have z57 : (57 : Int32).toInt = 57 := by decide
    have dig : ∀ S, tC t d S → f_X6_isDigitAt (nI p) S = some (if 48 ≤ (d p).toInt ∧ (d p).toInt ≤ 57 then 1 else 0) := fun S h => by
      unfold f_X6_isDigitAt
      rw [h.sign hD (by omega), gw_bdS]
      unfold sg
      rw [if_pos hpt]
      by_cases c1 : d p < 48
      · rw [if_pos c1]; rw [ps_ltI, z48] at c1; rw [if_neg (by omega)]
      · rw [if_neg c1]; rw [ps_ltI, z48] at c1
        by_cases c2 : 57 < d p
        · rw [if_pos c2]; rw [ps_ltI, z57] at c2; rw [if_neg (by omega)]
        · rw [if_neg c2]; rw [ps_ltI, z57] at c2; rw [if_pos (by omega)]
    by_cases c : 48 ≤ (d p).toInt ∧ (d p).toInt ≤ 57
    · obtain ⟨q, q1, q2, q3, q4⟩ := dg_l hD hcap k (p + 1) (by omega)
      refine ⟨q, by omega, q2, fun S n h hn => ?_, fun x v hv => ?_⟩
      · cases n with
        | zero => omega
        | succ n =>
          rw [f_X6_behindDigits_b2, h.1, if_neg (pn_le hpt (by omega)), dig S h, gw_bdS, if_pos c, if_neg pn_10, gw_letS, pn_a1]
          exact q3 S n h (by omega)
      · obtain ⟨c', v', k1, k2, k3⟩ := q4 _ _ (hv.step hcap c)
        refine ⟨c', v', k1, fun S n h hn => ?_, fun M n v2 v3 h hn h6 => ?_⟩
        · cases n with
          | zero => omega
          | succ n =>
            rw [f_X6_numberIn_b6, if_neg (pn_le (by omega) (by omega)), h.sign hD (by omega), gw_bdS]
            unfold sg
            rw [if_pos hpt, gw_letS, gw_letS, pn_a1]
            exact k2 S n h (by omega)
        · cases n with
          | zero => omega
          | succ n =>
            have kk := k3 (gw_up M 0 6 (nI (p + 1))) n v2 v3 (h.at _) (by omega) (by rw [gw_upE, gw_rs])
            rw [up_up] at kk
            rw [f_X9_number_b13, h.1, h6, if_neg (pn_le hpt (by omega)), gw_gdT (pi_in (show p < 60 by omega) (by omega)), nI_clamp (by omega), h.2 p hpt, ps_in, ps_br, pq_48, pq_57, if_pos c]
            unfold f_X9_number_b75
            rw [gw_letS, gw_letS, h6, pn_a1]
            by_cases c9 : v ≤ cap
            · rw [if_pos c9] at kk ⊢; exact kk
            · rw [if_neg c9] at kk ⊢; exact kk
    · refine ⟨p, Nat.le_refl p, by omega, fun S n h hn => ?_, fun x v hv => ⟨x, v, hv, fun S n h hn => ?_, fun M n v2 v3 h hn h6 => ?_⟩⟩
      · cases n with
        | zero => omega
        | succ n => rw [f_X6_behindDigits_b2, h.1, if_neg (pn_le hpt (by omega)), dig S h, gw_bdS, if_neg c, if_pos rfl]
      · cases n with
        | zero => omega
        | succ n => rw [f_X6_numberIn_b6, if_pos (nI_le (by omega) (by omega))]
      · cases n with
        | zero => omega
        | succ n => rw [f_X9_number_b13, h.1, h6, if_neg (pn_le hpt (by omega)), gw_gdT (pi_in (show p < 60 by omega) (by omega)), nI_clamp (by omega), h.2 p hpt, ps_in, ps_br, pq_48, pq_57, if_neg c, up_id h6]
/-- letters -/
def mL (M : gw_S) : Prop := ∀ j, j < 8 → M 1 j = gw_LET j ∧ M 2 j = gw_MST j
theorem pl_l (hL : mL M) (v : Int32) : ∀ k, k ≤ 8 → ∀ n, k < n → ∃ r, f_X7_placeOf_b2 S n v (nI (8 - k)) = some r ∧ f_X9_termOf_b2 M n v (nI (8 - k)) = some r ∧ (r = -1 ∨ ∃ j, j < 8 ∧ r = nI j ∧ gw_LET j = v)
  | 0, _, n + 1, _ => ⟨-1, by rw [f_X7_placeOf_b2, if_pos (by decide)], by rw [f_X9_termOf_b2, if_pos (by decide)], Or.inl rfl⟩
  | k + 1, hk, n + 1, hn => by
    have hj : 8 - (k + 1) < 8 := by omega
    have hg : gw_in (nI (8 - (k + 1))) 8 := ps_gin (by rw [nI_toInt (by omega)]; omega)
    rw [f_X7_placeOf_b2, f_X9_termOf_b2, if_neg (show ¬ (8 : Int32) ≤ nI (8 - (k + 1)) from pn_le (n := 8) hj (by omega)), if_neg (show ¬ (8 : Int32) ≤ nI (8 - (k + 1)) from pn_le (n := 8) hj (by omega)), gw_gdT hg, gw_gdT hg, nI_clamp (by omega), (hL _ hj).1]
    by_cases h : gw_LET (8 - (k + 1)) = v
    · rw [if_pos h, if_pos h]; exact ⟨_, rfl, rfl, Or.inr ⟨_, hj, rfl, h⟩⟩
    · rw [if_neg h, if_neg h, gw_letS, gw_letS, pn_s hk]
      exact pl_l hL v k (by omega) n (by omega)
theorem pl_o (hL : mL M) (v : Int32) : ∃ r, f_X7_placeOf v S = some r ∧ f_X9_termOf v M = some r ∧ (r = -1 ∨ ∃ j, j < 8 ∧ r = nI j ∧ gw_LET j = v) := by
  have := pl_l (S := S) hL v 8 (Nat.le_refl 8) gw_F (by decide)
  rw [Nat.sub_self, show nI 0 = (0 : Int32) from rfl] at this
  exact this
theorem let_no : ∀ j, j < 8 → ¬ gw_LET j = -1 := by decide
theorem mst_r : ∀ j, j < 8 → 0 ≤ (gw_MST j).toInt ∧ (gw_MST j).toInt ≤ 999 := by decide
/-- TERMS that are read: there and here -/
def rQ (S M : gw_S) : Prop := ∀ j, j < 8 → S 6 j = M 4 j ∧ rg 0 (gw_MST j).toInt (M 4 j)
theorem cp_65 : ∀ (k n : Nat) (S : gw_S), k ≤ 8 → k < n → ∃ S1, f_X7_copy_6_5_b2 n (nI (8 - k)) S = some S1 ∧ (∀ q, q ≠ 5 → S1 q = S q) ∧ ∀ j, j < 8 → S1 5 j = if 8 - k ≤ j then S 6 j else S 5 j
  | 0, n + 1, S, _, _ => by
    rw [f_X7_copy_6_5_b2, if_pos (by decide)]
    exact ⟨S, rfl, fun _ _ => rfl, fun j hj => by rw [if_neg (by omega)]⟩
  | k + 1, n + 1, S, hk, hn => by
    have hm : 8 - (k + 1) < 8 := by omega
    rw [f_X7_copy_6_5_b2, if_neg (show ¬ (8 : Int32) ≤ nI (8 - (k + 1)) from pn_le (n := 8) hm (by omega)), gw_gdT (pi_in hm (by omega)), nI_clamp (by omega), gw_letS, gw_letS, pn_s hk]
    obtain ⟨S1, a1, a2, a3⟩ := cp_65 k n (gw_up S 5 (8 - (k + 1)) (S 6 (8 - (k + 1)))) (by omega) (by omega)
    refine ⟨S1, a1, fun q hq => by rw [a2 q hq, gw_upN hq], fun j hj => ?_⟩
    rw [a3 j hj, gw_upE, gw_upN (show 6 ≠ 5 by omega)]
    by_cases e : j = 8 - (k + 1)
    · subst e; rw [gw_rs]; split
      · rw [if_pos (by omega)]
      · rw [if_pos (by omega)]
    · rw [gw_ru e]; split
      · rw [if_pos (by omega)]
      · rw [if_neg (by omega)]
theorem cp_56 : ∀ (k n : Nat) (S : gw_S), k ≤ 8 → k < n → ∃ S1, f_X7_copy_5_6_b2 n (nI (8 - k)) S = some S1 ∧ (∀ q, q ≠ 6 → S1 q = S q) ∧ ∀ j, j < 8 → S1 6 j = if 8 - k ≤ j then S 5 j else S 6 j
  | 0, n + 1, S, _, _ => by
    rw [f_X7_copy_5_6_b2, if_pos (by decide)]
    exact ⟨S, rfl, fun _ _ => rfl, fun j hj => by rw [if_neg (by omega)]⟩
  | k + 1, n + 1, S, hk, hn => by
    have hm : 8 - (k + 1) < 8 := by omega
    rw [f_X7_copy_5_6_b2, if_neg (show ¬ (8 : Int32) ≤ nI (8 - (k + 1)) from pn_le (n := 8) hm (by omega)), gw_gdT (pi_in hm (by omega)), nI_clamp (by omega), gw_letS, gw_letS, pn_s hk]
    obtain ⟨S1, a1, a2, a3⟩ := cp_56 k n (gw_up S 6 (8 - (k + 1)) (S 5 (8 - (k + 1)))) (by omega) (by omega)
    refine ⟨S1, a1, fun q hq => by rw [a2 q hq, gw_upN hq], fun j hj => ?_⟩
    rw [a3 j hj, gw_upE, gw_upN (show 5 ≠ 6 by omega)]
    by_cases e : j = 8 - (k + 1)
    · subst e; rw [gw_rs]; split
      · rw [if_pos (by omega)]
      · rw [if_pos (by omega)]
    · rw [gw_ru e]; split
      · rw [if_pos (by omega)]
      · rw [if_neg (by omega)]
theorem cp_34 : ∀ (k n : Nat) (S : gw_S), k ≤ 8 → k < n → ∃ S1, f_X9_readAll_b9 n v (nI (8 - k)) S = f_X9_readAll_b35 gw_F v 1 S1 ∧ (∀ q, q ≠ 4 → S1 q = S q) ∧ ∀ j, j < 8 → S1 4 j = if 8 - k ≤ j then S 3 j else S 4 j
  | 0, n + 1, S, _, _ => by
    rw [f_X9_readAll_b9, if_pos (by decide)]
    exact ⟨S, rfl, fun _ _ => rfl, fun j hj => by rw [if_neg (by omega)]⟩
  | k + 1, n + 1, S, hk, hn => by
    have hm : 8 - (k + 1) < 8 := by omega
    rw [f_X9_readAll_b9, if_neg (show ¬ (8 : Int32) ≤ nI (8 - (k + 1)) from pn_le (n := 8) hm (by omega)), gw_gdT (pi_in hm (by omega)), nI_clamp (by omega), gw_letS, gw_letS, pn_s hk]
    obtain ⟨S1, a1, a2, a3⟩ := cp_34 k n (gw_up S 4 (8 - (k + 1)) (S 3 (8 - (k + 1)))) (by omega) (by omega)
    refine ⟨S1, a1, fun q hq => by rw [a2 q hq, gw_upN hq], fun j hj => ?_⟩
    rw [a3 j hj, gw_upE, gw_upN (show 3 ≠ 4 by omega)]
    by_cases e : j = 8 - (k + 1)
    · subst e; rw [gw_rs]; split
      · rw [if_pos (by omega)]
      · rw [if_pos (by omega)]
    · rw [gw_ru e]; split
      · rw [if_pos (by omega)]
      · rw [if_neg (by omega)]
theorem cp_43 : ∀ (k n : Nat) (S : gw_S), k ≤ 8 → k < n → ∃ S1, f_X9_terms_b24 n v (nI (8 - k)) S = some (v, S1) ∧ (∀ q, q ≠ 3 → S1 q = S q) ∧ ∀ j, j < 8 → S1 3 j = if 8 - k ≤ j then S 4 j else S 3 j
  | 0, n + 1, S, _, _ => by
    rw [f_X9_terms_b24, if_pos (by decide)]
    exact ⟨S, rfl, fun _ _ => rfl, fun j hj => by rw [if_neg (by omega)]⟩
  | k + 1, n + 1, S, hk, hn => by
    have hm : 8 - (k + 1) < 8 := by omega
    rw [f_X9_terms_b24, if_neg (show ¬ (8 : Int32) ≤ nI (8 - (k + 1)) from pn_le (n := 8) hm (by omega)), gw_gdT (pi_in hm (by omega)), nI_clamp (by omega), gw_letS, gw_letS, pn_s hk]
    obtain ⟨S1, a1, a2, a3⟩ := cp_43 k n (gw_up S 3 (8 - (k + 1)) (S 4 (8 - (k + 1)))) (by omega) (by omega)
    refine ⟨S1, a1, fun q hq => by rw [a2 q hq, gw_upN hq], fun j hj => ?_⟩
    rw [a3 j hj, gw_upE, gw_upN (show 4 ≠ 3 by omega)]
    by_cases e : j = 8 - (k + 1)
    · subst e; rw [gw_rs]; split
      · rw [if_pos (by omega)]
      · rw [if_pos (by omega)]
    · rw [gw_ru e]; split
      · rw [if_pos (by omega)]
      · rw [if_neg (by omega)]
end RTA
end
section
section RTB
variable {w np nb t i j p q c a b f k : Nat} {S S0 S1 M M0 M1 S' M' : gw_S} {x x1 x2 x3 x4 x5 x6 u z v r cap e : Int32} {d : Nat → Int32}
def mFr (M M' : gw_S) : Prop := (∀ q, q ≠ 0 → q ≠ 4 → M' q = M q) ∧ ∀ i, i ≠ 6 → M' 0 i = M 0 i
def rEnd (S M : gw_S) (r : Int32) (S' M' : gw_S) (o : Option (Int32 × gw_S)) : Prop := (∀ q, q ≠ 5 → q ≠ 6 → S' q = S q) ∧ mFr M M' ∧ ((∃ m, m ≤ 8 ∧ r = nI m ∧ o = some (nI m, M') ∧ ∀ j, j < 8 → S' 5 j = M' 4 j ∧ rg 0 (gw_MST j).toInt (M' 4 j)) ∨ ∃ q, q ≤ 60 ∧ r = (-20 : Int32) - nI q ∧ M' 0 6 = nI q ∧ o = some (-1, M') ∧ S' 5 = S 5)
theorem mFr.at (v : Int32) : mFr M (gw_up M 0 6 v) := ⟨fun q h0 _ => gw_upN h0, fun i hi => by rw [gw_upE, gw_ru hi]⟩
theorem flt_neg (hq : q ≤ 60) : ¬ 0 ≤ (-20 : Int32) - nI q := by
  have z : (-20 : Int32).toInt = -20 := by decide
  rw [ps_leI, Int32.toInt_zero, pn_sbi (by omega) (by rw [nI_toInt (by omega)]; omega), nI_toInt (by omega), z]
  omega
theorem blF (hD : tD t d) (hp : p ≤ t) : ∃ q, p ≤ q ∧ q ≤ t ∧ (∀ S, tC t d S → f_X6_behindBlanks (nI p) S = some (nI q)) ∧ ∀ M, tM t d M → M 0 6 = nI p → f_X9_next M = some (sg t d q, gw_up M 0 6 (nI q)) := by
  have ht := hD.1
  obtain ⟨q, q1, q2, q3, q4⟩ := bl_l hD (t - p) p (by omega)
  have hF : t - p < gw_F := Nat.lt_of_le_of_lt (show t - p ≤ 60 by omega) (by decide)
  exact ⟨q, q1, q2, fun S h => q3 S gw_F h hF, fun M h h6 => q4 M gw_F h hF h6⟩
theorem rd_c (hD : tD t d) : ∀ (k n fu fu' p : Nat) (v2 : Int32) (S M : gw_S), n + k = 7 → k + 1 < fu → k + 1 < fu' → p ≤ t → v2 + 1 = nI p → tC t d S → tM t d M → M 0 6 = nI p → rQ S M → mL M → ∃ r S' M', f_X7_read_b15 fu v2 (nI (n + 1)) S = some (r, S') ∧ rEnd S M r S' M' (f_X9_readAll_b35 fu' (nI n) 1 M)
  | k, n, fu + 2, fu' + 2, p, v2, S, M, hn, hfu, hfu', hp, hv2, hC, hM, h6, hQ, hL => by
    have ht := hD.1
    obtain ⟨q1, a1, a2, a3, a4⟩ := blF hD hp
    obtain ⟨r, b1, b2, b3⟩ := pl_o (S := S) (show mL (gw_up M 0 6 (nI q1)) from hL) (sg t d q1)
    rw [f_X7_read_b15, f_X9_readAll_b35, if_neg pn_10, if_neg (show ¬ (8 : Int32) < nI (n + 1) by rw [ps_ltI, pz_8, nI_toInt (by omega)]; omega), hv2, a4 M hM h6, gw_b2S, b2, gw_bdS]
    unfold f_X7_readClause
    rw [a3 S hC, gw_bdS, hC.sign hD a2, gw_bdS, b1, gw_bdS]
    have flt : ∀ q, q ≤ 60 → ∀ M2, mFr M M2 → M2 0 6 = nI q → ∃ r S' M', gw_b2 (some ((-20 : Int32) - nI q, S)) (fun r2 S3 => (if 0 ≤ r2 then (if r2 < (S3 1 1) then gw_bd (f_X6_signAt r2 S3) (fun r7 => (if r7 = (59 : Int32) then gw_let (nI (n + 1) + (1 : Int32) : Int32) (fun y10 => (f_X7_read_b15 (fu + 1)) r2 y10 S3) else some (((-20 : Int32) - r2), S3))) else gw_bd (f_X7_copy_6_5 S3) (fun S12 => some (nI (n + 1), S12))) else some (r2, S3))) = some (r, S') ∧ rEnd S M r S' M' (some (-1, M2)) := fun q hq M2 h1 h2 => by
      rw [gw_b2S, if_neg (flt_neg hq)]
      exact ⟨_, S, M2, rfl, fun _ _ _ => rfl, h1, Or.inr ⟨q, hq, rfl, h2, rfl, rfl⟩⟩
    rcases b3 with e | ⟨j, hj, e, eL⟩
    · rw [e, if_neg (by decide), if_neg (by decide)]
      exact flt q1 (by omega) _ (mFr.at _) (by rw [gw_upE, gw_rs])
    · have hq1 : q1 < t := by
        by_cases c : q1 < t
        · exact c
        · unfold sg at eL; rw [if_neg c] at eL; exact absurd eL (let_no j hj)
      have hcap := mst_r j hj
      obtain ⟨q2, c1, c2, c3, c4⟩ := blF hD (show q1 + 1 ≤ t by omega)
      obtain ⟨q3, d1, d2, d3, d4⟩ := dg_l hD hcap (t - q2) q2 (by omega)
      have hF2 : t - q2 < gw_F := Nat.lt_of_le_of_lt (show t - q2 ≤ 60 by omega) (by decide)
      obtain ⟨c', v', e1, e2, e3⟩ := d4 0 0 (Or.inl ⟨rfl, by rw [Int32.toInt_zero]; omega, by rw [Int32.toInt_zero]; omega⟩)
      have m1 : gw_up (gw_up M 0 6 (nI q1)) 0 6 (gw_up M 0 6 (nI q1) 0 6 + 1) = gw_up M 0 6 (nI (q1 + 1)) := by rw [gw_upE, gw_rs, pn_a1, up_up]
      have numb : f_X9_number (gw_MST j) (gw_up M 0 6 (nI (q1 + 1))) = f_X9_number_b90 (gw_MST j) (sg t d q2) (nI q2) v' (gw_up M 0 6 (nI q3)) := by
        unfold f_X9_number
        rw [c4 _ (hM.at _) (by rw [gw_upE, gw_rs]), gw_b2S, gw_letS, up_up, gw_upE, gw_rs, e3 _ gw_F _ _ (hM.at _) hF2 (by rw [gw_upE, gw_rs]), up_up]
      have digs : f_X6_behindDigits (nI q2) S = some (nI q3) := d3 S gw_F hC hF2
      have cnum : f_X6_numberIn (nI q2) (nI q3) (gw_MST j) S = some c' := e2 S gw_F hC hF2
      rw [e, if_pos (pn_p0 (by omega)), if_pos (pn_p0 (by omega)), pn_a1, c3 S hC, gw_bdS, digs, gw_bdS, gw_letS, gw_gdT (pi_in hj (by omega)), gw_gdT (pi_in hj (by omega)), m1, nI_clamp (show j < 2 ^ 31 by omega), (show gw_up M 0 6 (nI (q1 + 1)) 2 j = gw_MST j from (hL j hj).2), numb, cnum, gw_bdS]
      unfold f_X9_number_b90 f_X9_number_b108
      rw [gw_letS, up_up, gw_upE, gw_rs]
      by_cases g1 : q3 = q2
      · subst g1
        rw [if_pos rfl, if_pos rfl, ite_self, gw_letS, gw_b2S (r := (-1 : Int32)), if_neg (show ¬ (0 : Int32) ≤ -1 by decide)]
        exact flt q3 (by omega) _ (mFr.at _) (by rw [gw_upE, gw_rs])
      · have hq2 : q2 < t := by omega
        have neq : ¬ nI q3 = nI q2 := fun e => g1 ((nI_eq (by omega) (by omega)).mp e)
        have sg2 : ¬ sg t d q2 < 0 := by
          unfold sg; rw [if_pos hq2, ps_ltI, Int32.toInt_zero]
          have := hD.2 q2 hq2; unfold rg at this; omega
        rw [if_neg neq, if_neg sg2, if_neg neq]
        rcases e1 with ⟨ev, v0, v1⟩ | ⟨ec, ev⟩
        · subst ev
          have le : c' ≤ gw_MST j := by rw [ps_leI]; exact v1
          have c0 : 0 ≤ c' := by rw [ps_leI, Int32.toInt_zero]; exact v0
          obtain ⟨q4, g2, g3, g4, g5⟩ := blF hD d2
          have hC' : tC t d (gw_up S 6 j c') := hC
          have hM' : tM t d (gw_up (gw_up M 0 6 (nI q3)) 4 j c') := hM
          rw [if_pos le, if_pos le, gw_b2S, if_pos c0, gw_letS, gw_letS, g4 _ hC', gw_bdS, gw_b2S, if_pos (pn_p0 (by omega)), g5 _ hM' (by rw [gw_upN (show 0 ≠ 4 by omega), gw_upE, gw_rs]), gw_b2S, (show gw_up S 6 j c' 1 1 = nI t from hC.1), hC'.sign hD g3, gw_bdS, pn_a1]
          obtain ⟨M5, eM5⟩ : ∃ M5, gw_up (gw_up (gw_up M 0 6 (nI q3)) 4 j c') 0 6 (nI q4) = M5 := ⟨_, rfl⟩
          have f5 : mFr M M5 := by
            rw [← eM5]
            exact ⟨fun q h0 h4 => by rw [gw_upN h0, gw_upN h4, gw_upN h0], fun i hi => by rw [gw_upE, gw_ru hi, gw_upN (show 0 ≠ 4 by omega), gw_upE, gw_ru hi]⟩
          have h56 : M5 0 6 = nI q4 := by rw [← eM5, gw_upE, gw_rs]
          have h54 : M5 4 = upd (M 4) j c' := by rw [← eM5, gw_upN (show 4 ≠ 0 by omega), gw_upE, gw_upN (show 4 ≠ 0 by omega)]
          have hQ5 : ∀ j', j' < 8 → gw_up S 6 j c' 6 j' = M5 4 j' ∧ rg 0 (gw_MST j').toInt (M5 4 j') := fun j' hj' => by
            rw [gw_upE, h54]
            by_cases e : j' = j
            · subst e; rw [gw_rs, gw_rs]; exact ⟨rfl, v0, v1⟩
            · rw [gw_ru e, gw_ru e]; exact hQ j' hj'
          rw [eM5]
          unfold f_X9_readAll_b120 f_X9_readAll_b130 f_X9_readAll_b145
          have z0 : nI q4 + (0 : Int32) = nI q4 := Int32.add_zero _
          rw [h56]
          simp only [gw_letS, z0, pn_a1]
          by_cases g6 : q4 < t
          · have sg4 : sg t d q4 = d q4 := by unfold sg; rw [if_pos g6]
            have n4 : ¬ d q4 < 0 := by
              rw [ps_ltI, Int32.toInt_zero]
              have := hD.2 q4 g6; unfold rg at this; omega
            rw [sg4, if_pos (pn_lt g6 (by omega)), if_neg n4, if_neg n4, if_neg pn_10]
            by_cases g7 : d q4 = 59
            · rw [if_pos g7, if_pos g7]
              cases k with
              | zero =>
                have n7 : n = 7 := by omega
                subst n7
                rw [if_pos (by decide), f_X7_read_b15, if_pos (by decide)]
                exact ⟨_, _, M5, rfl, fun q h5 h6 => gw_upN h6, f5, Or.inr ⟨q4, by omega, rfl, h56, rfl, rfl⟩⟩
              | succ k =>
                rw [if_neg (show ¬ nI (n + 1) = 8 from fun e => by have := (nI_eq (b := 8) (by omega) (by omega)).mp (show nI (n + 1) = nI 8 from e); omega)]
                have hC6 : tC t d (gw_up S 6 j c') := hC
                obtain ⟨r, S', M', k1, k2, k3, k4⟩ := rd_c hD k (n + 1) (fu + 1) (fu' + 1) (q4 + 1) (nI q4) (gw_up S 6 j c') (gw_up M5 0 6 (nI (q4 + 1))) (by omega) (by omega) (by omega) (by omega) pn_a1 hC6 ⟨by rw [gw_upE, gw_ru (by omega), f5.2 5 (by omega)]; exact hM.1, fun i hi => by rw [gw_upN (by omega), f5.1 5 (by omega) (by omega)]; exact hM.2 i hi⟩ (by rw [gw_upE, gw_rs]) hQ5 (fun j' hj' => by rw [gw_upN (show 1 ≠ 0 by omega), gw_upN (show 2 ≠ 0 by omega), f5.1 1 (by omega) (by omega), f5.1 2 (by omega) (by omega)]; exact hL j' hj')
                refine ⟨r, S', M', k1, fun q h5 h6 => by rw [k2 q h5 h6, gw_upN h6], ⟨fun q h0 h4 => by rw [k3.1 q h0 h4, gw_upN h0, f5.1 q h0 h4], fun i hi => by rw [k3.2 i hi, gw_upE, gw_ru hi, f5.2 i hi]⟩, ?_⟩
                rcases k4 with h | ⟨q, q1, q2, q3, q4, q5⟩
                · exact Or.inl h
                · exact Or.inr ⟨q, q1, q2, q3, q4, by rw [q5, gw_upN (show 5 ≠ 6 by omega)]⟩
            · rw [if_neg g7, if_neg g7]
              exact ⟨_, _, M5, rfl, fun q h5 h6 => gw_upN h6, f5, Or.inr ⟨q4, by omega, rfl, h56, rfl, rfl⟩⟩
          · have sg4 : sg t d q4 = -1 := by unfold sg; rw [if_neg g6]
            obtain ⟨S9, s1, s2, s3⟩ := cp_65 8 gw_F (gw_up S 6 j c') (Nat.le_refl 8) (by decide)
            rw [Nat.sub_self, show nI 0 = (0 : Int32) from rfl] at s1
            unfold f_X7_copy_6_5
            rw [sg4, if_neg (show ¬ nI q4 < nI t by rw [ps_ltI, nI_toInt (by omega), nI_toInt (by omega)]; omega), s1, gw_bdS, if_pos (show (-1 : Int32) < 0 by decide), if_pos (show (-1 : Int32) < 0 by decide), if_pos trivial, up_id h56, f_X9_readAll_b35, if_pos rfl]
            refine ⟨_, S9, M5, rfl, fun q h5 h6 => by rw [s2 q h5, gw_upN h6], f5, Or.inl ⟨n + 1, by omega, rfl, rfl, fun j' hj' => ?_⟩⟩
            rw [s3 j' hj', if_pos (by omega)]
            exact hQ5 j' hj'
        · have nle : ¬ c' ≤ gw_MST j := by rw [ps_leI]; omega
          have nle' : ¬ v' ≤ gw_MST j := by rw [ps_leI]; omega
          rw [if_neg nle, if_neg nle', gw_letS, gw_b2S (r := (-1 : Int32)), if_neg (show ¬ (0 : Int32) ≤ -1 by decide)]
          exact flt q2 (by omega) _ (mFr.at _) (by rw [gw_upE, gw_rs])
theorem so_terms (h : rR w S M) : gw_ex w (f_X8_terms S) (f_X9_terms M) := by
  obtain ⟨np, nb, t, hA, hT, hY, hO, hS, hI, hL⟩ := h
  have hD : tD t (M 5) := ⟨hY.1, fun i hi => (hY.2.2.2 i hi).2⟩
  obtain ⟨S1, s1, s2, s3⟩ := cp_56 8 gw_F S (Nat.le_refl 8) (by decide)
  obtain ⟨M1, m1, m2, m3⟩ := cp_34 (v := 0) 8 gw_F (gw_up M 0 6 0) (Nat.le_refl 8) (by decide)
  rw [Nat.sub_self, show nI 0 = (0 : Int32) from rfl] at s1 m1
  have hC1 : tC t (M 5) S1 := ⟨by rw [s2 1 (by omega)]; exact hY.2.1, fun i hi => by rw [s2 2 (by omega)]; exact (hY.2.2.2 i hi).1⟩
  have hM1 : tM t (M 5) M1 := ⟨by rw [m2 0 (by omega)]; exact hY.2.2.1, fun i hi => by rw [m2 5 (by omega)]; rfl⟩
  have h61 : M1 0 6 = nI 0 := by rw [m2 0 (by omega)]; rfl
  have hQ1 : rQ S1 M1 := fun j hj => by
    rw [s3 j hj, m3 j hj, if_pos (by omega), if_pos (by omega)]
    exact ⟨(hT j hj).1, (hT j hj).2.1⟩
  have hL1 : mL M1 := fun j hj => by
    rw [m2 1 (by omega), m2 2 (by omega)]
    exact ⟨(hT j hj).2.2.1, (hT j hj).2.2.2⟩
  obtain ⟨r, S2, M2, k1, k2, k3, k4⟩ := rd_c hD 7 0 gw_F gw_F 0 (-1) S1 M1 rfl (by decide) (by decide) (Nat.zero_le t) (by decide) hC1 hM1 h61 hQ1 hL1
  have fs : ∀ q, q ≠ 5 → q ≠ 6 → S2 q = S q := fun q h5 h6 => by rw [k2 q h5 h6, s2 q h6]
  have fm : ∀ q, q ≠ 0 → q ≠ 4 → M2 q = M q := fun q h0 h4 => by rw [k3.1 q h0 h4, m2 q h4, gw_upN h0]
  have fm0 : ∀ i, i ≠ 6 → M2 0 i = M 0 i := fun i hi => by rw [k3.2 i hi, m2 0 (by omega), gw_upE, gw_ru hi]
  unfold f_X8_terms f_X7_read f_X7_copy_5_6 f_X6_clear f_X9_terms f_X9_readAll
  rw [show nI (0 + 1) = (1 : Int32) from rfl] at k1
  rw [s1, gw_bdS, k1, gw_b2S, gw_letS, gw_bdS, gw_letS, m1]
  -- the rest of what stands between the two
  have fin : ∀ M3 : gw_S, (∀ q, q ≠ 0 → q ≠ 3 → q ≠ 4 → M3 q = M q) → (∀ i, i ≠ 5 → i ≠ 6 → M3 0 i = M 0 i) → M3 0 5 = 0 → rT (gw_up S2 1 1 0) M3 → rR w (gw_up S2 1 1 0) M3 := fun M3 q0 q1 q5 hT3 => by
    have g : ∀ k, k ≠ 1 → k ≠ 5 → k ≠ 6 → gw_up S2 1 1 0 k = S k := fun k h1 h5 h6 => by rw [gw_upN h1, fs k h5 h6]
    exact ⟨np, nb, 0, hA.fr (by rw [g 3 (by omega) (by omega) (by omega)]) (by rw [g 3 (by omega) (by omega) (by omega)]) (by rw [g 29 (by omega) (by omega) (by omega)]) (by rw [g 29 (by omega) (by omega) (by omega)]) (g 12 (by omega) (by omega) (by omega)) (g 13 (by omega) (by omega) (by omega)) (fun i => g _ (by omega) (by omega) (by omega)) (fun i => g _ (by omega) (by omega) (by omega)) (q1 8 (by omega) (by omega)) (q1 29 (by omega) (by omega)) (fun k hk => q0 k (by omega) (by omega) (by omega)), hT3, ⟨Nat.zero_le 60, by rw [gw_upE, gw_rs]; rfl, q5, fun i hi => absurd hi (by omega)⟩, hO.fr (g 11 (by omega) (by omega) (by omega)) (q0 6 (by omega) (by omega) (by omega)), hS.fr (fun k h1 h2 => g k (by omega) (by omega) (by omega)) (q0 43 (by omega) (by omega) (by omega)) (q0 44 (by omega) (by omega) (by omega)) (q0 45 (by omega) (by omega) (by omega)), hI.fr (g 14 (by omega) (by omega) (by omega)), hL.fr (g 7 (by omega) (by omega) (by omega)) (g 8 (by omega) (by omega) (by omega)) (g 9 (by omega) (by omega) (by omega)) (g 10 (by omega) (by omega) (by omega)) (q1 21 (by omega) (by omega)) (q0 19 (by omega) (by omega) (by omega)) (q0 20 (by omega) (by omega) (by omega)) (q0 21 (by omega) (by omega) (by omega)) (q0 22 (by omega) (by omega) (by omega))⟩
  rcases k4 with ⟨m, hm, e1, e2, e3⟩ | ⟨q, hq, e1, e2, e3, e4⟩
  · rw [e1]
    rw [show nI 0 = (0 : Int32) from rfl] at e2
    rw [e2, gw_b2S, gw_letS, if_pos (pn_p0 (by omega))]
    obtain ⟨M3, n1, n2, n3⟩ := cp_43 (v := nI m) 8 gw_F (gw_up M2 0 5 0) (Nat.le_refl 8) (by decide)
    rw [Nat.sub_self, show nI 0 = (0 : Int32) from rfl] at n1
    rw [n1]
    refine gx rfl (fin M3 (fun q h0 h3 h4 => by rw [n2 q h3, gw_upN h0, fm q h0 h4]) (fun i h5 h6 => by rw [n2 0 (by omega), gw_upE, gw_ru h5, fm0 i h6]) (by rw [n2 0 (by omega), gw_upE, gw_rs]) (fun j hj => ?_))
    rw [n3 j hj, if_pos (by omega), gw_upN (show 5 ≠ 1 by omega), gw_upN (show 4 ≠ 0 by omega), n2 1 (by omega), n2 2 (by omega), gw_upN (show 1 ≠ 0 by omega), gw_upN (show 2 ≠ 0 by omega), fm 1 (by omega) (by omega), fm 2 (by omega) (by omega)]
    exact ⟨(e3 j hj).1, (e3 j hj).2, (hT j hj).2.2⟩
  · rw [e1]
    rw [show nI 0 = (0 : Int32) from rfl] at e3
    rw [e3, gw_b2S, gw_letS, if_neg (show ¬ (0 : Int32) ≤ -1 by decide), gw_upE, gw_ru (show 6 ≠ 5 by omega), e2]
    refine gx rfl (fin _ (fun q h0 h3 h4 => by rw [gw_upN h0, fm q h0 h4]) (fun i h5 h6 => by rw [gw_upE, gw_ru h5, fm0 i h6]) (by rw [gw_upE, gw_rs]) (hT.fr (by rw [gw_upN (show 5 ≠ 1 by omega), e4, s2 5 (by omega)]) (by rw [gw_upN (show 1 ≠ 0 by omega), fm 1 (by omega) (by omega)]) (by rw [gw_upN (show 2 ≠ 0 by omega), fm 2 (by omega) (by omega)]) (by rw [gw_upN (show 3 ≠ 0 by omega), fm 3 (by omega) (by omega)])))
end RTB
end
section
section RLW
variable {w L : Nat} {S M : gw_S} {i : Int32} {xs : Nat → Int32} {K : gw_S → gw_S → Option Int32}
theorem zi {c : Prop} [Decidable c] {X Y : Option Int32} (hx : X = some 1) (hy : Y = some 1) : (if c then X else Y) = some 1 := by
  split
  · exact hx
  · exact hy
theorem lz_22 {f1 f2 : Option (Int32 × gw_S)} (h : gw_ex w f1 f2) (hK : ∀ S M, rR w S M → K S M = some 1) : gw_b2 f1 (fun _ S1 => gw_b2 f2 (fun _ M1 => K S1 M1)) = some 1 := by
  obtain ⟨r, S', M', e1, e2, e3⟩ := h
  rw [e1, e2, gw_b2S, gw_b2S]; exact hK S' M' e3
theorem lz_22c {f1 f2 : Option (Int32 × gw_S)} (h : gw_ex w f1 f2) (hK : ∀ S M, rR w S M → K S M = some 1) : gw_b2 f1 (fun r S1 => gw_b2 f2 (fun r2 M1 => (if r = r2 then K S1 M1 else some 0))) = some 1 := by
  obtain ⟨r, S', M', e1, e2, e3⟩ := h
  rw [e1, e2, gw_b2S, gw_b2S, if_pos rfl]; exact hK S' M' e3
theorem lz_11 {f1 f2 : Option Int32} {k : Option Int32} (h : gw_rd f1 f2) (hK : k = some 1) : gw_bd f1 (fun _ => gw_bd f2 (fun _ => k)) = some 1 := by
  obtain ⟨r, e1, e2⟩ := h
  rw [e1, e2, gw_bdS, gw_bdS]; exact hK
theorem lz_11c {f1 f2 : Option Int32} {k : Option Int32} (h : gw_rd f1 f2) (hK : k = some 1) : gw_bd f1 (fun r => gw_bd f2 (fun r2 => (if r = r2 then k else some 0))) = some 1 := by
  obtain ⟨r, e1, e2⟩ := h
  rw [e1, e2, gw_bdS, gw_bdS, if_pos rfl]; exact hK
theorem lz_ab {f1 f2 : Option Int32} {k : Option Int32} (h : (∃ r, f1 = some r) ∧ ∃ r, f2 = some r) (hK : k = some 1) : gw_bd f1 (fun _ => gw_bd f2 (fun _ => k)) = some 1 := by
  obtain ⟨⟨r, e1⟩, r2, e2⟩ := h
  rw [e1, e2, gw_bdS, gw_bdS]; exact hK
theorem lz_12 {f1 : Option Int32} {f2 : Option (Int32 × gw_S)} {k : gw_S → Option Int32} (h : gw_r2 w S f1 f2) (hK : ∀ M, rR w S M → k M = some 1) : gw_bd f1 (fun _ => gw_b2 f2 (fun _ M1 => k M1)) = some 1 := by
  obtain ⟨r, M', e1, e2, e3⟩ := h
  rw [e1, e2, gw_bdS, gw_b2S]; exact hK M' e3
theorem lz_12c {f1 : Option Int32} {f2 : Option (Int32 × gw_S)} {k : gw_S → Option Int32} (h : gw_r2 w S f1 f2) (hK : ∀ M, rR w S M → k M = some 1) : gw_bd f1 (fun r => gw_b2 f2 (fun r2 M1 => (if r = r2 then k M1 else some 0))) = some 1 := by
  obtain ⟨r, M', e1, e2, e3⟩ := h
  rw [e1, e2, gw_bdS, gw_b2S, if_pos rfl]; exact hK M' e3
def lG (L : Nat) (i : Int32) : Prop := gw_in (i + 1) L ∧ gw_in (i + 2) L ∧ gw_in (i + 3) L ∧ gw_in (i + 4) L ∧ gw_in (i + 5) L ∧ gw_in (i + 6) L
theorem lc_0 (hw : w ≤ 2000) (g : lG L i) (h : rR w S M) (hK : ∀ S M, rR w S M ∨ rR (w + 1) S M → K S M = some 1) : f_law_c0 xs L i K S M = some 1 := by
  unfold f_law_c0
  rw [gw_gdT (g.1), gw_gdT (g.2.1), gw_gdT (g.2.2.1)]
  exact lz_22 (so_type h) (fun S M q => hK S M (Or.inl q))
theorem lc_1 (hw : w ≤ 2000) (g : lG L i) (h : rR w S M) (hK : ∀ S M, rR w S M ∨ rR (w + 1) S M → K S M = some 1) : f_law_c1 xs L i K S M = some 1 := by
  unfold f_law_c1
  exact lz_22 (so_terms h) (fun S M q => hK S M (Or.inl q))
theorem lc_2 (hw : w ≤ 2000) (g : lG L i) (h : rR w S M) (hK : ∀ S M, rR w S M ∨ rR (w + 1) S M → K S M = some 1) : f_law_c2 xs L i K S M = some 1 := by
  unfold f_law_c2
  rw [gw_gdT (g.1)]
  exact lz_11 (so_term h) (hK _ _ (Or.inl h))
theorem lc_3 (hw : w ≤ 2000) (g : lG L i) (h : rR w S M) (hK : ∀ S M, rR w S M ∨ rR (w + 1) S M → K S M = some 1) : f_law_c3 xs L i K S M = some 1 := by
  unfold f_law_c3
  rw [gw_gdT (g.1), gw_gdT (g.2.1), gw_gdT (g.2.2.1)]
  exact lz_22 (so_post h) (fun S M q => hK S M (Or.inl q))
theorem lc_4 (hw : w ≤ 2000) (g : lG L i) (h : rR w S M) (hK : ∀ S M, rR w S M ∨ rR (w + 1) S M → K S M = some 1) : f_law_c4 xs L i K S M = some 1 := by
  unfold f_law_c4
  rw [gw_gdT (g.1), gw_gdT (g.2.1), gw_gdT (g.2.2.1), gw_gdT (g.2.2.2.1), gw_gdT (g.2.2.2.2.1), gw_gdT (g.2.2.2.2.2)]
  exact lz_22 (so_gown h) (fun S M q => hK S M (Or.inl q))
theorem lc_5 (hw : w ≤ 2000) (g : lG L i) (h : rR w S M) (hK : ∀ S M, rR w S M ∨ rR (w + 1) S M → K S M = some 1) : f_law_c5 xs L i K S M = some 1 := by
  unfold f_law_c5
  rw [gw_gdT (g.1), gw_gdT (g.2.1), gw_gdT (g.2.2.1), gw_gdT (g.2.2.2.1), gw_gdT (g.2.2.2.2.1), gw_gdT (g.2.2.2.2.2)]
  exact lz_22 (so_longGown h) (fun S M q => hK S M (Or.inl q))
theorem lc_6 (hw : w ≤ 2000) (g : lG L i) (h : rR w S M) (hK : ∀ S M, rR w S M ∨ rR (w + 1) S M → K S M = some 1) : f_law_c6 xs L i K S M = some 1 := by
  unfold f_law_c6
  rw [gw_gdT (g.1), gw_gdT (g.2.1), gw_gdT (g.2.2.1), gw_gdT (g.2.2.2.1), gw_gdT (g.2.2.2.2.1), gw_gdT (g.2.2.2.2.2)]
  exact lz_22 (so_suit h) (fun S M q => hK S M (Or.inl q))
theorem lc_7 (hw : w ≤ 2000) (g : lG L i) (h : rR w S M) (hK : ∀ S M, rR w S M ∨ rR (w + 1) S M → K S M = some 1) : f_law_c7 xs L i K S M = some 1 := by
  unfold f_law_c7
  rw [gw_gdT (g.1), gw_gdT (g.2.1)]
  exact lz_22 (so_hem h) (fun S M q => hK S M (Or.inl q))
theorem lc_8 (hw : w ≤ 2000) (g : lG L i) (h : rR w S M) (hK : ∀ S M, rR w S M ∨ rR (w + 1) S M → K S M = some 1) : f_law_c8 xs L i K S M = some 1 := by
  unfold f_law_c8
  rw [gw_gdT (g.1), gw_gdT (g.2.1)]
  exact lz_11 (so_told h) (hK _ _ (Or.inl h))
theorem lc_9 (hw : w ≤ 2000) (g : lG L i) (h : rR w S M) (hK : ∀ S M, rR w S M ∨ rR (w + 1) S M → K S M = some 1) : f_law_c9 xs L i K S M = some 1 := by
  unfold f_law_c9
  rw [gw_gdT (g.1), gw_gdT (g.2.1), gw_gdT (g.2.2.1), gw_gdT (g.2.2.2.1)]
  exact lz_22 (so_same h) (fun S M q => hK S M (Or.inl q))
theorem lc_10 (hw : w ≤ 2000) (g : lG L i) (h : rR w S M) (hK : ∀ S M, rR w S M ∨ rR (w + 1) S M → K S M = some 1) : f_law_c10 xs L i K S M = some 1 := by
  unfold f_law_c10
  rw [gw_gdT (g.1), gw_gdT (g.2.1)]
  exact lz_12 (so_lie h) (fun M q => hK _ M (Or.inl q))
theorem lc_11 (hw : w ≤ 2000) (g : lG L i) (h : rR w S M) (hK : ∀ S M, rR w S M ∨ rR (w + 1) S M → K S M = some 1) : f_law_c11 xs L i K S M = some 1 := by
  unfold f_law_c11
  exact lz_12 (so_quarrel h) (fun M q => hK _ M (Or.inl q))
theorem lc_12 (hw : w ≤ 2000) (g : lG L i) (h : rR w S M) (hK : ∀ S M, rR w S M ∨ rR (w + 1) S M → K S M = some 1) : f_law_c12 xs L i K S M = some 1 := by
  unfold f_law_c12
  rw [gw_gdT (g.1), gw_gdT (g.2.1), gw_gdT (g.2.2.1)]
  exact lz_12 (so_fits h) (fun M q => hK _ M (Or.inl q))
theorem lc_13 (hw : w ≤ 2000) (g : lG L i) (h : rR w S M) (hK : ∀ S M, rR w S M ∨ rR (w + 1) S M → K S M = some 1) : f_law_c13 xs L i K S M = some 1 := by
  unfold f_law_c13
  rw [gw_gdT (g.1), gw_gdT (g.2.1), gw_gdT (g.2.2.1), gw_gdT (g.2.2.2.1), gw_gdT (g.2.2.2.2.1), gw_gdT (g.2.2.2.2.2)]
  exact lz_22 (so_book h) (fun S M q => hK S M (Or.inl q))
theorem lc_14 (hw : w ≤ 2000) (g : lG L i) (h : rR w S M) (hK : ∀ S M, rR w S M ∨ rR (w + 1) S M → K S M = some 1) : f_law_c14 xs L i K S M = some 1 := by
  unfold f_law_c14
  rw [gw_gdT (g.1), gw_gdT (g.2.1)]
  exact lz_22 (so_off h) (fun S M q => hK S M (Or.inl q))
theorem lc_15 (hw : w ≤ 2000) (g : lG L i) (h : rR w S M) (hK : ∀ S M, rR w S M ∨ rR (w + 1) S M → K S M = some 1) : f_law_c15 xs L i K S M = some 1 := by
  unfold f_law_c15
  rw [gw_gdT (g.1)]
  exact lz_22 (so_give h) (fun S M q => hK S M (Or.inl q))
theorem lc_16 (hw : w ≤ 2000) (g : lG L i) (h : rR w S M) (hK : ∀ S M, rR w S M ∨ rR (w + 1) S M → K S M = some 1) : f_law_c16 xs L i K S M = some 1 := by
  unfold f_law_c16
  rw [gw_gdT (g.1)]
  exact lz_11 (so_has h) (hK _ _ (Or.inl h))
theorem lc_17 (hw : w ≤ 2000) (g : lG L i) (h : rR w S M) (hK : ∀ S M, rR w S M ∨ rR (w + 1) S M → K S M = some 1) : f_law_c17 xs L i K S M = some 1 := by
  unfold f_law_c17
  rw [gw_gdT (g.1), gw_gdT (g.2.1)]
  exact lz_11 (so_free h) (hK _ _ (Or.inl h))
theorem lc_18 (hw : w ≤ 2000) (g : lG L i) (h : rR w S M) (hK : ∀ S M, rR w S M ∨ rR (w + 1) S M → K S M = some 1) : f_law_c18 xs L i K S M = some 1 := by
  unfold f_law_c18
  rw [gw_gdT (g.1), gw_gdT (g.2.1), gw_gdT (g.2.2.1)]
  exact lz_11 (so_away h) (hK _ _ (Or.inl h))
theorem lc_19 (hw : w ≤ 2000) (g : lG L i) (h : rR w S M) (hK : ∀ S M, rR w S M ∨ rR (w + 1) S M → K S M = some 1) : f_law_c19 xs L i K S M = some 1 := by
  unfold f_law_c19
  rw [gw_gdT (g.1), gw_gdT (g.2.1)]
  exact lz_22 (so_tear h) (fun S M q => hK S M (Or.inl q))
theorem lc_20 (hw : w ≤ 2000) (g : lG L i) (h : rR w S M) (hK : ∀ S M, rR w S M ∨ rR (w + 1) S M → K S M = some 1) : f_law_c20 xs L i K S M = some 1 := by
  unfold f_law_c20
  rw [gw_gdT (g.1)]
  exact lz_22 (so_mend h) (fun S M q => hK S M (Or.inl q))
theorem lc_21 (hw : w ≤ 2000) (g : lG L i) (h : rR w S M) (hK : ∀ S M, rR w S M ∨ rR (w + 1) S M → K S M = some 1) : f_law_c21 xs L i K S M = some 1 := by
  unfold f_law_c21
  rw [gw_gdT (g.1)]
  exact lz_22c (so_chain h) (fun S M q => hK S M (Or.inl q))
theorem lc_22 (hw : w ≤ 2000) (g : lG L i) (h : rR w S M) (hK : ∀ S M, rR w S M ∨ rR (w + 1) S M → K S M = some 1) : f_law_c22 xs L i K S M = some 1 := by
  unfold f_law_c22
  rw [gw_gdT (g.1), gw_gdT (g.2.1), gw_gdT (g.2.2.1)]
  exact lz_22 (so_link h) (fun S M q => hK S M (Or.inl q))
theorem lc_23 (hw : w ≤ 2000) (g : lG L i) (h : rR w S M) (hK : ∀ S M, rR w S M ∨ rR (w + 1) S M → K S M = some 1) : f_law_c23 xs L i K S M = some 1 := by
  unfold f_law_c23
  rw [gw_gdT (g.1)]
  exact lz_22 (so_swap h) (fun S M q => hK S M (Or.inl q))
theorem lc_24 (hw : w ≤ 2000) (g : lG L i) (h : rR w S M) (hK : ∀ S M, rR w S M ∨ rR (w + 1) S M → K S M = some 1) : f_law_c24 xs L i K S M = some 1 := by
  unfold f_law_c24
  rw [gw_gdT (g.1), gw_gdT (g.2.1)]
  exact lz_22 (so_match h) (fun S M q => hK S M (Or.inl q))
theorem lc_25 (hw : w ≤ 2000) (g : lG L i) (h : rR w S M) (hK : ∀ S M, rR w S M ∨ rR (w + 1) S M → K S M = some 1) : f_law_c25 xs L i K S M = some 1 := by
  unfold f_law_c25
  rw [gw_gdT (g.1), gw_gdT (g.2.1), gw_gdT (g.2.2.1), gw_gdT (g.2.2.2.1)]
  exact lz_11 (so_asOf h) (hK _ _ (Or.inl h))
theorem lc_26 (hw : w ≤ 2000) (g : lG L i) (h : rR w S M) (hK : ∀ S M, rR w S M ∨ rR (w + 1) S M → K S M = some 1) : f_law_c26 xs L i K S M = some 1 := by
  unfold f_law_c26
  rw [gw_gdT (g.1), gw_gdT (g.2.1)]
  exact lz_22 (so_out h) (fun S M q => hK S M (Or.inl q))
theorem lc_27 (hw : w ≤ 2000) (g : lG L i) (h : rR w S M) (hK : ∀ S M, rR w S M ∨ rR (w + 1) S M → K S M = some 1) : f_law_c27 xs L i K S M = some 1 := by
  unfold f_law_c27
  rw [gw_gdT (g.1), gw_gdT (g.2.1), gw_gdT (g.2.2.1)]
  exact lz_22 (so_home hw h) (fun S M q => hK S M (Or.inr q))
theorem lc_28 (hw : w ≤ 2000) (g : lG L i) (h : rR w S M) (hK : ∀ S M, rR w S M ∨ rR (w + 1) S M → K S M = some 1) : f_law_c28 xs L i K S M = some 1 := by
  unfold f_law_c28
  rw [gw_gdT (g.1), gw_gdT (g.2.1)]
  exact lz_ab (so_about h) (hK _ _ (Or.inl h))
theorem lc_29 (hw : w ≤ 2000) (g : lG L i) (h : rR w S M) (hK : ∀ S M, rR w S M ∨ rR (w + 1) S M → K S M = some 1) : f_law_c29 xs L i K S M = some 1 := by
  unfold f_law_c29
  rw [gw_gdT (g.1)]
  exact lz_22 (so_retire h) (fun S M q => hK S M (Or.inl q))
theorem lc_30 (hw : w ≤ 2000) (g : lG L i) (h : rR w S M) (hK : ∀ S M, rR w S M ∨ rR (w + 1) S M → K S M = some 1) : f_law_c30 xs L i K S M = some 1 := by
  unfold f_law_c30
  rw [gw_gdT (g.1)]
  exact lz_11 (so_count h) (hK _ _ (Or.inl h))
theorem lc_31 (hw : w ≤ 2000) (g : lG L i) (h : rR w S M) (hK : ∀ S M, rR w S M ∨ rR (w + 1) S M → K S M = some 1) : f_law_c31 xs L i K S M = some 1 := by
  unfold f_law_c31
  rw [gw_gdT (g.1), gw_gdT (g.2.1), gw_gdT (g.2.2.1)]
  exact lz_22 (so_sheet h) (fun S M q => hK S M (Or.inl q))
theorem lc_32 (hw : w ≤ 2000) (g : lG L i) (h : rR w S M) (hK : ∀ S M, rR w S M ∨ rR (w + 1) S M → K S M = some 1) : f_law_c32 xs L i K S M = some 1 := by
  unfold f_law_c32
  rw [gw_gdT (g.1)]
  exact lz_22 (so_drop h) (fun S M q => hK S M (Or.inl q))
theorem lc_33 (hw : w ≤ 2000) (g : lG L i) (h : rR w S M) (hK : ∀ S M, rR w S M ∨ rR (w + 1) S M → K S M = some 1) : f_law_c33 xs L i K S M = some 1 := by
  unfold f_law_c33
  rw [gw_gdT (g.1), gw_gdT (g.2.1), gw_gdT (g.2.2.1), gw_gdT (g.2.2.2.1)]
  exact lz_22 (so_item h) (fun S M q => hK S M (Or.inl q))
theorem lc_34 (hw : w ≤ 2000) (g : lG L i) (h : rR w S M) (hK : ∀ S M, rR w S M ∨ rR (w + 1) S M → K S M = some 1) : f_law_c34 xs L i K S M = some 1 := by
  unfold f_law_c34
  rw [gw_gdT (g.1), gw_gdT (g.2.1), gw_gdT (g.2.2.1), gw_gdT (g.2.2.2.1)]
  exact lz_22 (so_books h) (fun S M q => hK S M (Or.inl q))
theorem lc_s {k : Int32} (hw : w ≤ 2000) (g : lG L i) (h : rR w S M) (hK : ∀ S M, rR w S M ∨ rR (w + 1) S M → K S M = some 1) : f_law_s xs L i k K S M = some 1 := by
  unfold f_law_s
  exact (zi (lc_0 hw g h hK) (zi (lc_1 hw g h hK) (zi (lc_2 hw g h hK) (zi (lc_3 hw g h hK) (zi (lc_4 hw g h hK) (zi (lc_5 hw g h hK) (zi (lc_6 hw g h hK) (zi (lc_7 hw g h hK) (zi (lc_8 hw g h hK) (zi (lc_9 hw g h hK) (zi (lc_10 hw g h hK) (zi (lc_11 hw g h hK) (zi (lc_12 hw g h hK) (zi (lc_13 hw g h hK) (zi (lc_14 hw g h hK) (zi (lc_15 hw g h hK) (zi (lc_16 hw g h hK) (zi (lc_17 hw g h hK) (zi (lc_18 hw g h hK) (zi (lc_19 hw g h hK) (zi (lc_20 hw g h hK) (zi (lc_21 hw g h hK) (zi (lc_22 hw g h hK) (zi (lc_23 hw g h hK) (zi (lc_24 hw g h hK) (zi (lc_25 hw g h hK) (zi (lc_26 hw g h hK) (zi (lc_27 hw g h hK) (zi (lc_28 hw g h hK) (zi (lc_29 hw g h hK) (zi (lc_30 hw g h hK) (zi (lc_31 hw g h hK) (zi (lc_32 hw g h hK) (zi (lc_33 hw g h hK) (zi (lc_34 hw g h hK) (hK _ _ (Or.inl h)))))))))))))))))))))))))))))))))))))
theorem law_n (xs : Nat → Int32) (hL : L ≤ 3584) : ∀ (n m w : Nat) (S M : gw_S), m + n = 600 → w ≤ m → (m = 0 ∨ 7 * m ≤ L) → rR w S M → f_law xs L n (nI (7 * m)) S M = some 1
  | 0, m, w, S, M, h1, h2, h3, h => by omega
  | n + 1, m, w, S, M, h1, h2, h3, h => by
    have z7 : (7 : Int32).toInt = 7 := by decide
    rw [f_law]
    by_cases c : Int32.ofNat L - 7 < nI (7 * m)
    · rw [if_pos c]
    · rw [if_neg c]
      have e : (Int32.ofNat L - 7).toInt = (L : Int) - 7 := by
        rw [show Int32.ofNat L = nI L from rfl, pn_sbi (by rw [nI_toInt (by omega)]; omega) (by omega), nI_toInt (by omega), z7]
      rw [ps_ltI, e, nI_toInt (by omega)] at c
      rw [gw_gdT (pi_in (show 7 * m < L by omega) (by omega)), gw_letS]
      refine lc_s (w := w) (by omega) ⟨?_, ?_, ?_, ?_, ?_, ?_⟩ h (fun S1 M1 q => ?_)
      · rw [pn_a1]; exact pi_in (by omega) (by omega)
      · rw [pn_a2]; exact pi_in (by omega) (by omega)
      · rw [pn_a3]; exact pi_in (by omega) (by omega)
      · rw [pn_a4]; exact pi_in (by omega) (by omega)
      · rw [pn_a5]; exact pi_in (by omega) (by omega)
      · rw [pn_a6]; exact pi_in (by omega) (by omega)
      · rw [gw_letS, show nI (7 * m) + (7 : Int32) = nI (7 * (m + 1)) from nI_add (7 * m) 7]
        rcases q with q | q
        · exact law_n xs hL n (m + 1) w S1 M1 (by omega) (by omega) (by omega) q
        · exact law_n xs hL n (m + 1) (w + 1) S1 M1 (by omega) (by omega) (by omega) q
theorem law_true (xs : Nat → Int32) {L : Nat} (hL : L ≤ 3584) : f_law xs L 600 0 (gw_SG gw_zH) gw_zM = some 1 := law_n xs hL 600 0 0 z_S gw_zM rfl (Nat.le_refl 0) (Or.inl rfl) rR.start
end RLW
end
section
theorem gw_m1 {a b : Cond} {l : List Cond} (h : a ∈ l) : a ∈ b :: l := List.mem_cons_of_mem _ h
theorem gw_m8 {a b1 b2 b3 b4 b5 b6 b7 b8 : Cond} {l : List Cond} (h : a ∈ l) : a ∈ b1 :: b2 :: b3 :: b4 :: b5 :: b6 :: b7 :: b8 :: l := gw_m1 (gw_m1 (gw_m1 (gw_m1 (gw_m1 (gw_m1 (gw_m1 (gw_m1 h)))))))
end
