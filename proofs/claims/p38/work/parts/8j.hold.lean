section RPA
variable {w np nb t i j p q c a b f n k nd pl ms : Nat} {S S0 S1 M M0 S' M' : gw_S} {x x1 x2 x3 x4 x5 x6 u z d v r : Int32} {so : Nat → Nat → Int32} {T : List Nat} {l : List (Nat × Nat)}
/-- who stands in the way: nobody, several, or just one -/
def aHq (M : gw_S) (nb i j : Nat) (r : Int32) : Prop := (r = -1 ∧ ∀ c, c < nb → ¬ aHo M i j c) ∨ (r = -2 ∧ ∃ c, c < nb ∧ aHo M i j c) ∨ ∃ c, c < nb ∧ r = nI c ∧ aHo M i j c ∧ ∀ c', c' < nb → ¬ c' = c → ¬ aHo M i j c'
theorem ho_q (hA : rA w np nb S M) (hT : rT S M) (hO : rO S M) (hi : i < np) (hj : j < nb) : ∀ (k n : Nat) (v : Int32), k ≤ nb → k < n → ((v = -1 ∧ ∀ c, c < nb - k → ¬ aHo M i j c) ∨ ∃ c, c < nb - k ∧ v = nI c ∧ aHo M i j c ∧ ∀ c', c' < nb - k → ¬ c' = c → ¬ aHo M i j c') → ∃ r, f_X2_holderInTheWay_b5 S n (nI i) (nI j) v (nI (nb - k)) = some r ∧ aHq M nb i j r
  | 0, n + 1, v, _, _, hv => by
    have hnb := hA.1.1.2
    rw [f_X2_holderInTheWay_b5, hA.1.2.1.2.1, if_pos (nI_le (by omega) (by omega))]
    refine ⟨v, rfl, ?_⟩
    rcases hv with ⟨e, h⟩ | ⟨c, h1, h2, h3, h4⟩
    · exact Or.inl ⟨e, fun c hc => h c (by omega)⟩
    · exact Or.inr (Or.inr ⟨c, by omega, h2, h3, fun c' hc' => h4 c' (by omega)⟩)
  | k + 1, n + 1, v, hk, hn, hv => by
    have hnb := hA.1.1.2
    have hc : nb - (k + 1) < nb := by omega
    rw [ho_c hA hT hO hi hj hc, show nb - (k + 1) + 1 = nb - k by omega]
    by_cases c1 : aHo M i j (nb - (k + 1))
    · rw [if_pos c1]
      by_cases c2 : v = -1
      · rw [if_pos c2]
        refine ho_q hA hT hO hi hj k n _ (by omega) (by omega) (Or.inr ⟨nb - (k + 1), by omega, rfl, c1, fun c' h1 h2 => ?_⟩)
        rcases hv with ⟨-, h⟩ | ⟨c, h1, h2, -, -⟩
        · exact h c' (by omega)
        · rw [c2] at h2; exact absurd h2.symm (pn_m1 (by omega))
      · rw [if_neg c2]
        exact ⟨-2, rfl, Or.inr (Or.inl ⟨rfl, nb - (k + 1), hc, c1⟩)⟩
    · rw [if_neg c1]
      refine ho_q hA hT hO hi hj k n _ (by omega) (by omega) ?_
      rcases hv with ⟨e, h⟩ | ⟨c, h1, h2, h3, h4⟩
      · refine Or.inl ⟨e, fun c hc2 => ?_⟩
        by_cases e2 : c = nb - (k + 1)
        · rw [e2]; exact c1
        · exact h c (by omega)
      · refine Or.inr ⟨c, by omega, h2, h3, fun c' hc' hn' => ?_⟩
        by_cases e2 : c' = nb - (k + 1)
        · rw [e2]; exact c1
        · exact h4 c' (by omega) hn'
theorem rA.holdq (h : rA w np nb S M) (hT : rT S M) (hO : rO S M) (hi : i < np) (hj : j < nb) : ∃ r, f_X2_holderInTheWay (nI i) (nI j) S = some r ∧ aHq M nb i j r := by
  have hF : nb < gw_F := Nat.lt_of_le_of_lt h.1.1.2 (by decide)
  have := ho_q h hT hO hi hj nb gw_F (-1) (Nat.le_refl nb) hF (Or.inl ⟨rfl, fun c hc => absurd hc (by omega)⟩)
  rw [Nat.sub_self, show nI 0 = (0 : Int32) from rfl] at this
  exact this
/-- what it means that a PIECE can be taken -/
theorem cC.srcq (h : cC w np nb S M) (hi : i < np) (hj : j < nb) : aSrc M i j = -2 ∨ ((f_X2_fitOf (nI i) (M 25 j) (M 26 j) S = some 2 ∧ aWe M i j) ∧ ((aSrc M i j = -1 ∧ ∀ c, c < nb → ¬ aHo M i j c) ∨ ∃ c, c < nb ∧ aSrc M i j = nI c ∧ aHo M i j c ∧ M 33 c = 0 ∧ ∀ c', c' < nb → ¬ c' = c → ¬ aHo M i j c')) := by
  obtain ⟨fv, hv, a1, -, a3, -, -, e⟩ := h.src hi hj
  obtain ⟨r, b1, b2⟩ := h.1.holdq h.2.1 h.2.2.1 hi hj
  rw [a3] at b1
  obtain rfl := Option.some.inj b1
  by_cases c1 : fv = 2 ∧ aWe M i j
  · rw [if_pos c1] at e
    obtain ⟨c1, c2⟩ := c1
    rw [c1] at a1
    rcases b2 with ⟨q, h2⟩ | ⟨q, -⟩ | ⟨c, hc, q, h2, h3⟩
    · rw [q, if_pos (by decide)] at e
      exact Or.inr ⟨⟨a1, c2⟩, Or.inl ⟨e, h2⟩⟩
    · rw [q, if_pos (by decide)] at e
      exact Or.inl e
    · have := h.1.ib hc
      rw [q, if_neg (pn_n0 (by omega)), h.1.cb hc] at e
      by_cases c4 : M 33 c = 0
      · rw [if_pos c4] at e
        exact Or.inr ⟨⟨a1, c2⟩, Or.inr ⟨c, hc, e, h2, c4, h3⟩⟩
      · rw [if_neg c4] at e
        exact Or.inl e
  · rw [if_neg c1] at e
    exact Or.inl e
theorem cC.free1 (h : cC w np nb S M) (hi : i < np) (hj : j < nb) (hf : f_X2_isFree (nI i) (nI j) S = some 1) : aWe M i j ∧ ∀ c, c < nb → ¬ aHo M i j c := by
  have hA := h.1
  obtain ⟨r, b1, b2⟩ := hA.holdq h.2.1 h.2.2.1 hi hj
  unfold f_X2_isFree at hf
  rw [gw_gdT (hA.nb1 hj), gw_gdT (hA.gb hj), gw_gdT (hA.np1 hi), gw_gdT (hA.gp hi), hA.cb hj, (hA.b hj).1.2.2.2.1, (hA.well hi hj).1, ps_br] at hf
  by_cases c1 : aWe M i j
  · rw [if_pos c1, b1, gw_bdS] at hf
    rcases b2 with ⟨q, h2⟩ | ⟨q, -⟩ | ⟨c, hc, q, -, -⟩
    · exact ⟨c1, h2⟩
    · rw [q] at hf; exact absurd hf (by decide)
    · rw [q, if_neg (hA.nb1 hc)] at hf; exact absurd hf (by decide)
  · rw [if_neg c1] at hf; exact absurd hf (by decide)
theorem cC.free2 (h : cC w np nb S M) (hi : i < np) (hj : j < nb) (hw : aWe M i j) (hn : ∀ c, c < nb → ¬ aHo M i j c) : f_X2_isFree (nI i) (nI j) S = some 1 := by
  have hA := h.1
  obtain ⟨r, b1, b2⟩ := hA.holdq h.2.1 h.2.2.1 hi hj
  unfold f_X2_isFree
  rw [gw_gdT (hA.nb1 hj), gw_gdT (hA.gb hj), gw_gdT (hA.np1 hi), gw_gdT (hA.gp hi), hA.cb hj, (hA.b hj).1.2.2.2.1, (hA.well hi hj).1, ps_br, if_pos hw, b1, gw_bdS]
  rcases b2 with ⟨q, -⟩ | ⟨-, c, hc, h2⟩ | ⟨c, hc, q, h2, -⟩
  · rw [q]; rfl
  · exact absurd h2 (hn c hc)
  · exact absurd h2 (hn c hc)
end RPA
