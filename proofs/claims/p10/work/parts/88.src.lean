section RCA
variable {w np nb t i j p c a b f nd : Nat} {S S0 M M0 S' M' : gw_S} {x x1 x2 x3 x4 x5 x6 u z d v : Int32}
/-- what a search for a CHAIN stands on -/
def cC (w np nb : Nat) (S M : gw_S) : Prop := rA w np nb S M ∧ rT S M ∧ rO S M ∧ lFd S M
theorem cC.scr (h : cC w np nb S M) (q : ∀ r, ¬ (15 ≤ r ∧ r ≤ 19) → S' r = S r) (p : ∀ r, ¬ (39 ≤ r ∧ r ≤ 42) → M' r = M r) : cC w np nb S' M' := ⟨h.1.scr q p, h.2.1.fr (q 5 (by omega)) (p 1 (by omega)) (p 2 (by omega)) (p 3 (by omega)), h.2.2.1.fr (q 11 (by omega)) (p 6 (by omega)), h.2.2.2.scr q p⟩
/-- from whom a PIECE can be taken for a BOOKING: -1 FREE, -2 it can't be had -/
def aSrc (M : gw_S) (i j : Nat) : Int32 := if f_X9_fitOf (nI i) (M 25 j) (M 26 j) M = some 2 ∧ aWe M i j then (if (f_X9_holderOf (nI i) (nI j) M).getD (-2) < 0 then (f_X9_holderOf (nI i) (nI j) M).getD (-2) else (if M 33 ((f_X9_holderOf (nI i) (nI j) M).getD (-2)).toNatClampNeg = 0 then (f_X9_holderOf (nI i) (nI j) M).getD (-2) else -2)) else -2
theorem cC.src (h : cC w np nb S M) (hi : i < np) (hj : j < nb) : ∃ fv hv, f_X2_fitOf (nI i) (M 25 j) (M 26 j) S = some fv ∧ f_X9_fitOf (nI i) (M 25 j) (M 26 j) M = some fv ∧ f_X2_holderInTheWay (nI i) (nI j) S = some hv ∧ f_X9_holderOf (nI i) (nI j) M = some hv ∧ aHp M nb i j hv ∧ aSrc M i j = (if fv = 2 ∧ aWe M i j then (if hv < 0 then hv else (if M 33 hv.toNatClampNeg = 0 then hv else -2)) else -2) := by
  obtain ⟨hA, hT, hO, hF⟩ := h
  have hb := hA.b hj
  obtain ⟨fv, -, f1, f2⟩ := hA.fit hT hF hi (x2 := M 25 j) (x3 := M 26 j) hb.2.2.2.2.2.1 hb.2.2.2.2.2.2.1
  obtain ⟨hv, g1, g2, g3⟩ := hA.holder hT hO hi hj
  refine ⟨fv, hv, f1, f2, g1, g2, g3, ?_⟩
  unfold aSrc
  rw [f2, g2]
  simp only [Option.some.injEq, Option.getD_some]
theorem cC.srcR (h : cC w np nb S M) (hi : i < np) (hj : j < nb) : aSrc M i j = -2 ∨ aSrc M i j = -1 ∨ ∃ c, c < nb ∧ aSrc M i j = nI c ∧ M 32 c = nI i ∧ ¬ c = j := by
  obtain ⟨fv, hv, -, -, -, -, g, e⟩ := h.src hi hj
  rw [e]
  split
  · rcases g with q | q | ⟨c, hc, q, q2⟩
    · rw [q, if_pos (by decide)]; exact Or.inr (Or.inl rfl)
    · rw [q, if_pos (by decide)]; exact Or.inl rfl
    · have := h.1.ib hc
      rw [q, if_neg (pn_n0 (by omega))]
      split
      · exact Or.inr (Or.inr ⟨c, hc, rfl, q2.2.1, q2.1⟩)
      · exact Or.inl rfl
  · exact Or.inl rfl
theorem cC.srcE (h : cC w np nb S M) (q : ∀ r, ¬ (39 ≤ r ∧ r ≤ 42) → M' r = M r) (hi : i < np) (hj : j < nb) : aSrc M' i j = aSrc M i j := by
  have h' : cC w np nb S M' := h.scr (fun _ _ => rfl) q
  obtain ⟨fv, hv, a1, -, a3, -, -, e⟩ := h.src hi hj
  obtain ⟨fv', hv', b1, -, b3, -, -, e'⟩ := h'.src hi hj
  rw [q 25 (by omega), q 26 (by omega), a1] at b1
  rw [a3] at b3
  obtain rfl := Option.some.inj b1
  obtain rfl := Option.some.inj b3
  rw [e, e']
  have w1 : aWe M' i j ↔ aWe M i j := by unfold aWe aRet; rw [q 13 (by omega), q 15 (by omega), q 16 (by omega), q 17 (by omega), q 18 (by omega), q 27 (by omega)]
  simp only [w1, q 33 (by omega)]
theorem cC.whom (h : cC w np nb S M) (hi : i < np) (hj : j < nb) : f_X9_fromWhom (nI i) (nI j) M = some (if aSrc M i j < 0 then -1 else aSrc M i j) := by
  obtain ⟨fv, hv, -, a2, -, a4, g, e⟩ := h.src hi hj
  have hA := h.1
  unfold f_X9_fromWhom
  rw [gw_gdT (hA.inb hj)]
  simp only [hA.cb hj]
  rw [a2, gw_bdS, (hA.well hi hj).2, ps_br, a4, gw_bdS]
  by_cases c1 : fv = 2
  · rw [if_pos c1]
    by_cases c2 : aWe M i j
    · rw [if_pos (show fv = 2 ∧ aWe M i j from ⟨c1, c2⟩)] at e
      rw [if_pos c2]
      by_cases c3 : hv < 0
      · rw [if_pos c3] at e
        rw [if_pos c3, e, if_pos c3]
      · rw [if_neg c3] at e
        rw [if_neg c3]
        rcases g with q | q | ⟨c, hc, q, q2⟩
        · rw [q] at c3; exact absurd (by decide) c3
        · rw [q] at c3; exact absurd (by decide) c3
        · rw [q, hA.cb hc] at e
          rw [q] at c3
          rw [q, gw_gdT (hA.inb hc), hA.cb hc]
          by_cases c4 : M 33 c = 0
          · rw [if_pos c4] at e; rw [if_pos c4, e, if_neg c3]
          · rw [if_neg c4] at e; rw [if_neg c4, e, if_pos (by decide)]
    · rw [if_neg (show ¬ (fv = 2 ∧ aWe M i j) from fun q => c2 q.2)] at e
      rw [if_neg c2, e, if_pos (by decide)]
  · rw [if_neg (show ¬ (fv = 2 ∧ aWe M i j) from fun q => c1 q.1)] at e
    rw [if_neg c1, e, if_pos (by decide)]
theorem cC.last (h : cC w np nb S M) (hi : i < np) (hj : j < nb) : gw_bd (f_X9_fitOf (nI i) (M 25 j) (M 26 j) M) (fun r17 => (if r17 = (2 : Int32) then gw_bd (f_X9_isFree (nI i) (nI j) M) (fun r20 => (if r20 = 0 then some (0 : Int32) else some (1 : Int32))) else some (0 : Int32))) = some (if aSrc M i j = -1 then 1 else 0) := by
  obtain ⟨fv, hv, -, a2, -, a4, g, e⟩ := h.src hi hj
  have hA := h.1
  rw [a2, gw_bdS]
  unfold f_X9_isFree
  rw [(hA.well hi hj).2, ps_br, a4, gw_bdS]
  by_cases c1 : fv = 2
  · rw [if_pos c1]
    by_cases c2 : aWe M i j
    · rw [if_pos (show fv = 2 ∧ aWe M i j from ⟨c1, c2⟩)] at e
      rw [if_pos c2]
      rcases g with q | q | ⟨c, hc, q, q2⟩
      · rw [q, if_pos (by decide)] at e
        rw [q, e]; decide
      · rw [q, if_pos (by decide)] at e
        rw [q, e]; decide
      · have := hA.ib hc
        rw [q, if_neg (pn_n0 (by omega)), hA.cb hc] at e
        rw [q, if_neg (hA.nb1 hc), gw_bdS, if_pos rfl]
        by_cases c4 : M 33 c = 0
        · rw [if_pos c4] at e; rw [e, if_neg (hA.nb1 hc)]
        · rw [if_neg c4] at e; rw [e, if_neg (by decide)]
    · rw [if_neg (show ¬ (fv = 2 ∧ aWe M i j) from fun q => c2 q.2)] at e
      rw [if_neg c2, e, gw_bdS, if_pos rfl, if_neg (by decide)]
  · rw [if_neg (show ¬ (fv = 2 ∧ aWe M i j) from fun q => c1 q.1)] at e
    rw [if_neg c1, e, if_neg (by decide)]
/-- the class reads it thus -/
theorem cC.cls (h : cC w np nb S M) (hi : i < np) (hj : j < nb) {K37 : Int32 → Int32 → Int32 → gw_S → Option gw_S} {t0 : Int32} : gw_bd (f_X4_canBeWornOn (nI i) (M 27 j) S) (fun r32 => (if r32 = 0 then f_X1_readSources_b119 K37 (nI j) t0 (nI i) (-2 : Int32) S else gw_bd (f_X2_surelyFits (nI i) (nI j) S) (fun r35 => (if r35 = 0 then f_X1_readSources_b119 K37 (nI j) t0 (nI i) (-2 : Int32) S else gw_bd (f_X2_holderInTheWay (nI i) (nI j) S) (fun r38 => f_X1_readSources_b119 K37 (nI j) t0 (nI i) r38 S))))) = f_X1_readSources_b147 K37 (nI j) t0 (nI i) (aSrc M i j) S := by
  obtain ⟨fv, hv, a1, -, a3, -, g, e⟩ := h.src hi hj
  have hA := h.1
  have hb := hA.b hj
  have n2 : f_X1_readSources_b119 K37 (nI j) t0 (nI i) (-2 : Int32) S = f_X1_readSources_b147 K37 (nI j) t0 (nI i) (-2) S := by
    unfold f_X1_readSources_b119 f_X2_bookingAt
    rw [if_pos (by decide), gw_bdS, if_pos rfl]
  rw [(hA.well hi hj).1, ps_br, n2]
  unfold f_X2_surelyFits
  rw [gw_gdT (hA.nb1 hj), gw_gdT (hA.gb hj)]
  simp only [hA.cb hj]
  rw [hb.1.2.1, hb.1.2.2.1, a1, gw_bdS, a3, gw_bdS]
  by_cases c2 : aWe M i j
  · rw [if_pos c2]
    by_cases c1 : fv = 2
    · rw [if_pos (show fv = 2 ∧ aWe M i j from ⟨c1, c2⟩)] at e
      rw [if_pos c1, gw_bdS, if_neg pn_10]
      rcases g with q | q | ⟨c, hc, q, q2⟩
      · rw [q, if_pos (by decide)] at e
        rw [q, e]
        unfold f_X1_readSources_b119 f_X2_bookingAt
        rw [if_pos (by decide), gw_bdS, if_pos rfl]
      · rw [q, if_pos (by decide)] at e
        rw [q, e]; exact n2
      · have := hA.ib hc
        rw [q, if_neg (pn_n0 (by omega)), hA.cb hc] at e
        rw [q]
        unfold f_X1_readSources_b119
        rw [hA.1.bookingAt hc, gw_bdS, if_neg (hA.nb1 hc), gw_gdT (hA.gb hc), hA.out hc, gw_bdS]
        by_cases c4 : M 33 c = 0
        · rw [if_pos c4] at e; rw [if_pos c4, if_pos rfl, e]
        · rw [if_neg c4] at e; rw [if_neg c4, if_neg pn_10, e]
    · rw [if_neg (show ¬ (fv = 2 ∧ aWe M i j) from fun q => c1 q.1)] at e
      rw [if_neg c1, gw_bdS, if_pos rfl, e]
  · rw [if_neg (show ¬ (fv = 2 ∧ aWe M i j) from fun q => c2 q.2)] at e
    rw [if_neg c2, e]
end RCA
