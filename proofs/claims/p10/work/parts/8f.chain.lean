section RCH
variable {w np nb t i j p c a b f nd pl ms many lev : Nat} {S S0 S1 M M0 M1 S' M' : gw_S} {x x1 x2 x3 x4 x5 x6 u z d v r : Int32} {T : List Nat} {fa : Nat → Int32} {l : List (Nat × Nat)}
theorem fN_same (h : cC w np nb S M) (hf : f < nb) (hw : M 32 f = -1) (s : Nat) : fN (aSo M f) np s f [] = fN (oS M) np s f [] := by
  have hnb := h.1.1.1.2
  have hnp := h.1.1.1.1
  refine fN_q (own := fun b p => p < 24 ∧ M 32 b = nI p) (ok := fun b => b = f ∨ ¬ M 32 b = -1) (show sR (oS M) np nb from h.sR1) (fun b hb hk p hp ho => ?_) (fun b hb p hp c hc e => ?_) s f [] hf (Or.inl rfl) (fun p ho => ?_)
  · unfold aSo
    rw [if_pos ⟨hk, fun q => ho ⟨by omega, q⟩⟩]; rfl
  · rcases h.srcR hp hb with q | q | ⟨c', hc', q, q2, -⟩
    · unfold oS at e; rw [e] at q
      have := congrArg Int32.toInt q; rw [nI_toInt (by omega), show ((-2 : Int32)).toInt = -2 by decide] at this; omega
    · unfold oS at e; rw [e] at q
      exact absurd q (pn_m1 (by omega))
    · unfold oS at e
      rw [e] at q
      obtain rfl := (nI_eq (by omega) (by omega)).mp q
      exact ⟨Or.inr (by rw [q2]; exact pn_m1 (by omega)), fun p' hp' => by
        have := hp'.2
        rw [q2] at this
        exact ((nI_eq (by omega) (by omega)).mp this).symm⟩
  · have := ho.2
    rw [hw] at this
    exact absurd this.symm (pn_m1 (by omega))
/-- a CHAIN, there and here -/
def cR (np nb : Nat) (r : Int32) (S M : gw_S) : Prop := r = -4 ∨ ∃ s l, s ≤ 3 ∧ r = nI (s + 1) ∧ l.length = s + 1 ∧ S 15 5 = nI (s + 1) ∧ fRw 18 19 S l 0 ∧ fRw 40 41 M l 0 ∧ ∀ x, x ∈ l → x.1 < nb ∧ x.2 < np
theorem ch_l (h0 : cC w np nb S0 M0) (hfa : fFar M0 fa np nb) (hf : f < nb) (hw : M0 32 f = -1) (hms : ms ≤ 3) (h7 : M0 3 7 = nI ms) : ∀ (k n n' : Nat) (S M : gw_S), k ≤ ms + 1 → k < n → k < n' → fK (aSo M0 f) np nb ms S → S 18 0 = nI f → (∀ r, r ≠ 39 → r ≠ 40 → r ≠ 41 → M r = M0 r) → M 39 = fa → ∃ r S' M', f_X1_find_b83 n (nI ms) (nI (ms + 1 - k)) S = some (r, S') ∧ f_X9_findChain_b10 n' (nI f) (nI (ms + 1 - k + 1)) M = some (r, M') ∧ (∀ q, q ≠ 15 → q ≠ 18 → q ≠ 19 → S' q = S q) ∧ (∀ q, q ≠ 40 → q ≠ 41 → M' q = M q) ∧ cR np nb r S' M'
  | 0, n + 1, n' + 1, S, M, _, _, _, h, h18, hM, h39 => by
    have e3 : M 3 = M0 3 := hM 3 (by omega) (by omega) (by omega)
    rw [f_X1_find_b83, f_X9_findChain_b10, if_pos (pn_lt (by omega) (by omega)), show (7 : Int32).toNatClampNeg = 7 from rfl, e3, h7, pn_a1, if_pos (pn_lt (by omega) (by omega))]
    exact ⟨-4, S, M, rfl, rfl, fun _ _ _ _ => rfl, fun _ _ _ => rfl, Or.inl rfl⟩
  | k + 1, n + 1, n' + 1, S, M, hk, hn, hn', h, h18, hM, h39 => by
    have hnb := h0.1.1.1.2
    have hnp := h0.1.1.1.1
    obtain ⟨s, es⟩ : ∃ s, ms + 1 - (k + 1) = s := ⟨_, rfl⟩
    have e1 : s + 1 = ms + 1 - k := by omega
    have e3 : M 3 = M0 3 := hM 3 (by omega) (by omega) (by omega)
    have hR := h0.sR2 (f := f)
    obtain ⟨r, S2, a1, a2⟩ := fo_s (ms := ms) hR hnp s 6 (by omega) (by omega) 0 S f [] (by omega) h hf h18 (fun p hp => by simp)
    rw [show nI 0 = (0 : Int32) from rfl] at a1
    obtain ⟨a2, -, a4, a5⟩ := a2
    have h2 : fK (aSo M0 f) np nb ms S2 := h.fr a2
    have rcs := fun (M2 : gw_S) (q : ∀ r, r ≠ 40 → r ≠ 41 → M2 r = M r) => ch_l h0 hfa hf hw hms h7 k n n' S2 M2 (by omega) (by omega) (by omega) h2 (by rw [a4 0 (Nat.le_refl 0)]; exact h18) (fun r r1 r2 r3 => by rw [q r r2 r3, hM r r1 r2 r3]) (by rw [q 39 (by omega) (by omega)]; exact h39)
    rw [es, f_X1_find_b83, f_X9_findChain_b10, if_neg (show ¬ nI ms < nI s by rw [ps_ltI, nI_toInt (by omega), nI_toInt (by omega)]; omega), show (7 : Int32).toNatClampNeg = 7 from rfl, e3, h7, show nI ms + (1 : Int32) = nI (ms + 1) from pn_a1, if_neg (show ¬ nI (ms + 1) < nI (s + 1) by rw [ps_ltI, nI_toInt (by omega), nI_toInt (by omega)]; omega), gw_gdT (pi_in (show f < 30 by omega) (by omega)), nI_clamp (show f < 2 ^ 31 by omega), a1, gw_b2S]
    unfold f_X9_findChain_b44
    simp only [gw_letS, show nI (s + 1) + (1 : Int32) = nI (s + 1 + 1) from pn_a1, show nI s + (1 : Int32) = nI (s + 1) from pn_a1]
    have none1 : fN (oS M0) np s f [] = none → ∀ M2 : gw_S, (∀ r, r ≠ 40 → r ≠ 41 → M2 r = M r) → ∃ r_1 S' M', (if r = 0 then f_X1_find_b83 n (nI ms) (nI (s + 1)) S2 else some (gw_up S2 15 5 (nI (s + 1)) 15 5, gw_up S2 15 5 (nI (s + 1)))) = some (r_1, S') ∧ f_X9_findChain_b10 n' (nI f) (nI (s + 1 + 1)) M2 = some (r_1, M') ∧ (∀ q, q ≠ 15 → q ≠ 18 → q ≠ 19 → S' q = S q) ∧ (∀ q, q ≠ 40 → q ≠ 41 → M' q = M q) ∧ cR np nb r_1 S' M' := fun o M2 q => by
      rcases a5 with ⟨-, r0⟩ | ⟨l, o2, -⟩
      · obtain ⟨r1, S3, M3, b1, b2, b3, b4, b5⟩ := rcs M2 q
        rw [r0, if_pos rfl, e1]
        exact ⟨r1, S3, M3, b1, b2, fun q' q1 q2 q3 => by rw [b3 q' q1 q2 q3, a2 q' q2 q3], fun q' q1 q2 => by rw [b4 q' q1 q2, q q' q1 q2], b5⟩
      · rw [fN_same h0 hf hw s, o] at o2; exact absurd o2 (by simp)
    rw [h39]
    by_cases c1 : nI (s + 1) < fa f
    · rw [if_pos c1]
      refine none1 ?_ M (fun _ _ _ => rfl)
      cases e : fN (oS M0) np s f [] with
      | none => rfl
      | some l' =>
        have := hfa.2 s f hf (fN_ok (show sR (oS M0) np nb from h0.sR1) s f _ l' hf e).1
        rw [ps_ltI, nI_toInt (by omega)] at c1
        omega
    · rw [if_neg c1]
      obtain ⟨r6, M2, b1, b2, b3⟩ := findChainOf h0 hfa (s := s) (by omega) hf hw hM h39
      rw [b1, gw_b2S]
      rcases b3 with ⟨o, r60⟩ | ⟨l, o, r61, rw2⟩
      · rw [r60, if_pos rfl]; exact none1 o M2 b2
      · rw [r61, if_neg pn_10]
        rcases a5 with ⟨o2, -⟩ | ⟨l2, o2, r1, rw1⟩
        · rw [fN_same h0 hf hw s, o] at o2; exact absurd o2 (by simp)
        · have ok := fN_ok (show sR (oS M0) np nb from h0.sR1) s f _ l hf o
          rw [fN_same h0 hf hw s, o] at o2
          obtain rfl := Option.some.inj o2
          rw [r1, if_neg pn_10]
          refine ⟨_, _, M2, rfl, by rw [gw_upE, gw_rs], fun q q1 q2 q3 => by rw [gw_upN q1, a2 q q2 q3], b2, Or.inr ⟨s, l, by omega, by rw [gw_upE, gw_rs], ok.2.1, by rw [gw_upE, gw_rs], ?_, rw2, ok.2.2⟩⟩
          exact fRw_fr l 0 (fun i hi => ⟨by rw [gw_upN (show 18 ≠ 15 by omega)], by rw [gw_upN (show 19 ≠ 15 by omega)]⟩) rw1
theorem cC.find (h0 : cC w np nb S M) (hf : f < nb) (hw : M 32 f = -1) : ∃ r S' M', f_X1_find (nI f) S = some (r, S') ∧ gw_bd (f_X9_findFar M) (fun S12 => f_X9_findChain_b10 gw_F (nI f) (1 : Int32) S12) = some (r, M') ∧ (∀ q, ¬ (15 ≤ q ∧ q ≤ 19) → S' q = S q) ∧ (∀ q, ¬ (39 ≤ q ∧ q ≤ 42) → M' q = M q) ∧ cR np nb r S' M' := by
  have hnb := h0.1.1.1.2
  have hnp := h0.1.1.1.1
  have r7 : rg 0 3 (M 3 7) := (h0.2.1 7 (by omega)).2.1
  obtain ⟨ms, -, hms, e7⟩ := rg_nI (lo := 0) (n := 3) r7 (by omega)
  have h1 : cC w np nb (gw_up S 15 5 0) M := h0.scr (fun r hr => gw_upN (by omega)) (fun _ _ => rfl)
  obtain ⟨S1, a1, a2, a3⟩ := rd_l (v := nI ms) hf nb gw_F (gw_up S 15 5 0) (Nat.le_refl nb) (Nat.lt_of_le_of_lt hnb (by decide)) h1 (fun j hj => absurd hj (by omega))
  rw [Nat.sub_self, show nI 0 = (0 : Int32) from rfl] at a1
  have hR := h0.sR2 (f := f)
  have q1 : ∀ r, ¬ (15 ≤ r ∧ r ≤ 19) → S1 r = S r := fun r hr => by rw [a2 r (by omega) (by omega), gw_upN (by omega)]
  have hK : nK (aSo M f) np nb S1 := ⟨fun j hj p hp => (a3 j hj).1.1 p hp, fun j hj => by
    rcases (a3 j hj).1.2 with q | q
    · rw [q]; exact ⟨by decide, by decide⟩
    · rw [q]; exact ⟨by decide, by decide⟩⟩
  obtain ⟨S2, b1, b2, b3, b4⟩ := sp_n hR hnp hms hf ms gw_F S1 (Nat.le_refl ms) (Nat.lt_of_le_of_lt hms (by decide)) (by rw [q1 3 (by omega)]; exact h0.1.1.2.1.1) (by rw [q1 3 (by omega)]; exact h0.1.1.2.1.2.1) (by rw [q1 29 (by omega)]; exact h0.1.1.2.1.2.2.2) (by rw [q1 _ (by omega)]; exact (h0.1.b hf).1.1) hK (by
    rw [Nat.sub_self]
    intro s hs j hj hp
    obtain rfl : s = 0 := by omega
    rw [(a3 j hj).2 hp]; decide)
  rw [Nat.sub_self, show nI 0 = (0 : Int32) from rfl] at b1
  obtain ⟨M1, f1, f2, f3, f4⟩ := h0.findFar
  have p1 : ∀ r, ¬ (39 ≤ r ∧ r ≤ 42) → M1 r = M r := fun r hr => f2 r (by omega)
  obtain ⟨r, S', M', c1, c2, c3, c4, c5⟩ := ch_l h0 (fa := M1 39) ⟨f3, f4⟩ hf hw hms e7 (ms + 1) gw_F gw_F (gw_up S2 18 0 (nI f)) M1 (Nat.le_refl _) (Nat.lt_of_le_of_lt (show ms + 1 ≤ 4 by omega) (by decide)) (Nat.lt_of_le_of_lt (show ms + 1 ≤ 4 by omega) (by decide)) ((show fK (aSo M f) np nb ms S2 from ⟨by rw [b2 3 (by omega), q1 3 (by omega)]; exact h0.1.1.2.1.1, b3, b4⟩).fr (fun r h1 h2 => gw_upN h1)) (by rw [gw_upE, gw_rs]) (fun r h1 h2 h3 => f2 r h1) rfl
  rw [Nat.sub_self, show nI 0 = (0 : Int32) from rfl, show nI (0 + 1) = (1 : Int32) from rfl] at *
  refine ⟨r, S', M', ?_, by rw [f1, gw_bdS]; exact c2, fun q hq => by rw [c3 q (by omega) (by omega) (by omega), gw_upN (by omega), b2 q (by omega), q1 q hq], fun q hq => by rw [c4 q (by omega) (by omega), f2 q (by omega)], c5⟩
  unfold f_X1_find
  rw [h0.2.1.t7, gw_bdS, e7, gw_letS, gw_letS, if_neg (show ¬ (3 : Int32) < nI ms by rw [ps_ltI, nI_toInt (by omega), pz_3]; omega), a1, b1]
  exact c1
/-- what a search does: none is asked for, or none is wanted, or both search alike -/
theorem rR.search (h : rR w S M) (x1 : Int32) : (f_X8_chain x1 S = some (-1, S) ∧ f_X9_isThere x1 M = some 0) ∨ (f_X8_chain x1 S = some (-2, S) ∧ f_X9_isThere x1 M = some 1 ∧ f_X9_isOpen x1 M = some 0) ∨ ∃ r S' M' np nb t, f_X8_chain x1 S = some (r, S') ∧ f_X9_isThere x1 M = some 1 ∧ f_X9_isOpen x1 M = some 1 ∧ f_X9_findChain x1 M = some (r, M') ∧ rA w np nb S' M' ∧ rC t S' M' ∧ cR np nb r S' M' := by
  obtain ⟨np, nb, t, hA, hT, hY, hO, hS, hI, hL⟩ := h
  unfold f_X8_chain
  rcases hA.1.booking x1 with ⟨j, hj, rfl, d1, d2⟩ | ⟨d1, d2⟩
  · rw [d1, gw_bdS, if_neg (hA.nb1 hj), gw_gdT (hA.gb hj), (hA.waits hj).1, gw_bdS]
    by_cases c : M 32 j = -1 ∧ ¬ 0 ≤ M 31 j
    · rw [if_pos c, if_neg pn_10]
      obtain ⟨M1, e1, e2, e3, e4, e5⟩ := hL.find
      have hA' := hA.lies e2 e3
      have hC' : rC t S M1 := rC.lies ⟨hT, hY, hO, hS, hI, hL⟩ e2 e3
      obtain ⟨r, S', M', b1, b2, b3, b4, b5⟩ := (show cC w np nb S M1 from ⟨hA', hC'.1, hC'.2.2.1, e4⟩).find hj (by rw [e2 32 (by omega) (by omega) (by omega)]; exact c.1)
      refine Or.inr (Or.inr ⟨r, S', M', np, nb, t, by rw [b1, gw_b2S], d2, by rw [(hA.waits hj).2, if_pos c], ?_, hA'.scr b3 b4, hC'.scr b3 b4, b5⟩)
      unfold f_X9_findChain
      rw [e1, gw_bdS, b2]
    · rw [if_neg c, if_pos rfl]
      exact Or.inr (Or.inl ⟨rfl, d2, by rw [(hA.waits hj).2, if_neg c]⟩)
  · rw [d1, gw_bdS, if_pos rfl]
    exact Or.inl ⟨rfl, d2⟩
theorem so_chain (h : rR w S M) : gw_ex w (f_X8_chain x1 S) (f_X9_chain x1 M) := by
  unfold f_X9_chain
  rcases h.search x1 with ⟨a1, a2⟩ | ⟨a1, a2, a3⟩ | ⟨r, S', M', np, nb, t, a1, a2, a3, a4, a5, a6, a7⟩
  · rw [a1, a2, gw_bdS, if_pos rfl]; exact gx rfl h
  · rw [a1, a2, gw_bdS, if_neg pn_10, a3, gw_bdS, if_pos rfl]; exact gx rfl h
  · rw [a1, a2, gw_bdS, if_neg pn_10, a3, gw_bdS, if_neg pn_10, a4, gw_b2S]; exact gx rfl (a6.rR a5)
theorem so_link (h : rR w S M) : gw_ex w (f_X8_link x1 x2 x3 S) (f_X9_link x1 x2 x3 M) := by
  unfold f_X8_link f_X9_link
  rw [ps_isIn, ps_br, ps_in, ps_br, pz_0, pz_1, pq_0, pq_1]
  rcases h.search x1 with ⟨a1, a2⟩ | ⟨a1, a2, a3⟩ | ⟨r, S', M', np, nb, t, a1, a2, a3, a4, a5, a6, a7⟩
  · rw [a1, a2, gw_bdS, gw_b2S, if_pos rfl, if_neg (show ¬ (0 : Int32) ≤ -1 by decide)]
    repeat' split
    all_goals exact gx rfl h
  · rw [a1, a2, gw_bdS, gw_b2S, if_neg pn_10, a3, gw_bdS, if_pos rfl, if_neg (show ¬ (0 : Int32) ≤ -2 by decide)]
    by_cases c1 : x2 < 0
    · rw [if_pos c1, if_pos c1]; exact gx rfl h
    · rw [if_neg c1, if_neg c1]
      split <;> exact gx rfl h
  · rw [a1, a2, gw_bdS, gw_b2S, if_neg pn_10, a3, gw_bdS, if_neg pn_10, a4, gw_b2S]
    by_cases c1 : x2 < 0
    · rw [if_pos c1, if_pos c1]; exact gx rfl h
    · rw [if_neg c1, if_neg c1]
      by_cases c2 : 0 ≤ x3.toInt ∧ x3.toInt ≤ 1
      · rw [if_pos c2, if_pos c2]
        have fin := a6.rR a5
        rcases a7 with e | ⟨s, l, hs, e, hl, h15, r1, r2, -⟩
        · rw [e, if_neg (by decide), if_neg (by decide)]; exact gx rfl fin
        · rw [e, if_pos (pn_p0 (by omega)), if_pos (pn_p0 (by omega))]
          by_cases c3 : x2 < nI (s + 1)
          · obtain ⟨i, hi, rfl⟩ := nI_of c1
            have hi2 : i < s + 1 := by rw [ps_ltI, nI_toInt hi, nI_toInt (by omega)] at c3; omega
            obtain ⟨x, -, k1, k2, k3, k4⟩ := fRw_two l 0 r1 r2 i (by omega)
            rw [Nat.zero_add] at k1 k2 k3 k4
            have g4 : gw_in (nI i) 4 := pi_in (show i < 4 by omega) (by omega)
            have g8 : gw_in (nI i) 8 := pi_in (show i < 8 by omega) (by omega)
            have n4 : ¬ (4 : Int32) ≤ nI i := pn_le (n := 4) (by omega) (by omega)
            unfold f_X1_bookingIn f_X1_pieceIn
            rw [if_pos c3, if_pos c3, if_neg c1, if_neg c1, h15, if_neg (show ¬ nI (s + 1) ≤ nI i from pn_le hi2 (by omega)), if_neg (show ¬ nI (s + 1) ≤ nI i from pn_le hi2 (by omega)), if_neg n4, if_neg n4, gw_gdT g4, gw_gdT g4, gw_gdT g8, gw_gdT g8, nI_clamp hi, k1, k2, k3, k4, gw_bdS, gw_bdS]
            split <;> exact gx rfl fin
          · rw [if_neg c3, if_neg c3]; exact gx rfl fin
      · rw [if_neg c2, if_neg c2]; exact gx rfl h
theorem pf_l {s : Nat} (hs : s ≤ 3) : ∀ (l : List (Nat × Nat)) (k n n' : Nat) (S M : gw_S), k + l.length = s + 1 → l.length < n → l.length < n' → rA w np nb S M → rC t S M → S 15 5 = nI (s + 1) → fRw 18 19 S l k → fRw 40 41 M l k → (∀ x, x ∈ l → x.1 < nb ∧ x.2 < np) → ∃ S' M', f_X1_perform_b2 n (nI k) S = some S' ∧ f_X9_swap_b29 n' (nI (s + 1)) (nI k) M = some (nI (s + 1), M') ∧ rR w S' M'
  | [], k, n + 1, n' + 1, S, M, hk, _, _, hA, hC, h15, _, _, _ => by
    have : k = s + 1 := by simpa using hk
    subst this
    rw [f_X1_perform_b2, f_X9_swap_b29, h15, if_pos (nI_le (Nat.le_refl _) (by omega)), if_pos (nI_le (Nat.le_refl _) (by omega))]
    exact ⟨S, M, rfl, rfl, hC.rR hA⟩
  | (b, p) :: l, k, n + 1, n' + 1, S, M, hk, hn, hn', hA, hC, h15, r1, r2, hx => by
    obtain ⟨k1, k2, r1⟩ := r1
    obtain ⟨k3, k4, r2⟩ := r2
    have hbp := hx (b, p) List.mem_cons_self
    have hb : b < nb := hbp.1
    have hp : p < np := hbp.2
    simp only [List.length_cons] at hk hn hn'
    have hk2 : k < s + 1 := by omega
    have n4 : ¬ (4 : Int32) ≤ nI k := pn_le (n := 4) (by omega) (by omega)
    have g4 : gw_in (nI k) 4 := pi_in (show k < 4 by omega) (by omega)
    have ck : (nI k).toNatClampNeg = k := nI_clamp (by omega)
    have b1 : f_X1_bookingIn (nI k) S = some (nI b) := by
      unfold f_X1_bookingIn
      rw [if_neg (pn_n0 (by omega)), h15, if_neg (pn_le hk2 (by omega)), if_neg n4, gw_gdT g4, ck, k1]
    have b2 : f_X1_pieceIn (nI k) S = some (nI p) := by
      unfold f_X1_pieceIn
      rw [if_neg (pn_n0 (by omega)), h15, if_neg (pn_le hk2 (by omega)), if_neg n4, gw_gdT g4, ck, k2]
    rw [f_X1_perform_b2, f_X9_swap_b29, h15, if_neg (pn_le hk2 (by omega)), if_neg (pn_le hk2 (by omega)), b1, gw_bdS, hA.1.bookingAt hb, gw_bdS, b2, gw_bdS, hA.1.pieceAt hp, gw_bdS, if_neg (hA.nb1 hb), if_neg (hA.np1 hp), gw_gdT (hA.gb hb), gw_letS, hA.cb hb, gw_gdT (pi_in (show k < 8 by omega) (by omega)), ck, k3, k4, gw_gdT (hA.inb hb), gw_letS, hA.cb hb]
    unfold f_X1_perform_b49
    rw [gw_letS, gw_letS, pn_a1]
    exact pf_l hs l (k + 1) n n' _ _ (by omega) (by omega) (by omega) (hA.give hb (Or.inr ⟨p, hp, rfl⟩)) hC.give (by rw [gw_upN (by omega)]; exact h15) (fRw_fr l (k + 1) (fun i _ => ⟨by rw [gw_upN (by omega)], by rw [gw_upN (by omega)]⟩) r1) (fRw_fr l (k + 1) (fun i _ => ⟨by rw [gw_upN (show 40 ≠ 32 by omega)], by rw [gw_upN (show 41 ≠ 32 by omega)]⟩) r2) (fun x h => hx x (List.mem_cons_of_mem _ h))
theorem so_swap (h : rR w S M) : gw_ex w (f_X8_swap x1 S) (f_X9_swap x1 M) := by
  unfold f_X8_swap f_X9_swap
  rcases h.search x1 with ⟨a1, a2⟩ | ⟨a1, a2, a3⟩ | ⟨r, S', M', np, nb, t, a1, a2, a3, a4, a5, a6, a7⟩
  · rw [a1, a2, gw_bdS, gw_b2S, if_pos rfl, if_pos (show (-1 : Int32) ≤ 0 by decide)]; exact gx rfl h
  · rw [a1, a2, gw_bdS, gw_b2S, if_neg pn_10, a3, gw_bdS, if_pos rfl, if_pos (show (-2 : Int32) ≤ 0 by decide)]; exact gx rfl h
  · rw [a1, a2, gw_bdS, gw_b2S, if_neg pn_10, a3, gw_bdS, if_neg pn_10, a4, gw_b2S]
    rcases a7 with e | ⟨s, l, hs, e, hl, h15, r1, r2, hx⟩
    · have gF : f_X9_swap_b29 gw_F (-4) 0 M' = some (-4, M') := by
        show f_X9_swap_b29 (999999999 + 1) (-4) 0 M' = _
        rw [f_X9_swap_b29, if_pos (by decide)]
      rw [e, if_pos (by decide), gF]; exact gx rfl (a6.rR a5)
    · obtain ⟨S2, M2, k1, k2, k3⟩ := pf_l hs l 0 gw_F gw_F S' M' (by omega) (Nat.lt_of_le_of_lt (show l.length ≤ 4 by omega) (by decide)) (Nat.lt_of_le_of_lt (show l.length ≤ 4 by omega) (by decide)) a5 a6 h15 r1 r2 hx
      rw [show nI 0 = (0 : Int32) from rfl] at k1 k2
      unfold f_X1_perform
      rw [e, if_neg (show ¬ nI (s + 1) ≤ 0 from pn_le (n := 0 + (s + 1)) (j := 0) (by omega) (by omega) |> fun _ => by rw [ps_leI, nI_toInt (by omega), Int32.toInt_zero]; omega), k1, gw_bdS, k2]
      exact gx rfl k3
end RCH
