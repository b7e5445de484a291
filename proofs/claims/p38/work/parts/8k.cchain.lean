section RPB
variable {w np nb t i j p q c a b f n k nd pl ms : Nat} {S S0 S1 M M0 S' M' : gw_S} {x x1 x2 x3 x4 x5 x6 u z d v r : Int32} {so : Nat → Nat → Int32} {T : List Nat} {l : List (Nat × Nat)}
/-- a CHAIN as it is found: each takes from the next, the last what is FREE; PIECES all differ -/
def cLk (so : Nat → Nat → Int32) (np nb : Nat) : Nat → List Nat → List (Nat × Nat) → Prop
  | _, _, [] => False
  | b, T, (b', p) :: l => b' = b ∧ p < np ∧ ¬ p ∈ T ∧ ((l = [] ∧ so b p = -1) ∨ ∃ c, c < nb ∧ so b p = nI c ∧ cLk so np nb c (p :: T) l)
theorem fN_lk (h : sR so np nb) : ∀ (s b : Nat) (T : List Nat) (l : List (Nat × Nat)), b < nb → fN so np s b T = some l → cLk so np nb b T l
  | 0, b, T, l, hb, e => by
    obtain ⟨p, hp, e⟩ := fG_s np (Nat.le_refl np) e
    split at e
    · exact absurd e (by simp)
    · rename_i hT
      split at e
      · rename_i q
        simp only [Option.some.injEq] at e
        subst e
        exact ⟨rfl, hp, hT, Or.inl ⟨rfl, q⟩⟩
      · exact absurd e (by simp)
  | s + 1, b, T, l, hb, e => by
    obtain ⟨p, hp, e⟩ := fG_s np (Nat.le_refl np) e
    split at e
    · exact absurd e (by simp)
    · rename_i hT
      split at e
      · rename_i q
        obtain ⟨c, hc, ec⟩ := h.of hb hp q
        have hnb := h.1
        rw [ec, nI_clamp (by omega)] at e
        cases e2 : fN so np s c (p :: T) with
        | none => rw [e2] at e; exact absurd e (by simp)
        | some l' =>
          rw [e2] at e
          simp only [Option.map_some, Option.some.injEq] at e
          subst e
          exact ⟨rfl, hp, hT, Or.inr ⟨c, hc, ec, fN_lk h s c _ l' hc e2⟩⟩
      · exact absurd e (by simp)
/-- what the class finds, by itself -/
def cF (so : Nat → Nat → Int32) (np ms f : Nat) (r : Int32) (S : gw_S) : Prop := (r = -4 ∧ ∀ s, s ≤ ms → fN so np s f [] = none) ∨ ∃ s l, s ≤ ms ∧ r = nI (s + 1) ∧ fN so np s f [] = some l ∧ (∀ s', s' < s → fN so np s' f [] = none) ∧ S 15 5 = nI (s + 1) ∧ fRw 18 19 S l 0
theorem fd_l (hR : sR so np nb) (hnp : np ≤ 24) (hf : f < nb) (hms : ms ≤ 3) : ∀ (k n : Nat) (S : gw_S), k ≤ ms + 1 → k < n → fK so np nb ms S → S 18 0 = nI f → (∀ s, s < ms + 1 - k → fN so np s f [] = none) → ∃ r S', f_X1_find_b83 n (nI ms) (nI (ms + 1 - k)) S = some (r, S') ∧ (∀ q, q ≠ 15 → q ≠ 18 → q ≠ 19 → S' q = S q) ∧ cF so np ms f r S'
  | 0, n + 1, S, _, _, h, h18, hN => by
    rw [f_X1_find_b83, if_pos (pn_lt (by omega) (by omega))]
    exact ⟨-4, S, rfl, fun _ _ _ _ => rfl, Or.inl ⟨rfl, fun s hs => hN s (by omega)⟩⟩
  | k + 1, n + 1, S, hk, hn, h, h18, hN => by
    have hnb := hR.1
    obtain ⟨s, es⟩ : ∃ s, ms + 1 - (k + 1) = s := ⟨_, rfl⟩
    have e1 : nI s + (1 : Int32) = nI (ms + 1 - k) := by rw [← es]; exact pn_s hk
    obtain ⟨r, S2, a1, a2⟩ := fo_s (ms := ms) hR hnp s 6 (by omega) (by omega) 0 S f [] (by omega) h hf h18 (fun p hp => by simp)
    rw [show nI 0 = (0 : Int32) from rfl] at a1
    obtain ⟨a2, -, a4, a5⟩ := a2
    rw [es, f_X1_find_b83, if_neg (show ¬ nI ms < nI s by rw [ps_ltI, nI_toInt (by omega), nI_toInt (by omega)]; omega), a1, gw_b2S]
    rcases a5 with ⟨o, r0⟩ | ⟨l, o, r1, rw1⟩
    · rw [r0, if_pos rfl, gw_letS, e1]
      obtain ⟨r', S', b1, b2, b3⟩ := fd_l hR hnp hf hms k n S2 (by omega) (by omega) (h.fr a2) (by rw [a4 0 (Nat.le_refl 0)]; exact h18) (fun s' hs' => by
        by_cases e : s' = s
        · rw [e]; exact o
        · exact hN s' (by omega))
      exact ⟨r', S', b1, fun q q1 q2 q3 => by rw [b2 q q1 q2 q3, a2 q q2 q3], b3⟩
    · rw [r1, if_neg pn_10, gw_letS, gw_upE, gw_rs]
      refine ⟨_, _, rfl, fun q q1 q2 q3 => by rw [gw_upN q1, a2 q q2 q3], Or.inr ⟨s, l, by omega, pn_a1, o, fun s' hs' => hN s' (by omega), by rw [gw_upE, gw_rs]; exact pn_a1, ?_⟩⟩
      exact fRw_fr l 0 (fun i hi => ⟨by rw [gw_upN (show 18 ≠ 15 by omega)], by rw [gw_upN (show 19 ≠ 15 by omega)]⟩) rw1
theorem cC.cfind (h0 : cC w np nb S M) (hf : f < nb) : ∃ ms r S', ms ≤ 3 ∧ M 3 7 = nI ms ∧ f_X1_find (nI f) S = some (r, S') ∧ (∀ q, ¬ (15 ≤ q ∧ q ≤ 19) → S' q = S q) ∧ cF (aSo M f) np ms f r S' := by
  have hnb := h0.1.1.1.2
  have hnp := h0.1.1.1.1
  have r7 : rg 0 3 (M 3 7) := (h0.2.1 7 (by omega)).2.1
  obtain ⟨ms, -, hms, e7⟩ := rg_nI (lo := 0) (n := 3) r7 (by omega)
  have h1 : cC w np nb (gw_up S 15 5 0) M := h0.scr (fun r hr => gw_upN (by omega)) (fun _ _ => rfl)
  obtain ⟨S1, a1, a2, a3⟩ := rd_l (v := nI ms) hf nb gw_F (gw_up S 15 5 0) (Nat.le_refl nb) (Nat.lt_of_le_of_lt hnb (by decide)) h1 (fun j hj => absurd hj (by omega))
  rw [Nat.sub_self, show nI 0 = (0 : Int32) from rfl] at a1
  have hR := h0.sR2 (f := f)
  have q1 : ∀ r, ¬ (15 ≤ r ∧ r ≤ 19) → S1 r = S r := fun r hr => by rw [a2 r (by omega) (by omega), gw_upN (by omega)]
  have hK : nK (aSo M f) np nb S1 := ⟨fun j hj p hp => (a3 j hj).1.1 p hp, fun j hj => by
    rcases (a3 j hj).1.2 with q | q
    · rw [q]; exact ⟨by decide, by decide⟩
    · rw [q]; exact ⟨by decide, by decide⟩⟩
  obtain ⟨S2, b1, b2, b3, b4⟩ := sp_n hR hnp hms hf ms gw_F S1 (Nat.le_refl ms) (Nat.lt_of_le_of_lt hms (by decide)) (by rw [q1 3 (by omega)]; exact h0.1.1.2.1.1) (by rw [q1 3 (by omega)]; exact h0.1.1.2.1.2.1) (by rw [q1 29 (by omega)]; exact h0.1.1.2.1.2.2.2) (by rw [q1 _ (by omega)]; exact (h0.1.b hf).1.1) hK (by
    rw [Nat.sub_self]
    intro s hs j hj hp
    obtain rfl : s = 0 := by omega
    rw [(a3 j hj).2 hp]; decide)
  rw [Nat.sub_self, show nI 0 = (0 : Int32) from rfl] at b1
  obtain ⟨r, S', c1, c2, c3⟩ := fd_l hR hnp hf hms (ms + 1) gw_F (gw_up S2 18 0 (nI f)) (Nat.le_refl _) (Nat.lt_of_le_of_lt (show ms + 1 ≤ 4 by omega) (by decide)) ((show fK (aSo M f) np nb ms S2 from ⟨by rw [b2 3 (by omega), q1 3 (by omega)]; exact h0.1.1.2.1.1, b3, b4⟩).fr (fun r h1 h2 => gw_upN h1)) (by rw [gw_upE, gw_rs]) (fun s hs => absurd hs (by omega))
  rw [Nat.sub_self, show nI 0 = (0 : Int32) from rfl] at c1
  refine ⟨ms, r, S', hms, e7, ?_, fun q hq => by rw [c2 q (by omega) (by omega) (by omega), gw_upN (by omega), b2 q (by omega), q1 q hq], c3⟩
  unfold f_X1_find
  rw [h0.2.1.t7, gw_bdS, e7, gw_letS, gw_letS, if_neg (show ¬ (3 : Int32) < nI ms by rw [ps_ltI, nI_toInt (by omega), pz_3]; omega), a1, b1]
  exact c1
/-- the class's own table says what M says, where it matters -/
theorem fN_same' (h : cC w np nb S M) (hf : f < nb) (hw : M 32 f = -1) (s : Nat) : fN (aSo M f) np s f [] = fN (oS M) np s f [] := fN_same h hf hw s
end RPB
