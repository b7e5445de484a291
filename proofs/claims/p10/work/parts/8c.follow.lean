section RCE
variable {w np nb t i j p c a b f nd pl ms : Nat} {S S0 M M0 S' M' : gw_S} {x x1 x2 x3 x4 x5 x6 u z d v r : Int32} {so : Nat → Nat → Int32} {T : List Nat} {F : Int32 → Int32 → gw_S → Option (Int32 × gw_S)}
theorem ta_l (hpl : pl ≤ 3) : ∀ (k n : Nat), k ≤ pl → k < n → ∃ r, f_X1_isTakenAhead_b2 S n x (nI pl) (nI (pl - k)) = some r ∧ ((r = 1 ∧ ∃ i, pl - k ≤ i ∧ i < pl ∧ S 19 i = x) ∨ (r = 0 ∧ ∀ i, pl - k ≤ i → i < pl → ¬ S 19 i = x))
  | 0, n + 1, _, _ => by
    rw [f_X1_isTakenAhead_b2, if_pos (nI_le (by omega) (by omega))]
    exact ⟨0, rfl, Or.inr ⟨rfl, fun i h1 h2 => absurd h2 (by omega)⟩⟩
  | k + 1, n + 1, hk, hn => by
    obtain ⟨i, ei⟩ : ∃ i, pl - (k + 1) = i := ⟨_, rfl⟩
    have e1 : nI i + (1 : Int32) = nI (pl - k) := by rw [← ei]; exact pn_s hk
    rw [ei, f_X1_isTakenAhead_b2, if_neg (pn_le (by omega) (by omega)), if_neg (show ¬ (4 : Int32) ≤ nI i from pn_le (n := 4) (by omega) (by omega)), gw_gdT (pi_in (show i < 4 by omega) (by omega)), nI_clamp (by omega), gw_letS, e1]
    by_cases c : S 19 i = x
    · rw [if_pos c]; exact ⟨1, rfl, Or.inl ⟨rfl, i, Nat.le_refl i, by omega, c⟩⟩
    · rw [if_neg c]
      obtain ⟨r, h1, h2⟩ := ta_l hpl k n (by omega) (by omega)
      refine ⟨r, h1, ?_⟩
      rcases h2 with ⟨h2, i', a1, a2, a3⟩ | ⟨h2, h3⟩
      · exact Or.inl ⟨h2, i', by omega, a2, a3⟩
      · refine Or.inr ⟨h2, fun i' a1 a2 => ?_⟩
        by_cases e : i' = i
        · subst e; exact c
        · exact h3 i' (by omega) a2
def tK (ra np : Nat) (S : gw_S) (pl : Nat) (T : List Nat) : Prop := ∀ p, p < np → (p ∈ T ↔ ∃ i, i < pl ∧ S ra i = nI p)
theorem tK.ahead (h : tK 19 np S pl T) (hpl : pl ≤ 3) (hp : p < np) : f_X1_isTakenAhead (nI p) (nI pl) S = some (if p ∈ T then 1 else 0) := by
  obtain ⟨r, h1, h2⟩ := ta_l (S := S) (x := nI p) hpl pl gw_F (Nat.le_refl pl) (Nat.lt_of_le_of_lt hpl (by decide))
  rw [Nat.sub_self, show nI 0 = (0 : Int32) from rfl] at h1
  unfold f_X1_isTakenAhead
  rw [h1]
  rcases h2 with ⟨e, i, -, a2, a3⟩ | ⟨e, a⟩
  · rw [e, if_pos ((h p hp).mpr ⟨i, a2, a3⟩)]
  · rw [e, if_neg (fun q => by obtain ⟨i, a2, a3⟩ := (h p hp).mp q; exact a i (by omega) a2 a3)]
theorem tK.next {ra : Nat} (h : tK ra np S pl T) (hnp : np ≤ 24) (hp : p < np) (e1 : ∀ i, i < pl → S' ra i = S ra i) (e2 : S' ra pl = nI p) : tK ra np S' (pl + 1) (p :: T) := fun q hq => by
  rw [List.mem_cons, h q hq]
  constructor
  · rintro (rfl | ⟨i, h1, h2⟩)
    · exact ⟨pl, by omega, e2⟩
    · exact ⟨i, by omega, by rw [e1 i h1]; exact h2⟩
  · rintro ⟨i, h1, h2⟩
    by_cases e : i = pl
    · subst e; rw [e2] at h2; exact Or.inl ((nI_eq (by omega) (by omega)).mp h2).symm
    · exact Or.inr ⟨i, by omega, by rw [← e1 i (by omega)]; exact h2⟩
theorem tK.fr {ra : Nat} (h : tK ra np S pl T) (e1 : ∀ i, i < pl → S' ra i = S ra i) : tK ra np S' pl T := fun q hq => by
  rw [h q hq]
  constructor
  · rintro ⟨i, h1, h2⟩; exact ⟨i, h1, by rw [e1 i h1]; exact h2⟩
  · rintro ⟨i, h1, h2⟩; exact ⟨i, h1, by rw [← e1 i h1]; exact h2⟩
def fK (so : Nat → Nat → Int32) (np nb ms : Nat) (S : gw_S) : Prop := S 3 6 = nI np ∧ nK so np nb S ∧ nS so np nb ms S
theorem fK.fr (h : fK so np nb ms S) (q : ∀ r, r ≠ 18 → r ≠ 19 → S' r = S r) : fK so np nb ms S' := by
  unfold fK nK nS at h ⊢
  rw [q 3 (by omega) (by omega), q 16 (by omega) (by omega), q 17 (by omega) (by omega)]
  exact h
/-- what a search from one place on does -/
def fP (o : Option (List (Nat × Nat))) (pl : Nat) (S : gw_S) (r : Int32) (S' : gw_S) : Prop := (∀ q, q ≠ 18 → q ≠ 19 → S' q = S q) ∧ (∀ i, i < pl → S' 19 i = S 19 i) ∧ (∀ i, i ≤ pl → S' 18 i = S 18 i) ∧ ((o = none ∧ r = 0) ∨ ∃ l, o = some l ∧ r = 1 ∧ fRw 18 19 S' l pl)
def FP (so : Nat → Nat → Int32) (np nb ms : Nat) (F : Int32 → Int32 → gw_S → Option (Int32 × gw_S)) (s : Nat) : Prop := ∀ (pl : Nat) (S : gw_S) (b : Nat) (T : List Nat), pl + s ≤ 3 → fK so np nb ms S → b < nb → S 18 pl = nI b → tK 19 np S pl T → ∃ r S', F (nI pl) (nI s) S = some (r, S') ∧ fP (fN so np s b T) pl S r S'
theorem fo_l (hR : sR so np nb) (hnp : np ≤ 24) {s : Nat} (hF : ∀ s', s = s' + 1 → FP so np nb ms F s') (hs : pl + s ≤ 3) (hb : b < nb) : ∀ (k n : Nat) (S : gw_S), k ≤ np → k < n → fK so np nb ms S → S 18 pl = nI b → tK 19 np S pl T → ∃ r S', f_X1_follow_b31 F n (nI pl) (nI s) (nI b) (nI (np - k)) S = some (r, S') ∧ fP (fG np (fSt so np s b T) k) pl S r S'
  | 0, n + 1, S, _, _, h, h18, hT => by
    rw [f_X1_follow_b31, h.1, if_pos (nI_le (by omega) (by omega))]
    exact ⟨0, S, rfl, fun _ _ _ => rfl, fun _ _ => rfl, fun _ _ => rfl, Or.inl ⟨rfl, rfl⟩⟩
  | k + 1, n + 1, S, hk, hn, h, h18, hT => by
    have hnb := hR.1
    obtain ⟨p, ep⟩ : ∃ p, np - (k + 1) = p := ⟨_, rfl⟩
    have hp : p < np := by omega
    have e1 : nI p + (1 : Int32) = nI (np - k) := by rw [← ep]; exact pn_s hk
    -- on to the next PIECE
    have skip : ∀ S2 : gw_S, fSt so np s b T p = none → (∀ q, q ≠ 18 → q ≠ 19 → S2 q = S q) → (∀ i, i < pl → S2 19 i = S 19 i) → (∀ i, i ≤ pl → S2 18 i = S 18 i) → ∃ r S', f_X1_follow_b141 F (f_X1_follow_b31 F n) (nI pl) (nI s) (nI b) (nI p) S2 = some (r, S') ∧ fP (fG np (fSt so np s b T) (k + 1)) pl S r S' := fun S2 hn0 q1 q2 q3 => by
      unfold f_X1_follow_b141 fG
      rw [gw_letS, e1, ep, hn0]
      obtain ⟨r, S3, a1, a2, a3, a4, a5⟩ := fo_l hR hnp hF hs hb k n S2 (by omega) (by omega) (h.fr q1) (by rw [q3 pl (Nat.le_refl pl)]; exact h18) (hT.fr q2)
      exact ⟨r, S3, a1, fun q h1 h2 => by rw [a2 q h1 h2, q1 q h1 h2], fun i hi => by rw [a3 i hi, q2 i hi], fun i hi => by rw [a4 i hi, q3 i hi], a5⟩
    have same := fun hn0 => skip S hn0 (fun _ _ _ => rfl) (fun _ _ => rfl) (fun _ _ => rfl)
    have got : ∀ l, fSt so np s b T p = some l → fG np (fSt so np s b T) (k + 1) = some l := fun l hl => by
      unfold fG; rw [ep, hl]
    rw [ep, f_X1_follow_b31, h.1, if_neg (pn_le hp (by omega)), h.2.1.source hR hnp hb hp, gw_bdS]
    unfold f_X1_follow_b70 f_X1_follow_b79
    rw [hT.ahead (by omega) hp, ps_br]
    by_cases cT : p ∈ T
    · have hn0 : fSt so np s b T p = none := by unfold fSt; cases s <;> simp [cT]
      rw [if_pos cT]
      have := same hn0
      repeat' split
      all_goals exact this
    · rw [if_neg cT]
      cases s with
      | zero =>
        have i0 : (nI 0 : Int32) = 0 := rfl
        rw [if_pos i0, if_pos i0, if_neg (show ¬ (0 : Int32) = 1 by decide), if_pos (show (1 : Int32) = 1 from rfl)]
        by_cases c1 : so b p = -1
        · rw [if_neg (show ¬ so b p = -2 by rw [c1]; decide), if_pos c1, gw_gdT (pi_in (show pl < 4 by omega) (by omega)), gw_letS, if_pos i0, nI_clamp (by omega)]
          refine ⟨1, _, rfl, fun q h1 h2 => gw_upN h2, fun i hi => by rw [gw_upE, gw_ru (by omega)], fun i hi => rfl, Or.inr ⟨_, got [(b, p)] (by unfold fSt; simp [cT, c1]), rfl, ?_⟩⟩
          exact ⟨h18, by rw [gw_upE, gw_rs], trivial⟩
        · have := same (by unfold fSt; simp [cT, c1])
          rw [if_neg c1]
          split <;> exact this
      | succ s =>
        have i0 : ¬ (nI (s + 1) : Int32) = 0 := fun q => by have := congrArg Int32.toInt q; rw [nI_toInt (by omega), Int32.toInt_zero] at this; omega
        rw [if_neg i0, if_neg i0, if_pos (show (0 : Int32) = 0 from rfl), if_neg (show ¬ (1 : Int32) = 0 by decide)]
        rcases hR.2 b hb p hp with e | e | ⟨c, hc, e⟩
        · rw [e, if_pos rfl]
          exact same (by unfold fSt; simp only [cT, e, if_false]; exact if_neg (by decide))
        · rw [e, if_neg (by decide), if_pos rfl]
          exact same (by unfold fSt; simp only [cT, e, if_false]; exact if_neg (by decide))
        · have hst : fSt so np (s + 1) b T p = (fN so np s c (p :: T)).map (fun l => (b, p) :: l) := by
            unfold fSt; simp only [cT, e, if_false]; rw [if_pos (pn_p0 (by omega)), nI_clamp (by omega)]
          have pl1 : nI pl + (1 : Int32) = nI (pl + 1) := pn_a1
          have s1 : nI (s + 1) - (1 : Int32) = nI s := pn_pred
          unfold f_X1_follow_b126
          rw [e, if_neg (show ¬ nI c = (-2 : Int32) from fun q => by have := congrArg Int32.toInt q; rw [nI_toInt (by omega), show ((-2 : Int32)).toInt = -2 by decide] at this; omega), if_neg (pn_m1 (by omega)), gw_gdT (pi_in (show pl < 4 by omega) (by omega)), gw_letS, if_neg i0, pl1, if_neg (show ¬ (4 : Int32) ≤ nI (pl + 1) from pn_le (n := 4) (by omega) (by omega)), gw_gdT (pi_in (show pl + 1 < 4 by omega) (by omega)), gw_letS, s1, nI_clamp (by omega), nI_clamp (by omega)]
          obtain ⟨r, S4, b1, b2, b3, b4, b5⟩ := hF s rfl (pl + 1) (gw_up (gw_up S 19 pl (nI p)) 18 (pl + 1) (nI c)) c (p :: T) (by omega) (h.fr (fun q h1 h2 => by rw [gw_upN h1, gw_upN h2])) hc (by rw [gw_upE, gw_rs]) (hT.next hnp hp (fun i hi => by rw [gw_upN (show 19 ≠ 18 by omega), gw_upE, gw_ru (by omega)]) (by rw [gw_upN (show 19 ≠ 18 by omega), gw_upE, gw_rs]))
          have k1 : ∀ q, q ≠ 18 → q ≠ 19 → S4 q = S q := fun q h1 h2 => by rw [b2 q h1 h2, gw_upN h1, gw_upN h2]
          have k2 : ∀ i, i < pl → S4 19 i = S 19 i := fun i hi => by rw [b3 i (by omega), gw_upN (show 19 ≠ 18 by omega), gw_upE, gw_ru (by omega)]
          have k3 : ∀ i, i ≤ pl → S4 18 i = S 18 i := fun i hi => by rw [b4 i (by omega), gw_upE, gw_ru (by omega), gw_upN (show 18 ≠ 19 by omega)]
          rw [b1, gw_b2S]
          rcases b5 with ⟨o, e5⟩ | ⟨l, o, e5, rw5⟩
          · rw [e5, if_pos rfl]
            exact skip S4 (by rw [hst, o]; rfl) k1 k2 k3
          · rw [e5, if_neg pn_10]
            refine ⟨1, S4, rfl, k1, k2, k3, Or.inr ⟨_, got ((b, p) :: l) (by rw [hst, o]; rfl), rfl, ?_⟩⟩
            exact ⟨by rw [k3 pl (Nat.le_refl pl)]; exact h18, by rw [b3 pl (by omega), gw_upN (show 19 ≠ 18 by omega), gw_upE, gw_rs], rw5⟩
theorem fo_s (hR : sR so np nb) (hnp : np ≤ 24) : ∀ (s n0 : Nat), s ≤ ms → s < n0 → FP so np nb ms (f_X1_follow n0) s
  | s, n0 + 1, hs, hn => fun pl S b T hpl h hb h18 hT => by
    have hnb := hR.1
    have hF : ∀ s', s = s' + 1 → FP so np nb ms (f_X1_follow n0) s' := fun s' e => fo_s hR hnp s' n0 (by omega) (by omega)
    unfold f_X1_follow f_X1_follow_e
    rw [if_neg (show ¬ (4 : Int32) ≤ nI pl from pn_le (n := 4) (by omega) (by omega)), gw_gdT (pi_in (show pl < 4 by omega) (by omega)), nI_clamp (show pl < 2 ^ 31 by omega), h18, nearOf (by omega), gw_bdS, gw_letS]
    by_cases c : S 17 b ≤ nI s
    · rw [if_pos c]
      obtain ⟨r, S', a1, a2⟩ := fo_l (T := T) hR hnp hF hpl hb np gw_F S (Nat.le_refl np) (Nat.lt_of_le_of_lt hnp (by decide)) h h18 hT
      rw [Nat.sub_self, show nI 0 = (0 : Int32) from rfl] at a1
      rw [← fN_e] at a2
      exact ⟨r, S', a1, a2⟩
    · rw [if_neg c]
      refine ⟨0, S, rfl, fun _ _ _ => rfl, fun _ _ => rfl, fun _ _ => rfl, Or.inl ⟨?_, rfl⟩⟩
      cases e : fN so np s b T with
      | none => rfl
      | some l =>
        have := h.2.2 s hs b hb (fN_ok hR s b T l hb e).1
        rw [ps_leI, nI_toInt (by omega)] at c
        omega
end RCE
