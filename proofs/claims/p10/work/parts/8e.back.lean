section RCG
variable {w np nb t i j p c a b f nd pl ms many lev : Nat} {S S0 M M0 S' M' : gw_S} {x x1 x2 x3 x4 x5 x6 u z d v l r : Int32} {T : List Nat} {fa : Nat → Int32}
theorem tby_l (hm : many ≤ 7) : ∀ (k n : Nat) (v : Int32), k ≤ many → k < n → (v = 0 ∨ v = 1) → ∃ r, f_X9_isTakenBy_b5 M n x (nI many) v (nI (many - k)) = some r ∧ ((r = 1 ∧ (v = 1 ∨ ∃ i, many - k ≤ i ∧ i < many ∧ M 41 i = x)) ∨ (r = 0 ∧ v = 0 ∧ ∀ i, many - k ≤ i → i < many → ¬ M 41 i = x))
  | 0, n + 1, v, _, _, hv => by
    rw [f_X9_isTakenBy_b5, if_pos (nI_le (by omega) (by omega)), gw_gdT hv]
    refine ⟨v, rfl, ?_⟩
    rcases hv with e | e
    · exact Or.inr ⟨e, e, fun i h1 h2 => absurd h2 (by omega)⟩
    · exact Or.inl ⟨e, Or.inl e⟩
  | k + 1, n + 1, v, hk, hn, hv => by
    obtain ⟨i, ei⟩ : ∃ i, many - (k + 1) = i := ⟨_, rfl⟩
    have e1 : nI i + (1 : Int32) = nI (many - k) := by rw [← ei]; exact pn_s hk
    rw [ei, f_X9_isTakenBy_b5, if_neg (pn_le (by omega) (by omega)), gw_gdT (pi_in (show i < 8 by omega) (by omega)), nI_clamp (by omega)]
    unfold f_X9_isTakenBy_b26 f_X9_isTakenBy_b31
    rw [gw_letS, gw_letS, e1]
    obtain ⟨r1, a1, a2⟩ := tby_l hm k n 1 (by omega) (by omega) (Or.inr rfl)
    obtain ⟨r0, b1, b2⟩ := tby_l hm k n 0 (by omega) (by omega) (Or.inl rfl)
    have one : r1 = 1 := by rcases a2 with ⟨q, -⟩ | ⟨-, q, -⟩; exact q; exact absurd q (by decide)
    by_cases c0 : v = 0
    · rw [if_pos c0]
      by_cases c1 : M 41 i = x
      · rw [if_pos c1, a1]; exact ⟨r1, rfl, Or.inl ⟨one, Or.inr ⟨i, Nat.le_refl i, by omega, c1⟩⟩⟩
      · rw [if_neg c1, b1]
        refine ⟨r0, rfl, ?_⟩
        rcases b2 with ⟨q1, q2 | ⟨i', h1, h2, h3⟩⟩ | ⟨q1, q2, q3⟩
        · exact absurd q2 (by decide)
        · exact Or.inl ⟨q1, Or.inr ⟨i', by omega, h2, h3⟩⟩
        · refine Or.inr ⟨q1, c0, fun i' h1 h2 => ?_⟩
          by_cases e : i' = i
          · subst e; exact c1
          · exact q3 i' (by omega) h2
    · rw [if_neg c0, a1]
      rcases hv with e | e
      · exact absurd e c0
      · exact ⟨r1, rfl, Or.inl ⟨one, Or.inl e⟩⟩
theorem tK.by (h : tK 41 np M pl T) (hpl : pl ≤ 7) (hp : p < np) : f_X9_isTakenBy (nI p) (nI pl) M = some (if p ∈ T then 1 else 0) := by
  obtain ⟨r, h1, h2⟩ := tby_l (M := M) (x := nI p) hpl pl gw_F 0 (Nat.le_refl pl) (Nat.lt_of_le_of_lt hpl (by decide)) (Or.inl rfl)
  rw [Nat.sub_self, show nI 0 = (0 : Int32) from rfl] at h1
  unfold f_X9_isTakenBy
  rw [h1]
  rcases h2 with ⟨e, q | ⟨i, -, a2, a3⟩⟩ | ⟨e, -, a⟩
  · exact absurd q (by decide)
  · rw [e, if_pos ((h p hp).mpr ⟨i, a2, a3⟩)]
  · rw [e, if_neg (fun q => by obtain ⟨i, a2, a3⟩ := (h p hp).mp q; exact a i (by omega) a2 a3)]
theorem inc_l (hm : pl ≤ 6) (hN : ∀ i, i ≤ pl → ¬ M 40 i = x) : ∀ (k n : Nat), k ≤ pl + 1 → k < n → f_X9_isInChain_b5 M n x (nI pl) 0 (nI (pl + 1 - k)) = some 0
  | 0, n + 1, _, _ => by
    rw [f_X9_isInChain_b5, if_pos (show nI pl < nI (pl + 1 - 0) from pn_lt (by omega) (by omega)), gw_gdT (Or.inl rfl)]
  | k + 1, n + 1, hk, hn => by
    obtain ⟨i, ei⟩ : ∃ i, pl + 1 - (k + 1) = i := ⟨_, rfl⟩
    have e1 : nI i + (1 : Int32) = nI (pl + 1 - k) := by rw [← ei]; exact pn_s hk
    rw [ei, f_X9_isInChain_b5, if_neg (show ¬ nI pl < nI i by rw [ps_ltI, nI_toInt (by omega), nI_toInt (by omega)]; omega), if_pos rfl, gw_gdT (pi_in (show i < 8 by omega) (by omega)), nI_clamp (by omega), if_neg (hN i (by omega))]
    unfold f_X9_isInChain_b31
    rw [gw_letS, e1]
    exact inc_l hm hN k n (by omega) (by omega)
theorem inChain (hm : pl ≤ 6) (hN : ∀ i, i ≤ pl → ¬ M 40 i = x) : f_X9_isInChain x (nI pl) M = some 0 := by
  have := inc_l hm hN (pl + 1) gw_F (Nat.le_refl _) (Nat.lt_of_le_of_lt (show pl + 1 ≤ 7 by omega) (by decide))
  rw [Nat.sub_self, show nI 0 = (0 : Int32) from rfl] at this
  exact this
/-- a search under way, at a place -/
def bK (M0 : gw_S) (fa : Nat → Int32) (np nb lev b : Nat) (T : List Nat) (M : gw_S) : Prop := (∀ r, r ≠ 39 → r ≠ 40 → r ≠ 41 → M r = M0 r) ∧ M 39 = fa ∧ b < nb ∧ M 40 lev = nI b ∧ tK 41 np M lev T ∧ ∀ i, i ≤ lev → ∃ b', b' < nb ∧ M 40 i = nI b' ∧ ∀ p, p < np → M0 32 b' = nI p → p ∈ T
def fFar (M0 : gw_S) (fa : Nat → Int32) (np nb : Nat) : Prop := (∀ j, j < nb → rg 1 1000 (fa j)) ∧ ∀ s j, j < nb → pT (oS M0) np nb s j → (fa j).toInt ≤ s + 1
theorem can_t (h0 : cC w np nb S M0) (hfa : fFar M0 fa np nb) {s : Nat} (hm : lev + s + 1 = many) (h4 : many ≤ 4) (hp : p < np) (h : bK M0 fa np nb lev b T M) : (f_X9_canTake (nI p) (nI lev) (nI many) M = some 0 ∧ fSt (oS M0) np s b T p = none) ∨ (f_X9_canTake (nI p) (nI lev) (nI many) M = some 1 ∧ ((s = 0 ∧ fSt (oS M0) np s b T p = some [(b, p)]) ∨ ∃ s' c, s = s' + 1 ∧ c < nb ∧ oS M0 b p = nI c ∧ M0 32 c = nI p ∧ fSt (oS M0) np s b T p = (fN (oS M0) np s' c (p :: T)).map (fun l => (b, p) :: l))) := by
  obtain ⟨k1, k2, hb, k4, k5, k6⟩ := h
  have hnb := h0.1.1.1.2
  have p0 : ∀ r, ¬ (39 ≤ r ∧ r ≤ 42) → M r = M0 r := fun r hr => k1 r (by omega) (by omega) (by omega)
  have h : cC w np nb S M := h0.scr (fun _ _ => rfl) p0
  have cb : (nI b).toNatClampNeg = b := nI_clamp (by omega)
  have m1 : nI many - (1 : Int32) = nI (lev + s) := by rw [← hm]; exact pn_pred
  unfold f_X9_canTake
  rw [gw_gdT (pi_in (show lev < 8 by omega) (by omega)), nI_clamp (show lev < 2 ^ 31 by omega), k4, gw_letS, k5.by (by omega) hp, ps_br, m1, gw_gdT (pi_in (show b < 30 by omega) (by omega))]
  simp only [cb]
  rw [h.last hp hb, h.whom hp hb, h0.srcE p0 hp hb]
  by_cases cT : p ∈ T
  · rw [if_pos cT]
    exact Or.inl ⟨rfl, by unfold fSt; cases s <;> simp [cT]⟩
  · rw [if_neg cT]
    cases s with
    | zero =>
      rw [if_pos (show nI lev = nI (lev + 0) from rfl)]
      by_cases c : aSrc M0 p b = -1
      · rw [if_pos c]
        exact Or.inr ⟨rfl, Or.inl ⟨rfl, by unfold fSt; simp only [if_neg cT]; exact if_pos c⟩⟩
      · rw [if_neg c]
        exact Or.inl ⟨rfl, by unfold fSt; simp only [if_neg cT]; exact if_neg c⟩
    | succ s =>
      rw [if_neg (show ¬ nI lev = nI (lev + (s + 1)) from fun q => by have := (nI_eq (by omega) (by omega)).mp q; omega), gw_bdS]
      rcases h0.srcR hp hb with e | e | ⟨c, hc, e, ec, -⟩
      · refine Or.inl ⟨by rw [e, if_pos (by decide)], ?_⟩
        unfold fSt; simp only [if_neg cT]; exact if_neg (by unfold oS; rw [e]; decide)
      · refine Or.inl ⟨by rw [e, if_pos (by decide)], ?_⟩
        unfold fSt; simp only [if_neg cT]; exact if_neg (by unfold oS; rw [e]; decide)
      · have nc : ∀ i, i ≤ lev → ¬ M 40 i = nI c := fun i hi q => by
          obtain ⟨b', h1, h2, h3⟩ := k6 i hi
          rw [h2] at q
          have := (nI_eq (by omega) (by omega)).mp q
          subst this
          exact cT (h3 p hp ec)
        have hst : fSt (oS M0) np (s + 1) b T p = (fN (oS M0) np s c (p :: T)).map (fun l => (b, p) :: l) := by
          unfold fSt oS; simp only [if_neg cT]; rw [e, if_pos (pn_p0 (by omega)), nI_clamp (by omega)]
        rw [e, if_neg (pn_n0 (by omega)), if_neg (pn_n0 (by omega)), inChain (by omega) nc, gw_bdS, if_pos rfl, gw_gdT (pi_in (show c < 30 by omega) (by omega)), nI_clamp (by omega), k2]
        have e2 : nI (lev + (s + 1)) - nI lev = nI (s + 1) := by
          rw [← Int32.toInt_inj, pn_sbi (by rw [nI_toInt (by omega)]; omega) (by rw [nI_toInt (by omega)]; omega), nI_toInt (by omega), nI_toInt (by omega), nI_toInt (by omega)]; omega
        rw [e2]
        by_cases c2 : nI (s + 1) < fa c
        · rw [if_pos c2]
          refine Or.inl ⟨rfl, ?_⟩
          rw [hst]
          cases e3 : fN (oS M0) np s c (p :: T) with
          | none => rfl
          | some l' =>
            have := hfa.2 s c hc (fN_ok (show sR (oS M0) np nb from h0.sR1) s c _ l' hc e3).1
            rw [ps_ltI, nI_toInt (by omega)] at c2
            omega
        · rw [if_neg c2]
          exact Or.inr ⟨rfl, Or.inr ⟨s, c, rfl, hc, e, ec, hst⟩⟩
def cB : Nat → Nat
  | 0 => 1
  | s + 1 => 24 * cB s + 2
def bO (many lev n : Nat) (M : gw_S) : Option (Int32 × gw_S) := if lev = 0 then f_X9_findChainOf_b12 n (nI many) (-1) 0 M else f_X9_findChainOf_b12 n (nI many) (nI (lev - 1)) (M 41 (lev - 1) + 1) M
def bF (lev : Nat) (M M2 : gw_S) : Prop := (∀ r, r ≠ 40 → r ≠ 41 → M2 r = M r) ∧ (∀ i, i < lev → M2 41 i = M 41 i) ∧ ∀ i, i ≤ lev → M2 40 i = M 40 i
theorem bK.fr (h : bK M0 fa np nb lev b T M) (q : bF lev M M') : bK M0 fa np nb lev b T M' := by
  obtain ⟨k1, k2, hb, k4, k5, k6⟩ := h
  exact ⟨fun r h1 h2 h3 => by rw [q.1 r h2 h3, k1 r h1 h2 h3], by rw [q.1 39 (by omega) (by omega), k2], hb, by rw [q.2.2 lev (Nat.le_refl lev), k4], k5.fr q.2.1, fun i hi => by rw [q.2.2 i hi]; exact k6 i hi⟩
def BT (M0 : gw_S) (fa : Nat → Int32) (np nb many s lev : Nat) : Prop := ∀ (M : gw_S) (b : Nat) (T : List Nat), bK M0 fa np nb lev b T M → ∃ m M2, m ≤ 24 * cB s + 1 ∧ bF lev M M2 ∧ ((fN (oS M0) np s b T = none ∧ ∀ n, f_X9_findChainOf_b12 (n + m) (nI many) (nI lev) 0 M = bO many lev n M2) ∨ ∃ l, fN (oS M0) np s b T = some l ∧ fRw 40 41 M2 l lev ∧ ∀ n, f_X9_findChainOf_b12 (n + m) (nI many) (nI lev) 0 M = some (1, M2))
theorem bt_i (h0 : cC w np nb S M0) (hfa : fFar M0 fa np nb) {s : Nat} (hm : lev + s + 1 = many) (h4 : many ≤ 4) (hF : ∀ s', s = s' + 1 → BT M0 fa np nb many s' (lev + 1)) : ∀ (k f : Nat) (M : gw_S), k ≤ np → k < f → bK M0 fa np nb lev b T M → ∃ m M2, m ≤ k * cB s ∧ bF lev M M2 ∧ ((fG np (fSt (oS M0) np s b T) k = none ∧ ∀ n, f_X9_findChainOf_b25 (f_X9_findChainOf_b12 (n + m)) f (nI many) (nI lev) (nI (np - k)) M = bO many lev n M2) ∨ ∃ l, fG np (fSt (oS M0) np s b T) k = some l ∧ fRw 40 41 M2 l lev ∧ ∀ n, f_X9_findChainOf_b25 (f_X9_findChainOf_b12 (n + m)) f (nI many) (nI lev) (nI (np - k)) M = some (1, M2))
  | 0, f + 1, M, _, _, h => by
    have hnp := h0.1.1.1.1
    have e8 : M 0 8 = nI np := by rw [h.1 0 (by omega) (by omega) (by omega)]; exact h0.1.1.2.2.1.1
    refine ⟨0, M, Nat.zero_le _, ⟨fun _ _ _ => rfl, fun _ _ => rfl, fun _ _ => rfl⟩, Or.inl ⟨rfl, fun n => ?_⟩⟩
    rw [f_X9_findChainOf_b25, e8, if_pos (nI_le (by omega) (by omega))]
    unfold f_X9_findChainOf_b51 f_X9_findChainOf_b121 f_X9_findChainOf_b123 bO
    rw [e8, if_pos (nI_le (by omega) (by omega)), gw_letS, pn_addm]
    cases lev with
    | zero => rw [if_pos rfl, if_pos (by decide)]; rfl
    | succ lev =>
      rw [pn_pred, if_neg (pn_n0 (by omega)), gw_gdT (pi_in (show lev < 8 by omega) (by omega)), nI_clamp (by omega), if_neg (by omega)]
      rfl
  | k + 1, f + 1, M, hk, hf, h => by
    have hnp := h0.1.1.1.1
    have hnb := h0.1.1.1.2
    obtain ⟨p, ep⟩ : ∃ p, np - (k + 1) = p := ⟨_, rfl⟩
    have hp : p < np := by omega
    have e1 : nI p + (1 : Int32) = nI (np - k) := by rw [← ep]; exact pn_s hk
    have e8 : M 0 8 = nI np := by rw [h.1 0 (by omega) (by omega) (by omega)]; exact h0.1.1.2.2.1.1
    have got : ∀ l, fSt (oS M0) np s b T p = some l → fG np (fSt (oS M0) np s b T) (k + 1) = some l := fun l hl => by unfold fG; rw [ep, hl]
    have nxt : fSt (oS M0) np s b T p = none → fG np (fSt (oS M0) np s b T) (k + 1) = fG np (fSt (oS M0) np s b T) k := fun hl => by rw [fG, ep, hl]
    have pos : 1 ≤ cB s := by cases s <;> unfold cB <;> omega
    have mul : (k + 1) * cB s = k * cB s + cB s := by rw [Nat.add_mul, Nat.one_mul]
    rw [ep]
    rcases can_t h0 hfa hm h4 hp h with ⟨c1, c2⟩ | ⟨c1, c2⟩
    · obtain ⟨m, M2, a1, a2, a3⟩ := bt_i h0 hfa hm h4 hF k f M (by omega) (by omega) h
      refine ⟨m, M2, by omega, a2, ?_⟩
      have st : ∀ K, f_X9_findChainOf_b25 K (f + 1) (nI many) (nI lev) (nI p) M = f_X9_findChainOf_b25 K f (nI many) (nI lev) (nI (np - k)) M := fun K => by
        rw [f_X9_findChainOf_b25, e8, if_neg (pn_le hp (by omega)), c1, gw_bdS, if_pos rfl, gw_letS, e1]
      simp only [st, nxt c2]
      exact a3
    · have st : ∀ K, f_X9_findChainOf_b25 K (f + 1) (nI many) (nI lev) (nI p) M = f_X9_findChainOf_b51 K (nI many) (nI lev) (nI p) M := fun K => by
        rw [f_X9_findChainOf_b25, e8, if_neg (pn_le hp (by omega)), c1, gw_bdS, if_neg pn_10]
      obtain ⟨k1, k2, hb, k4, k5, k6⟩ := h
      rcases c2 with ⟨hs0, c3⟩ | ⟨s', c, hs', hc, ec, ecp, c3⟩
      · subst hs0
        have em : lev + 1 = many := by omega
        have st2 : ∀ K, f_X9_findChainOf_b25 K (f + 1) (nI many) (nI lev) (nI p) M = K (nI many) (nI many) 0 (gw_up M 41 lev (nI p)) := fun K => by
          rw [st]
          unfold f_X9_findChainOf_b51 f_X9_findChainOf_b96 f_X9_findChainOf_b123
          rw [e8, if_neg (pn_le hp (by omega)), gw_gdT (pi_in (show lev < 8 by omega) (by omega)), nI_clamp (show lev < 2 ^ 31 by omega), gw_letS, pn_a1, em, gw_letS, if_pos (nI_le (Nat.le_refl many) (by omega))]
        simp only [st2]
        refine ⟨1, gw_up M 41 lev (nI p), by omega, ⟨fun r h1 h2 => gw_upN h2, fun i hi => by rw [gw_upE, gw_ru (by omega)], fun i hi => rfl⟩, Or.inr ⟨_, got _ c3, ⟨k4, by rw [gw_upE, gw_rs], trivial⟩, fun n => ?_⟩⟩
        rw [f_X9_findChainOf_b12, if_neg (pn_n0 (by omega)), if_pos (nI_le (Nat.le_refl many) (by omega))]
        unfold f_X9_findChainOf_b126
        rw [if_pos rfl]
      · obtain ⟨M1, eM1⟩ : ∃ M1, gw_up M 41 lev (nI p) = M1 := ⟨_, rfl⟩
        have f1 : ∀ r, r ≠ 41 → M1 r = M r := fun r hr => by rw [← eM1, gw_upN hr]
        have p1 : ∀ r, ¬ (39 ≤ r ∧ r ≤ 42) → M1 r = M0 r := fun r hr => by rw [f1 r (by omega), k1 r (by omega) (by omega) (by omega)]
        have h1 : cC w np nb S M1 := h0.scr (fun _ _ => rfl) p1
        have wh : f_X9_fromWhom (nI p) (nI b) M1 = some (nI c) := by
          rw [h1.whom hp hb, h0.srcE p1 hp hb]
          unfold oS at ec
          rw [ec, if_neg (pn_n0 (by omega))]
        obtain ⟨M3, eM3⟩ : ∃ M3, gw_up M1 40 (lev + 1) (nI c) = M3 := ⟨_, rfl⟩
        have st2 : ∀ K, f_X9_findChainOf_b25 K (f + 1) (nI many) (nI lev) (nI p) M = K (nI many) (nI (lev + 1)) 0 M3 := fun K => by
          rw [st]
          unfold f_X9_findChainOf_b51 f_X9_findChainOf_b96 f_X9_findChainOf_b123
          rw [e8, if_neg (pn_le hp (by omega)), gw_gdT (pi_in (show lev < 8 by omega) (by omega)), nI_clamp (show lev < 2 ^ 31 by omega), eM1, gw_letS, pn_a1, gw_letS, if_neg (pn_le (by omega) (by omega)), show nI (lev + 1) - (1 : Int32) = nI lev from pn_pred, gw_gdT (pi_in (show lev < 8 by omega) (by omega)), nI_clamp (show lev < 2 ^ 31 by omega), f1 40 (by omega), k4, wh, gw_bdS, gw_gdT (pi_in (show lev + 1 < 8 by omega) (by omega)), nI_clamp (show lev + 1 < 2 ^ 31 by omega), gw_letS, eM3]
        simp only [st2]
        have f3 : ∀ r, r ≠ 40 → r ≠ 41 → M3 r = M r := fun r h1 h2 => by rw [← eM3, gw_upN h1, f1 r h2]
        have f341 : M3 41 = upd (M 41) lev (nI p) := by rw [← eM3, gw_upN (by omega), ← eM1, gw_upE]
        have f340 : M3 40 = upd (M 40) (lev + 1) (nI c) := by rw [← eM3, gw_upE, f1 40 (by omega)]
        have h3 : bK M0 fa np nb (lev + 1) c (p :: T) M3 := ⟨fun r r1 r2 r3 => by rw [f3 r r2 r3, k1 r r1 r2 r3], by rw [f3 39 (by omega) (by omega), k2], hc, by rw [f340, gw_rs], k5.next hnp hp (fun i hi => by rw [f341, gw_ru (by omega)]) (by rw [f341, gw_rs]), fun i hi => by
          rw [f340]
          by_cases e : i = lev + 1
          · subst e
            rw [gw_rs]
            exact ⟨c, hc, rfl, fun p' hp' e' => by rw [ecp] at e'; rw [(nI_eq (by omega) (by omega)).mp e']; exact List.mem_cons_self⟩
          · rw [gw_ru e]
            obtain ⟨b', q1, q2, q3⟩ := k6 i (by omega)
            exact ⟨b', q1, q2, fun p' hp' e' => List.mem_cons_of_mem _ (q3 p' hp' e')⟩⟩
        obtain ⟨m1, M4, a1, a2, a3⟩ := hF s' hs' M3 c (p :: T) h3
        have g0 : ∀ r, r ≠ 40 → r ≠ 41 → M4 r = M r := fun r r1 r2 => by rw [a2.1 r r1 r2, f3 r r1 r2]
        have g41 : ∀ i, i < lev → M4 41 i = M 41 i := fun i hi => by rw [a2.2.1 i (by omega), f341, gw_ru (by omega)]
        have g40 : ∀ i, i ≤ lev → M4 40 i = M 40 i := fun i hi => by rw [a2.2.2 i (by omega), f340, gw_ru (by omega)]
        have gl : M4 41 lev = nI p := by rw [a2.2.1 lev (by omega), f341, gw_rs]
        have hF4 : bF lev M M4 := ⟨g0, g41, g40⟩
        have ecB : cB s = 24 * cB s' + 2 := by rw [hs']; rfl
        rcases a3 with ⟨o, a3⟩ | ⟨l', o, rw3, a3⟩
        · obtain ⟨m2, M5, b1, b2, b3⟩ := bt_i h0 hfa hm h4 hF k gw_F M4 (by omega) (Nat.lt_of_le_of_lt (show k ≤ 24 by omega) (by decide)) ((show bK M0 fa np nb lev b T M from ⟨k1, k2, hb, k4, k5, k6⟩).fr hF4)
          have hN : fSt (oS M0) np s b T p = none := by rw [c3, o]; rfl
          have hF5 : bF lev M M5 := ⟨fun r r1 r2 => by rw [b2.1 r r1 r2, g0 r r1 r2], fun i hi => by rw [b2.2.1 i hi, g41 i hi], fun i hi => by rw [b2.2.2 i hi, g40 i hi]⟩
          have step : ∀ n, f_X9_findChainOf_b12 (n + (m2 + 1 + m1)) (nI many) (nI (lev + 1)) 0 M3 = f_X9_findChainOf_b25 (f_X9_findChainOf_b12 (n + m2)) gw_F (nI many) (nI lev) (nI (np - k)) M4 := fun n => by
            rw [show n + (m2 + 1 + m1) = (n + m2 + 1) + m1 by omega, a3 (n + m2 + 1)]
            unfold bO
            rw [if_neg (by omega), show lev + 1 - 1 = lev by omega, gl, e1, f_X9_findChainOf_b12, if_neg (pn_n0 (by omega)), if_neg (pn_le (by omega) (by omega))]
          refine ⟨m2 + 1 + m1, M5, by omega, hF5, ?_⟩
          simp only [step, nxt hN]
          exact b3
        · refine ⟨m1, M4, by omega, hF4, Or.inr ⟨(b, p) :: l', got _ (by rw [c3, o]; rfl), ⟨by rw [g40 lev (Nat.le_refl lev)]; exact k4, gl, rw3⟩, a3⟩⟩
theorem bt_s (h0 : cC w np nb S M0) (hfa : fFar M0 fa np nb) (h4 : many ≤ 4) : ∀ (s lev : Nat), lev + s + 1 = many → BT M0 fa np nb many s lev
  | s, lev, hm => fun M b T h => by
    have hnp := h0.1.1.1.1
    have hF : ∀ s', s = s' + 1 → BT M0 fa np nb many s' (lev + 1) := fun s' e => bt_s h0 hfa h4 s' (lev + 1) (by omega)
    obtain ⟨m, M2, a1, a2, a3⟩ := bt_i h0 hfa hm h4 hF np gw_F M (Nat.le_refl np) (Nat.lt_of_le_of_lt hnp (by decide)) h
    rw [Nat.sub_self, show nI 0 = (0 : Int32) from rfl, ← fN_e] at a3
    have le : np * cB s ≤ 24 * cB s := Nat.mul_le_mul_right _ hnp
    have st : ∀ n, f_X9_findChainOf_b12 (n + (m + 1)) (nI many) (nI lev) 0 M = f_X9_findChainOf_b25 (f_X9_findChainOf_b12 (n + m)) gw_F (nI many) (nI lev) 0 M := fun n => by
      rw [show n + (m + 1) = n + m + 1 by omega, f_X9_findChainOf_b12, if_neg (pn_n0 (by omega)), if_neg (pn_le (by omega) (by omega))]
    refine ⟨m + 1, M2, by omega, a2, ?_⟩
    simp only [st]
    exact a3
theorem findChainOf (h0 : cC w np nb S M0) (hfa : fFar M0 fa np nb) {s : Nat} (h4 : s ≤ 3) (hb : b < nb) (hw : M0 32 b = -1) (hM : ∀ r, r ≠ 39 → r ≠ 40 → r ≠ 41 → M r = M0 r) (h39 : M 39 = fa) : ∃ r M2, f_X9_findChainOf (nI b) (nI (s + 1)) M = some (r, M2) ∧ (∀ r, r ≠ 40 → r ≠ 41 → M2 r = M r) ∧ ((fN (oS M0) np s b [] = none ∧ r = 0) ∨ ∃ l, fN (oS M0) np s b [] = some l ∧ r = 1 ∧ fRw 40 41 M2 l 0) := by
  have hnb := h0.1.1.1.2
  have hnp := h0.1.1.1.1
  obtain ⟨m, M2, a1, a2, a3⟩ := bt_s h0 hfa (many := s + 1) (by omega) s 0 (by omega) (gw_up M 40 0 (nI b)) b [] ⟨fun r h1 h2 h3 => by rw [gw_upN h2, hM r h1 h2 h3], h39, hb, by rw [gw_upE, gw_rs], fun p hp => by simp, fun i hi => ⟨b, hb, by rw [show i = 0 by omega, gw_upE, gw_rs], fun p hp e => by rw [hw] at e; exact absurd e.symm (pn_m1 (by omega))⟩⟩
  have c3 : cB s ≤ 15026 := by
    rcases (show s = 0 ∨ s = 1 ∨ s = 2 ∨ s = 3 by omega) with rfl | rfl | rfl | rfl <;> decide
  have eF : gw_F = (gw_F - m) + m := by have : gw_F = 1000000000 := rfl; omega
  have eF2 : gw_F - m = (gw_F - m - 1) + 1 := by have : gw_F = 1000000000 := rfl; omega
  unfold f_X9_findChainOf
  rw [gw_letS, show (0 : Int32).toNatClampNeg = 0 from rfl, eF]
  have fr : ∀ r, r ≠ 40 → r ≠ 41 → M2 r = M r := fun r h1 h2 => by rw [a2.1 r h1 h2, gw_upN h1]
  rw [show nI 0 = (0 : Int32) from rfl] at a3
  rcases a3 with ⟨o, a3⟩ | ⟨l, o, rw3, a3⟩
  · rw [a3]
    unfold bO
    rw [if_pos rfl, eF2, f_X9_findChainOf_b12, if_pos (show (-1 : Int32) < 0 by decide)]
    unfold f_X9_findChainOf_b126
    rw [if_neg (show ¬ (-1 : Int32) = nI (s + 1) from fun q => pn_m1 (by omega) q.symm)]
    exact ⟨0, M2, rfl, fr, Or.inl ⟨o, rfl⟩⟩
  · rw [a3]
    exact ⟨1, M2, rfl, fr, Or.inr ⟨l, o, rfl, rw3⟩⟩
end RCG
