section RMA
variable {w np nb t i j p c a b f nd : Nat} {S S0 M M0 S' M' : gw_S} {x x1 x2 x3 x4 x5 x6 u z d v : Int32}
/-- what is written by the way: CHAINS, trials kept -/
theorem rA.scr (h : rA w np nb S M) (q : ∀ r, ¬ (15 ≤ r ∧ r ≤ 19) → S' r = S r) (p : ∀ r, ¬ (39 ≤ r ∧ r ≤ 42) → M' r = M r) : rA w np nb S' M' := h.fr (by rw [q 3 (by omega)]) (by rw [q 3 (by omega)]) (by rw [q 29 (by omega)]) (by rw [q 29 (by omega)]) (q 12 (by omega)) (q 13 (by omega)) (fun i => q _ (by omega)) (fun i => q _ (by omega)) (by rw [p 0 (by omega)]) (by rw [p 0 (by omega)]) (fun k hk => p k (by omega))
theorem rC.scr (h : rC t S M) (q : ∀ r, ¬ (15 ≤ r ∧ r ≤ 19) → S' r = S r) (p : ∀ r, ¬ (39 ≤ r ∧ r ≤ 42) → M' r = M r) : rC t S' M' := by
  obtain ⟨hT, hY, hO, hS, hI, hL⟩ := h
  exact ⟨hT.fr (q 5 (by omega)) (p 1 (by omega)) (p 2 (by omega)) (p 3 (by omega)), hY.fr (by rw [q 1 (by omega)]) (q 2 (by omega)) (by rw [p 0 (by omega)]) (p 5 (by omega)), hO.fr (q 11 (by omega)) (p 6 (by omega)), hS.fr (fun k h1 h2 => q k (by omega)) (p 43 (by omega)) (p 44 (by omega)) (p 45 (by omega)), hI.fr (q 14 (by omega)), hL.fr (q 7 (by omega)) (q 8 (by omega)) (q 9 (by omega)) (q 10 (by omega)) (by rw [p 0 (by omega)]) (p 19 (by omega)) (p 20 (by omega)) (p 21 (by omega)) (p 22 (by omega))⟩
theorem lFd.scr (h : lFd S M) (q : ∀ r, ¬ (15 ≤ r ∧ r ≤ 19) → S' r = S r) (p : ∀ r, ¬ (39 ≤ r ∧ r ≤ 42) → M' r = M r) : lFd S' M' := by
  unfold lFd lLo lHi at h ⊢
  rw [q 9 (by omega), q 10 (by omega), p 23 (by omega), p 24 (by omega)]
  exact h
/-- a member of a PARTY -/
abbrev aMem (M : gw_S) (j : Nat) (x : Int32) : Prop := M 30 j = x ∧ ¬ 0 ≤ M 31 j
theorem rA.member (h : rA w np nb S M) (hj : j < nb) : f_X2_isMember (nI j) x S = some (if aMem M j x then 1 else 0) := by
  have hb := h.b hj
  unfold f_X2_isMember
  rw [if_neg (h.nb1 hj), gw_gdT (h.gb hj), h.cb hj, hb.1.2.2.2.2.2.2, h.off hj]
  by_cases c1 : M 30 j = x
  · rw [if_pos c1]
    by_cases c2 : 0 ≤ M 31 j
    · rw [if_pos c2, gw_bdS, if_neg pn_10, if_neg (fun q => q.2 c2)]
    · rw [if_neg c2, gw_bdS, if_pos rfl, if_pos ⟨c1, c2⟩]
  · rw [if_neg c1, if_neg (fun q => c1 q.1)]
theorem me_l (hA : rA w np nb S M) : ∀ (k n n' : Nat) (v : Int32), k ≤ nb → k < n → k < n' → ∃ r, f_X2_membersOf_b4 S n x v (nI (nb - k)) = some r ∧ f_X9_match_b31 n' x x2 v (nI (nb - k)) M = if r = 0 then some ((-4 : Int32), M) else gw_bd (f_X9_findLies M) (fun S16 => f_X9_match_b95 gw_F x x2 r (0 : Int32) (-1 : Int32) (0 : Int32) S16)
  | 0, n + 1, n' + 1, v, _, _, _ => by
    have hnb := hA.1.1.2
    rw [f_X2_membersOf_b4, f_X9_match_b31, hA.1.2.1.2.1, hA.1.2.2.1.2, if_pos (nI_le (by omega) (by omega)), if_pos (nI_le (by omega) (by omega))]
    exact ⟨v, rfl, rfl⟩
  | k + 1, n + 1, n' + 1, v, hk, hn, hn' => by
    have hnb := hA.1.1.2
    obtain ⟨j, ej⟩ : ∃ j, nb - (k + 1) = j := ⟨_, rfl⟩
    have hj : j < nb := by omega
    have z : v + 0 = v := Int32.add_zero v
    have e1 : nI j + (1 : Int32) = nI (nb - k) := by rw [← ej]; exact pn_s hk
    rw [ej, f_X2_membersOf_b4, f_X9_match_b31, hA.1.2.1.2.1, hA.1.2.2.1.2, if_neg (pn_le hj (by omega)), if_neg (pn_le hj (by omega)), hA.1.bookingAt hj, gw_bdS, hA.member hj, ps_br, gw_gdT (hA.inb hj), hA.cb hj]
    unfold f_X2_membersOf_b28 f_X9_match_b66 f_X9_match_b67
    simp only [gw_letS, e1, z]
    by_cases c1 : M 30 j = x
    · rw [if_pos c1]
      by_cases c2 : 0 ≤ M 31 j
      · rw [if_pos c2, if_neg (fun q : aMem M j x => q.2 c2)]
        exact me_l hA k n n' v (by omega) (by omega) (by omega)
      · rw [if_neg c2, if_pos (show aMem M j x from ⟨c1, c2⟩)]
        exact me_l hA k n n' (v + 1) (by omega) (by omega) (by omega)
    · rw [if_neg c1, if_neg (fun q : aMem M j x => c1 q.1)]
      exact me_l hA k n n' v (by omega) (by omega) (by omega)
/-- trials: what may differ from the start -/
def mSc (nb : Nat) (S0 S : gw_S) : Prop := (∀ q, q ≠ 14 → (∀ b, b < nb → q ≠ 2 * b + 31) → S q = S0 q) ∧ (∀ b, nb ≤ b → S 14 b = S0 14 b) ∧ ∀ b, b < nb → (∀ f, f ≠ 8 → S (2 * b + 31) f = S0 (2 * b + 31) f) ∧ ((S 14 b = 0 ∧ S (2 * b + 31) 8 = S0 (2 * b + 31) 8) ∨ (S 14 b = 1 ∧ S0 (2 * b + 31) 8 = -1))
def mSm (nb : Nat) (M0 M : gw_S) : Prop := (∀ q, q ≠ 32 → M q = M0 q) ∧ ∀ b, nb ≤ b → M 32 b = M0 32 b
theorem mSc.rN (h : mSc nb S0 S) (hN : rN np nb S0 M0) : rN np nb S M0 := by
  unfold Jvm.Pilot.@@N@@.rN at hN ⊢
  rw [h.1 3 (by omega) (fun b _ => by omega), h.1 29 (by omega) (fun b _ => by omega), h.1 12 (by omega) (fun b _ => by omega), h.1 13 (by omega) (fun b _ => by omega)]
  exact hN
theorem tk_l (hN : rN np nb S0 M0) (hI : rI S0) : ∀ (k n : Nat) (S : gw_S), k ≤ nb → k < n → mSc nb S0 S → (∀ b, b < nb - k → S 14 b = 0 ∧ S (2 * b + 31) 8 = S0 (2 * b + 31) 8) → f_X2_takeTrialsBack_b2 n (nI (nb - k)) S = some S0
  | 0, n + 1, S, _, _, h, hb => by
    have hnb := hN.1.2
    rw [f_X2_takeTrialsBack_b2, (h.rN hN).2.1.2.1, if_pos (nI_le (by omega) (by omega))]
    congr 1
    funext q f
    by_cases e : q = 14
    · subst e
      by_cases e2 : f < nb
      · rw [(hb f (by omega)).1, hI f (by omega)]
      · exact h.2.1 f (by omega)
    · by_cases e2 : ∃ b, b < nb ∧ q = 2 * b + 31
      · obtain ⟨b, h1, rfl⟩ := e2
        by_cases e3 : f = 8
        · subst e3; exact (hb b (by omega)).2
        · exact (h.2.2 b h1).1 f e3
      · rw [h.1 q e (fun b hb e3 => e2 ⟨b, hb, e3⟩)]
  | k + 1, n + 1, S, hk, hn, h, hb => by
    have hnb := hN.1.2
    have hN' := h.rN hN
    obtain ⟨j, ej⟩ : ∃ j, nb - (k + 1) = j := ⟨_, rfl⟩
    have hj : j < nb := by omega
    have cj : (nI j).toNatClampNeg = j := nI_clamp (by omega)
    have e1 : nI j + (1 : Int32) = nI (nb - k) := by rw [← ej]; exact pn_s hk
    have hj2 := h.2.2 j hj
    have g : (nI j).toNatClampNeg < gw_nb S := by rw [hN'.gnb, cj]; exact hj
    rw [ej, f_X2_takeTrialsBack_b2, hN'.2.1.2.1, if_neg (pn_le hj (by omega)), hN'.bookingAt hj, gw_bdS, if_neg (pn_m1 (by omega)), gw_gdT (pi_in (show j < 30 by omega) (by omega)), cj]
    unfold f_X2_takeTrialsBack_b41
    simp only [gw_letS, e1]
    by_cases c : S 14 j = 0
    · rw [if_pos c]
      refine tk_l hN hI k n S (by omega) (by omega) h (fun b h1 => ?_)
      by_cases e : b = j
      · subst e
        rcases hj2.2 with q | ⟨q, -⟩
        · exact q
        · rw [q] at c; exact absurd c (by decide)
      · exact hb b (by omega)
    · rw [if_neg c, gw_gdT (by rw [cj] at g; exact g)]
      have m1 : S0 (2 * j + 31) 8 = -1 := by
        rcases hj2.2 with ⟨q, -⟩ | ⟨-, q⟩
        · exact absurd q c
        · exact q
      have nar : vp_nar .boolean (0 : Int32) = 0 := by decide
      rw [nar]
      refine tk_l hN hI k n _ (by omega) (by omega) ⟨fun q h14 hq => ?_, fun b hb => ?_, fun b hb => ⟨fun f hf => ?_, ?_⟩⟩ (fun b h1 => ?_)
      · rw [gw_upN h14, gw_upN (hq j hj)]; exact h.1 q h14 hq
      · rw [gw_upE, gw_ru (by omega), gw_upN (by omega)]; exact h.2.1 b hb
      · rw [gw_upN (by omega)]
        by_cases e : b = j
        · subst e; rw [gw_upE, gw_ru hf]; exact hj2.1 f hf
        · rw [gw_upN (by omega)]; exact (h.2.2 b hb).1 f hf
      · rw [gw_upE, gw_upN (show 2 * b + 31 ≠ 14 by omega)]
        by_cases e : b = j
        · subst e; rw [gw_rs, gw_upE, gw_rs]; exact Or.inl ⟨rfl, m1.symm⟩
        · rw [gw_ru e, gw_upN (show 14 ≠ 2 * j + 31 by omega), gw_upN (show 2 * b + 31 ≠ 2 * j + 31 by omega)]; exact (h.2.2 b hb).2
      · rw [gw_upE, gw_upN (show 2 * b + 31 ≠ 14 by omega)]
        by_cases e : b = j
        · subst e; rw [gw_rs, gw_upE, gw_rs]; exact ⟨rfl, m1.symm⟩
        · rw [gw_ru e, gw_upN (show 14 ≠ 2 * j + 31 by omega), gw_upN (show 2 * b + 31 ≠ 2 * j + 31 by omega)]; exact hb b (by omega)
theorem mb_l (h29 : M0 0 29 = nI nb) (hnb : nb ≤ 30) (h42 : ∀ b, b < nb → M0 42 b = M0 32 b) (v : Int32) : ∀ (k n : Nat) (M : gw_S), k ≤ nb → k < n → mSm nb M0 M → (∀ b, b < nb - k → M 32 b = M0 32 b) → f_X9_matchOf_b143 n v (nI (nb - k)) M = some (v, M0)
  | 0, n + 1, M, _, _, h, hb => by
    have e29 : M 0 29 = nI nb := by rw [h.1 0 (by omega)]; exact h29
    rw [f_X9_matchOf_b143, e29, if_pos (nI_le (by omega) (by omega))]
    congr 2
    funext q f
    by_cases e : q = 32
    · subst e
      by_cases e2 : f < nb
      · exact hb f (by omega)
      · exact h.2 f (by omega)
    · rw [h.1 q e]
  | k + 1, n + 1, M, hk, hn, h, hb => by
    obtain ⟨j, ej⟩ : ∃ j, nb - (k + 1) = j := ⟨_, rfl⟩
    have hj : j < nb := by omega
    have cj : (nI j).toNatClampNeg = j := nI_clamp (by omega)
    have e1 : nI j + (1 : Int32) = nI (nb - k) := by rw [← ej]; exact pn_s hk
    have e29 : M 0 29 = nI nb := by rw [h.1 0 (by omega)]; exact h29
    rw [ej, f_X9_matchOf_b143, e29, if_neg (pn_le hj (by omega)), gw_gdT (pi_in (show j < 30 by omega) (by omega)), gw_letS, gw_letS, cj, e1, h.1 42 (by omega), h42 j hj]
    refine mb_l h29 hnb h42 v k n _ (by omega) (by omega) ⟨fun q hq => ?_, fun b hb2 => ?_⟩ (fun b h1 => ?_)
    · rw [gw_upN hq]; exact h.1 q hq
    · rw [gw_upE, gw_ru (by omega)]; exact h.2 b hb2
    · rw [gw_upE]
      by_cases e : b = j
      · subst e; rw [gw_rs]
      · rw [gw_ru e]; exact hb b (by omega)
theorem ma_l (hT : rT S0 M0) (hO : rO S0 M0) (hF : lFd S0 M0) (hI : rI S0) (hN : rN np nb S0 M0) (h42 : ∀ b, b < nb → M0 42 b = M0 32 b) (hx : 0 ≤ x2.toInt) : ∀ (k n n' : Nat) (S M : gw_S) (v : Int32), k ≤ nb → k < n → k < n' → rA w np nb S M → mSc nb S0 S → mSm nb M0 M → ∃ r, f_X2_matchedIn_b5 n x1 x2 v (nI (nb - k)) S = some (r, S0) ∧ f_X9_matchOf_b33 n' x1 x2 v (nI (nb - k)) M = some (r, M0)
  | 0, n + 1, n' + 1, S, M, v, _, _, _, hA, hc, hm => by
    have hnb := hA.1.1.2
    have b1 := tk_l hN hI nb gw_F S (Nat.le_refl nb) (Nat.lt_of_le_of_lt hnb (by decide)) hc (fun b hb => absurd hb (by omega))
    have b2 := mb_l hN.2.2.1.2 hnb h42 v nb gw_F M (Nat.le_refl nb) (Nat.lt_of_le_of_lt hnb (by decide)) hm (fun b hb => absurd hb (by omega))
    rw [Nat.sub_self, show nI 0 = (0 : Int32) from rfl] at b1 b2
    rw [f_X2_matchedIn_b5, f_X9_matchOf_b33, hA.1.2.1.2.1, hA.1.2.2.1.2, if_pos (nI_le (by omega) (by omega)), if_pos (nI_le (by omega) (by omega)), b2]
    unfold f_X2_takeTrialsBack
    rw [b1, gw_bdS]
    exact ⟨v, rfl, rfl⟩
  | k + 1, n + 1, n' + 1, S, M, v, hk, hn, hn', hA, hc, hm => by
    have hnb := hA.1.1.2
    obtain ⟨j, ej⟩ : ∃ j, nb - (k + 1) = j := ⟨_, rfl⟩
    have hj : j < nb := by omega
    have e1 : nI j + (1 : Int32) = nI (nb - k) := by rw [← ej]; exact pn_s hk
    have z : ∀ v : Int32, v + 0 = v := Int32.add_zero
    have go : ∀ (S M : gw_S) (v : Int32), rA w np nb S M → mSc nb S0 S → mSm nb M0 M → ∃ r, f_X2_matchedIn_b86 (f_X2_matchedIn_b5 n) x1 x2 v (nI j) S = some (r, S0) ∧ f_X9_matchOf_b134 (f_X9_matchOf_b33 n') x1 x2 v (nI j) M = some (r, M0) := fun S M v hA hc hm => by
      unfold f_X2_matchedIn_b86 f_X9_matchOf_b134
      rw [gw_letS, gw_letS, e1]
      exact ma_l hT hO hF hI hN h42 hx k n n' S M v (by omega) (by omega) (by omega) hA hc hm
    have cnt : ∀ S M : gw_S, rA w np nb S M → mSc nb S0 S → mSm nb M0 M → ∃ r, f_X2_matchedIn_b63 (f_X2_matchedIn_b5 n) x1 x2 v (nI j) (nI j) S = some (r, S0) ∧ f_X9_matchOf_b100 (f_X9_matchOf_b33 n') x1 x2 v (nI j) M = some (r, M0) := fun S M hA hc hm => by
      have hb := hA.b hj
      unfold f_X2_matchedIn_b63 f_X9_matchOf_b100 f_X9_matchOf_b131 f_X9_matchOf_b132
      rw [gw_gdT (hA.nb1 hj), gw_gdT (hA.gb hj), gw_gdT (hA.inb hj), hA.cb hj, hb.2.2.1.1]
      simp only [gw_letS, z]
      rcases hb.2.2.1.2 with e | ⟨p, hp, e⟩
      · rw [e, if_pos rfl, if_pos (by decide)]; exact go S M v hA hc hm
      · have hp24 := hA.ip hp
        rw [e, if_neg (hA.np1 hp), if_neg (pn_n0 (by omega)), gw_gdT (hA.gp hp), gw_gdT (hA.inp hp), hA.cp hp, (hA.p hp).1.2.2.2.1]
        by_cases c : M 10 p = x2
        · rw [if_pos c, if_pos c]; exact go S M (v + 1) hA hc hm
        · rw [if_neg c, if_neg c]; exact go S M v hA hc hm
    have hb := hA.b hj
    rw [ej, f_X2_matchedIn_b5, f_X9_matchOf_b33, hA.1.2.1.2.1, hA.1.2.2.1.2, if_neg (pn_le hj (by omega)), if_neg (pn_le hj (by omega)), hA.1.bookingAt hj, gw_bdS, hA.member hj, ps_br, gw_gdT (hA.nb1 hj), gw_gdT (hA.gb hj), gw_gdT (hA.inb hj)]
    simp only [hA.cb hj, hb.2.2.1.1]
    by_cases c1 : M 30 j = x1
    · rw [if_pos c1]
      by_cases c2 : 0 ≤ M 31 j
      · rw [if_pos c2, if_neg (fun q : aMem M j x1 => q.2 c2)]; exact go S M v hA hc hm
      · rw [if_neg c2, if_pos (show aMem M j x1 from ⟨c1, c2⟩)]
        by_cases c3 : M 32 j = -1
        · have hT' : rT S M := hT.fr (hc.1 5 (by omega) (fun b _ => by omega)) (hm.1 1 (by omega)) (hm.1 2 (by omega)) (hm.1 3 (by omega))
          have hO' : rO S M := hO.fr (hc.1 11 (by omega) (fun b _ => by omega)) (hm.1 6 (by omega))
          have hF' : lFd S M := by
            unfold lFd lLo lHi at hF ⊢
            rw [hc.1 9 (by omega) (fun b _ => by omega), hc.1 10 (by omega) (fun b _ => by omega), hm.1 23 (by omega), hm.1 24 (by omega)]; exact hF
          obtain ⟨r, r', g1, g2, g3⟩ := hA.best hT' hO' hF' hj (x2 := x2) (Or.inr hx)
          have s0 : M 33 j = 0 := by
            rcases hb.2.2.2.1.2 with q | ⟨-, q⟩
            · exact q
            · exact absurd c3 q
          have nar : vp_nar .boolean (1 : Int32) = 1 := by decide
          have o1 : S0 (2 * j + 31) 8 = -1 := by
            rcases (hc.2.2 j hj).2 with ⟨-, q⟩ | ⟨-, q⟩
            · rw [← q, hb.2.2.1.1]; exact c3
            · exact q
          have new : ∀ y : Int32, (y = -1 ∧ M 33 j = 0 ∨ ∃ i, i < np ∧ y = nI i) → ∃ r, f_X2_matchedIn_b63 (f_X2_matchedIn_b5 n) x1 x2 v (nI j) (nI j) (gw_up (gw_up S (2 * j + 31) 8 y) 14 j 1) = some (r, S0) ∧ f_X9_matchOf_b100 (f_X9_matchOf_b33 n') x1 x2 v (nI j) (gw_up M 32 j y) = some (r, M0) := fun y hy => by
            refine cnt _ _ ((hA.give hj hy).fr rfl rfl rfl rfl rfl rfl (fun i => gw_upN (by omega)) (fun i => gw_upN (by omega)) rfl rfl (fun _ _ => rfl)) ⟨fun q h14 hq => ?_, fun b hb => ?_, fun b hb => ⟨fun f hf => ?_, ?_⟩⟩ ⟨fun q hq => ?_, fun b hb => ?_⟩
            · rw [gw_upN h14, gw_upN (hq j hj)]; exact hc.1 q h14 hq
            · rw [gw_upE, gw_ru (by omega), gw_upN (by omega)]; exact hc.2.1 b hb
            · rw [gw_upN (by omega)]
              by_cases e : b = j
              · subst e; rw [gw_upE, gw_ru hf]; exact (hc.2.2 b hj).1 f hf
              · rw [gw_upN (by omega)]; exact (hc.2.2 b hb).1 f hf
            · rw [gw_upE, gw_upN (show 2 * b + 31 ≠ 14 by omega)]
              by_cases e : b = j
              · subst e; rw [gw_rs]; exact Or.inr ⟨rfl, o1⟩
              · rw [gw_ru e, gw_upN (show 14 ≠ 2 * j + 31 by omega), gw_upN (show 2 * b + 31 ≠ 2 * j + 31 by omega)]; exact (hc.2.2 b hb).2
            · rw [gw_upN hq]; exact hm.1 q hq
            · rw [gw_upE, gw_ru (by omega)]; exact hm.2 b hb
          unfold f_X9_matchOf_b99
          rw [if_pos c3, if_neg (fun q => (hA.had hj).1.mp q c3), g1, g2, gw_bdS, gw_bdS, gw_letS, gw_gdT (hA.inb hj), gw_letS, gw_gdT (hA.inb hj), gw_letS, gw_gdT (hA.inb hj), gw_letS, nar]
          simp only [hA.cb hj]
          rcases g3 with ⟨q1, q2⟩ | ⟨p, hp, q1, q2⟩
          · rw [q1, q2, if_neg (by decide)]; exact new (-1) (Or.inl ⟨rfl, s0⟩)
          · have hp24 := hA.ip hp
            rw [q1, q2, if_pos (pn_p0 (by omega))]; exact new (nI p) (Or.inr ⟨p, hp, rfl⟩)
        · rw [if_neg c3, if_pos ((hA.had hj).1.mpr c3)]
          exact cnt S M hA hc hm
    · rw [if_neg c1, if_neg (fun q : aMem M j x1 => c1 q.1)]; exact go S M v hA hc hm
theorem mc_l (hnb : nb ≤ 30) : ∀ (k n : Nat) (M : gw_S), k ≤ nb → k < n → M 0 29 = nI nb → (∀ b, b < nb - k → M 42 b = M 32 b) → ∃ M1, f_X9_matchOf_b2 n x1 x2 (nI (nb - k)) M = f_X9_matchOf_b33 gw_F x1 x2 0 0 M1 ∧ (∀ q, q ≠ 42 → M1 q = M q) ∧ ∀ b, b < nb → M1 42 b = M1 32 b
  | 0, n + 1, M, _, _, h29, h => by
    rw [f_X9_matchOf_b2, h29, if_pos (nI_le (by omega) (by omega))]
    exact ⟨M, rfl, fun _ _ => rfl, fun b hb => h b (by omega)⟩
  | k + 1, n + 1, M, hk, hn, h29, h => by
    obtain ⟨j, ej⟩ : ∃ j, nb - (k + 1) = j := ⟨_, rfl⟩
    have hj : j < nb := by omega
    have cj : (nI j).toNatClampNeg = j := nI_clamp (by omega)
    have e1 : nI j + (1 : Int32) = nI (nb - k) := by rw [← ej]; exact pn_s hk
    rw [ej, f_X9_matchOf_b2, h29, if_neg (pn_le hj (by omega)), gw_gdT (pi_in (show j < 30 by omega) (by omega)), gw_letS, gw_letS, cj, e1]
    obtain ⟨M1, e2, e3, e4⟩ := mc_l hnb k n (gw_up M 42 j (M 32 j)) (by omega) (by omega) h29 (fun b hb => by
      rw [gw_upE, gw_upN (show 32 ≠ 42 by omega)]
      by_cases e : b = j
      · subst e; rw [gw_rs]
      · rw [gw_ru e]; exact h b (by omega))
    exact ⟨M1, e2, fun q hq => by rw [e3 q hq, gw_upN hq], e4⟩
theorem rA.matched (hA : rA w np nb S M) (hT : rT S M) (hO : rO S M) (hF : lFd S M) (hI : rI S) (hx : 0 ≤ x2.toInt) : ∃ r M1, f_X2_matchedIn x1 x2 S = some (r, S) ∧ f_X9_matchOf x1 x2 M = some (r, M1) ∧ ∀ q, q ≠ 42 → M1 q = M q := by
  have hnb := hA.1.1.2
  have hFu : nb < gw_F := Nat.lt_of_le_of_lt hnb (by decide)
  obtain ⟨M1, e1, e2, e3⟩ := mc_l (x1 := x1) (x2 := x2) hnb nb gw_F M (Nat.le_refl nb) hFu hA.1.2.2.1.2 (fun b hb => absurd hb (by omega))
  have q0 : ∀ r, ¬ (15 ≤ r ∧ r ≤ 19) → S r = S r := fun _ _ => rfl
  have p0 : ∀ r, ¬ (39 ≤ r ∧ r ≤ 42) → M1 r = M r := fun r hr => e2 r (by omega)
  have hA1 := hA.scr q0 p0
  have hT1 : rT S M1 := hT.fr rfl (p0 1 (by omega)) (p0 2 (by omega)) (p0 3 (by omega))
  have hO1 : rO S M1 := hO.fr rfl (p0 6 (by omega))
  have hF1 : lFd S M1 := hF.scr q0 p0
  obtain ⟨r, k1, k2⟩ := ma_l (x1 := x1) (x2 := x2) hT1 hO1 hF1 hI hA1.1 e3 hx nb gw_F gw_F S M1 0 (Nat.le_refl nb) hFu hFu hA1 ⟨fun _ _ _ => rfl, fun _ _ => rfl, fun b hb => ⟨fun _ _ => rfl, Or.inl ⟨hI b (by omega), rfl⟩⟩⟩ ⟨fun _ _ => rfl, fun _ _ => rfl⟩
  rw [Nat.sub_self, show nI 0 = (0 : Int32) from rfl] at e1 k1 k2
  exact ⟨r, M1, k1, by unfold f_X9_matchOf; rw [e1]; exact k2, e2⟩
theorem ml_l (hI : rI S) (h2 : x2 = 0 ∨ x2 = 1 ∨ x2 = 2) : ∀ (k n n' : Nat) (M : gw_S) (v3 v4 v5 : Int32), k ≤ 10 → k < n → k < n' → rA w np nb S M → rT S M → rO S M → lFd S M → ∃ r M1, f_X8_match_b52 n x1 x2 v4 v5 (nI (10 - k)) S = some (r, S) ∧ f_X9_match_b95 n' x1 x2 v3 v4 v5 (nI (10 - k)) M = some (if x2 = 2 then v3 else r, M1) ∧ ∀ q, q ≠ 42 → M1 q = M q
  | 0, n + 1, n' + 1, M, v3, v4, v5, _, _, _, hA, hT, hO, hF => by
    rw [f_X8_match_b52, f_X9_match_b95, if_pos (show (9 : Int32) < nI (10 - 0) by decide), if_pos (show (10 : Int32) ≤ nI (10 - 0) by decide)]
    rcases h2 with e | e | e
    · subst e; rw [if_pos rfl, if_pos rfl]; exact ⟨v4, M, rfl, by rw [if_neg (by decide)], fun _ _ => rfl⟩
    · subst e; rw [if_neg (by decide), if_neg (by decide), if_pos rfl]; exact ⟨v5, M, rfl, by rw [if_neg (by decide)], fun _ _ => rfl⟩
    · subst e; rw [if_neg (by decide), if_neg (by decide), if_neg (by decide)]; exact ⟨v5, M, rfl, by rw [if_pos rfl], fun _ _ => rfl⟩
  | k + 1, n + 1, n' + 1, M, v3, v4, v5, hk, hn, hn', hA, hT, hO, hF => by
    obtain ⟨j, ej⟩ : ∃ j, 10 - (k + 1) = j := ⟨_, rfl⟩
    have hj : j < 10 := by omega
    have e1 : nI j + (1 : Int32) = nI (10 - k) := by rw [← ej]; exact pn_s hk
    obtain ⟨r, M1, m1, m2, m3⟩ := hA.matched hT hO hF hI (x1 := x1) (x2 := nI j) (by rw [nI_toInt (by omega)]; omega)
    have q0 : ∀ r, ¬ (15 ≤ r ∧ r ≤ 19) → S r = S r := fun _ _ => rfl
    have p0 : ∀ r, ¬ (39 ≤ r ∧ r ≤ 42) → M1 r = M r := fun r hr => m3 r (by omega)
    rw [ej, f_X8_match_b52, f_X9_match_b95, if_neg (show ¬ (9 : Int32) < nI j by rw [ps_ltI, nI_toInt (by omega), pz_9]; omega), if_neg (show ¬ (10 : Int32) ≤ nI j from pn_le (n := 10) hj (by omega)), m1, m2, gw_b2S, gw_b2S]
    unfold f_X8_match_b86 f_X9_match_b126
    simp only [gw_letS, e1]
    have nx := fun a b => ml_l hI h2 k n n' M1 v3 a b (by omega) (by omega) (by omega) (hA.scr q0 p0) (hT.fr rfl (p0 1 (by omega)) (p0 2 (by omega)) (p0 3 (by omega))) (hO.fr rfl (p0 6 (by omega))) (hF.scr q0 p0)
    by_cases c : r ≤ v5
    · rw [if_pos c, if_pos c]
      obtain ⟨r2, M2, k1, k2, k3⟩ := nx v4 v5
      exact ⟨r2, M2, k1, k2, fun q hq => by rw [k3 q hq, m3 q hq]⟩
    · rw [if_neg c, if_neg c]
      obtain ⟨r2, M2, k1, k2, k3⟩ := nx (nI j) r
      exact ⟨r2, M2, k1, k2, fun q hq => by rw [k3 q hq, m3 q hq]⟩
theorem so_match (h : rR w S M) : gw_ex w (f_X8_match x1 x2 S) (f_X9_match x1 x2 M) := by
  have h0 := h
  obtain ⟨np, nb, t, hA, hT, hY, hO, hS, hI, hL⟩ := h
  have hnb := hA.1.1.2
  have hFu : nb < gw_F := Nat.lt_of_le_of_lt hnb (by decide)
  unfold f_X8_match f_X9_match
  rw [ps_isIn, ps_br, ps_isIn, ps_br, ps_in, ps_br, ps_in, ps_br, pz_0, pz_4, pz_2, pq_0, pq_4, pq_2]
  by_cases c1 : 0 ≤ x1.toInt ∧ x1.toInt ≤ 4
  · rw [if_pos c1, if_pos c1]
    by_cases c2 : 0 ≤ x2.toInt ∧ x2.toInt ≤ 2
    · rw [if_pos c2, if_pos c2]
      obtain ⟨r, m1, m2⟩ := me_l (x := x1) (x2 := x2) hA nb gw_F gw_F 0 (Nat.le_refl nb) hFu hFu
      rw [Nat.sub_self, show nI 0 = (0 : Int32) from rfl] at m1 m2
      unfold f_X2_membersOf
      rw [m1, m2, gw_bdS]
      by_cases c3 : r = 0
      · rw [if_pos c3, if_pos c3]; exact gx rfl h0
      · rw [if_neg c3, if_neg c3]
        obtain ⟨M', e1, e2, e3, e4, e5⟩ := hL.find
        have hA' := hA.lies e2 e3
        have hC' : rC t S M' := rC.lies ⟨hT, hY, hO, hS, hI, hL⟩ e2 e3
        have h2 : x2 = 0 ∨ x2 = 1 ∨ x2 = 2 := by
          obtain ⟨a, ha, rfl⟩ := ps_nI (n := 2) c2 (by omega)
          rcases (show a = 0 ∨ a = 1 ∨ a = 2 by omega) with rfl | rfl | rfl
          · exact Or.inl rfl
          · exact Or.inr (Or.inl rfl)
          · exact Or.inr (Or.inr rfl)
        obtain ⟨r2, M2, k1, k2, k3⟩ := ml_l (x1 := x1) hI h2 10 gw_F gw_F M' r 0 (-1) (Nat.le_refl 10) (by decide) (by decide) hA' hC'.1 hC'.2.2.1 e4
        rw [Nat.sub_self, show nI 0 = (0 : Int32) from rfl] at k1 k2
        have fin : rR w S M2 := rC.rR (hC'.scr (fun _ _ => rfl) (fun r hr => k3 r (by omega))) (hA'.scr (fun _ _ => rfl) (fun r hr => k3 r (by omega)))
        rw [e1, gw_bdS, k2]
        by_cases c4 : x2 = 2
        · rw [if_pos c4, if_pos c4]; exact gx rfl fin
        · rw [if_neg c4, if_neg c4, k1]; exact gx rfl fin
    · rw [if_neg c2, if_neg c2]; exact gx rfl h0
  · rw [if_neg c1, if_neg c1]; exact gx rfl h0
end RMA
