section RTA
variable {w np nb t i j p q c a b f k : Nat} {S S0 S1 M M0 M1 S' M' : gw_S} {x x1 x2 x3 x4 x5 x6 u z v r cap e : Int32} {d : Nat → Int32}
def tC (t : Nat) (d : Nat → Int32) (S : gw_S) : Prop := S 1 1 = nI t ∧ ∀ i, i < t → S 2 i = d i
def tM (t : Nat) (d : Nat → Int32) (M : gw_S) : Prop := M 0 5 = nI t ∧ ∀ i, i < t → M 5 i = d i
def tD (t : Nat) (d : Nat → Int32) : Prop := t ≤ 60 ∧ ∀ i, i < t → rg 32 126 (d i)
def sg (t : Nat) (d : Nat → Int32) (q : Nat) : Int32 := if q < t then d q else -1
theorem up_up : gw_up (gw_up M k i u) k i v = gw_up M k i v := by
  funext q f
  by_cases e : q = k
  · subst e
    rw [gw_upE, gw_upE, gw_upE]
    unfold upd
    split <;> rfl
  · rw [gw_upN e, gw_upN e, gw_upN e]
theorem up_id (h : M k i = v) : gw_up M k i v = M := by
  funext q f
  by_cases e : q = k
  · subst e
    rw [gw_upE]
    unfold upd
    split
    · rename_i e; rw [e]; exact h.symm
    · rfl
  · rw [gw_upN e]
theorem tM.at (h : tM t d M) (v : Int32) : tM t d (gw_up M 0 6 v) := h
theorem tC.sign (h : tC t d S) (hD : tD t d) (hp : p ≤ t) : f_X6_signAt (nI p) S = some (sg t d p) := by
  have := hD.1
  unfold f_X6_signAt sg
  rw [if_neg (pn_n0 (by omega)), h.1]
  by_cases c : p < t
  · rw [if_neg (pn_le c (by omega)), gw_gdT (pi_in (by omega) (by omega)), nI_clamp (by omega), h.2 p c, if_pos c]
  · rw [if_pos (nI_le (by omega) (by omega)), if_neg c]
theorem bl_l (hD : tD t d) : ∀ (k p : Nat), p + k = t → ∃ q, p ≤ q ∧ q ≤ t ∧ (∀ S n, tC t d S → k < n → f_X6_behindBlanks_b2 S n (nI p) = some (nI q)) ∧ ∀ M n, tM t d M → k < n → M 0 6 = nI p → f_X9_next_b0 n M = some (sg t d q, gw_up M 0 6 (nI q))
  | 0, p, hp => by
    have := hD.1
    refine ⟨p, Nat.le_refl p, by omega, fun S n h hn => ?_, fun M n h hn h6 => ?_⟩
    · cases n with
      | zero => omega
      | succ n => rw [f_X6_behindBlanks_b2, h.1, if_pos (nI_le (by omega) (by omega))]
    · cases n with
      | zero => omega
      | succ n =>
        unfold sg
        rw [f_X9_next_b0, h.1, h6, if_pos (nI_le (by omega) (by omega)), if_neg (by omega), up_id h6]
        unfold f_X9_next_b38
        rw [h.1, h6, if_pos (nI_le (by omega) (by omega))]
  | k + 1, p, hp => by
    have ht := hD.1
    have hpt : p < t := by omega
    by_cases c : d p = 32
    · obtain ⟨q, q1, q2, q3, q4⟩ := bl_l hD k (p + 1) (by omega)
      refine ⟨q, by omega, q2, fun S n h hn => ?_, fun M n h hn h6 => ?_⟩
      · cases n with
        | zero => omega
        | succ n =>
          rw [f_X6_behindBlanks_b2, h.1, if_neg (pn_le hpt (by omega)), h.sign hD (by omega), gw_bdS]
          unfold sg
          rw [if_pos hpt, if_pos c, gw_letS, pn_a1]
          exact q3 S n h (by omega)
      · cases n with
        | zero => omega
        | succ n =>
          rw [f_X9_next_b0, h.1, h6, if_neg (pn_le hpt (by omega)), gw_gdT (pi_in (show p < 60 by omega) (by omega)), nI_clamp (by omega), h.2 p hpt, if_pos c, gw_letS, pn_a1, q4 (gw_up M 0 6 (nI (p + 1))) n (h.at _) (by omega) (by rw [gw_upE, gw_rs]), up_up]
    · refine ⟨p, Nat.le_refl p, by omega, fun S n h hn => ?_, fun M n h hn h6 => ?_⟩
      · cases n with
        | zero => omega
        | succ n =>
          rw [f_X6_behindBlanks_b2, h.1, if_neg (pn_le hpt (by omega)), h.sign hD (by omega), gw_bdS]
          unfold sg
          rw [if_pos hpt, if_neg c]
      · cases n with
        | zero => omega
        | succ n =>
          unfold sg
          rw [f_X9_next_b0, h.1, h6, if_neg (pn_le hpt (by omega)), gw_gdT (pi_in (show p < 60 by omega) (by omega)), nI_clamp (by omega), h.2 p hpt, if_neg c, up_id h6]
          unfold f_X9_next_b38
          rw [h.1, h6, if_neg (pn_le hpt (by omega)), gw_gdT (pi_in (show p < 60 by omega) (by omega)), nI_clamp (by omega), h.2 p hpt, if_pos hpt]
/-- a number as it grows, there and here -/
def nV (cap c v : Int32) : Prop := (c = v ∧ 0 ≤ v.toInt ∧ v.toInt ≤ cap.toInt) ∨ (c.toInt = cap.toInt + 1 ∧ cap.toInt < v.toInt)
theorem pn_mul10 (h : 0 ≤ x.toInt ∧ x.toInt ≤ 1000) : (x * 10).toInt = x.toInt * 10 ∧ (10 * x).toInt = x.toInt * 10 := by
  have z : (10 : Int32).toInt = 10 := by decide
  constructor
  · rw [Int32.toInt_mul, z, Int.bmod_eq_of_le] <;> omega
  · rw [Int32.toInt_mul, z, Int.mul_comm, Int.bmod_eq_of_le] <;> omega
theorem nV.step (hcap : 0 ≤ cap.toInt ∧ cap.toInt ≤ 999) (he : 48 ≤ e.toInt ∧ e.toInt ≤ 57) (h : nV cap x v) : nV cap (if ((x * 10 + e) - 48) < (cap + 1) then ((x * 10 + e) - 48) else (cap + 1)) (if v ≤ cap then ((10 * v + e) - 48) else v) := by
  have z48 : (48 : Int32).toInt = 48 := by decide
  have hx : 0 ≤ x.toInt ∧ x.toInt ≤ 1000 := by
    rcases h with ⟨h1, h2, h3⟩ | ⟨h1, h2⟩
    · subst h1; omega
    · omega
  have m1 := pn_mul10 hx
  have a1 : ((x * 10 + e) - 48).toInt = x.toInt * 10 + e.toInt - 48 := by
    have := pn_add (x := x * 10) (y := e) (by omega) (by omega)
    rw [pn_sbi (by omega) (by omega), this, m1.1, z48]
  have a2 : ((10 * x + e) - 48).toInt = x.toInt * 10 + e.toInt - 48 := by
    have := pn_add (x := 10 * x) (y := e) (by omega) (by omega)
    rw [pn_sbi (by omega) (by omega), this, m1.2, z48]
  have c1 : (cap + 1).toInt = cap.toInt + 1 := by rw [pn_add (by omega) (by rw [pz_1]; omega), pz_1]
  rcases h with ⟨h1, h2, h3⟩ | ⟨h1, h2⟩
  · subst h1
    rw [if_pos (show x ≤ cap by rw [ps_leI]; omega)]
    by_cases c : ((x * 10 + e) - 48) < (cap + 1)
    · rw [if_pos c]
      rw [ps_ltI, a1, c1] at c
      exact Or.inl ⟨by rw [← Int32.toInt_inj, a1, a2], by rw [a2]; omega, by rw [a2]; omega⟩
    · rw [if_neg c]
      rw [ps_ltI, a1, c1] at c
      exact Or.inr ⟨c1, by rw [a2]; omega⟩
  · rw [if_neg (show ¬ v ≤ cap by rw [ps_leI]; omega), if_neg (show ¬ ((x * 10 + e) - 48) < (cap + 1) by rw [ps_ltI, a1, c1]; omega)]
    exact Or.inr ⟨c1, h2⟩
theorem dg_l (hD : tD t d) (hcap : 0 ≤ cap.toInt ∧ cap.toInt ≤ 999) : ∀ (k p : Nat), p + k = t → ∃ q, p ≤ q ∧ q ≤ t ∧ (∀ S n, tC t d S → k < n → f_X6_behindDigits_b2 S n (nI p) = some (nI q)) ∧ ∀ c v, nV cap c v → ∃ c' v', nV cap c' v' ∧ (∀ S n, tC t d S → k < n → f_X6_numberIn_b6 S n (nI q) cap c (nI p) = some c') ∧ ∀ M n v2 v3, tM t d M → k < n → M 0 6 = nI p → f_X9_number_b13 n cap v2 v3 v M = f_X9_number_b90 cap v2 v3 v' (gw_up M 0 6 (nI q))
  | 0, p, hp => by
    have := hD.1
    refine ⟨p, Nat.le_refl p, by omega, fun S n h hn => ?_, fun c v hv => ⟨c, v, hv, fun S n h hn => ?_, fun M n v2 v3 h hn h6 => ?_⟩⟩
    · cases n with
      | zero => omega
      | succ n => rw [f_X6_behindDigits_b2, h.1, if_pos (nI_le (by omega) (by omega))]
    · cases n with
      | zero => omega
      | succ n => rw [f_X6_numberIn_b6, if_pos (nI_le (by omega) (by omega))]
    · cases n with
      | zero => omega
      | succ n => rw [f_X9_number_b13, h.1, h6, if_pos (nI_le (by omega) (by omega)), up_id h6]
  | k + 1, p, hp => by
    have ht := hD.1
    have hpt : p < t := by omega
    have hdp := hD.2 p hpt
    have z48 : (48 : Int32).toInt = 48 := by decide
    have z57 : (57 : Int32).toInt = 57 := by decide
    have dig : ∀ S, tC t d S → f_X6_isDigitAt (nI p) S = some (if 48 ≤ (d p).toInt ∧ (d p).toInt ≤ 57 then 1 else 0) := fun S h => by
      unfold f_X6_isDigitAt
      rw [h.sign hD (by omega), gw_bdS]
      unfold sg
      rw [if_pos hpt]
      by_cases c1 : d p < 48
      · rw [if_pos c1]; rw [ps_ltI, z48] at c1; rw [if_neg (by omega)]
      · rw [if_neg c1]; rw [ps_ltI, z48] at c1
        by_cases c2 : 57 < d p
        · rw [if_pos c2]; rw [ps_ltI, z57] at c2; rw [if_neg (by omega)]
        · rw [if_neg c2]; rw [ps_ltI, z57] at c2; rw [if_pos (by omega)]
    by_cases c : 48 ≤ (d p).toInt ∧ (d p).toInt ≤ 57
    · obtain ⟨q, q1, q2, q3, q4⟩ := dg_l hD hcap k (p + 1) (by omega)
      refine ⟨q, by omega, q2, fun S n h hn => ?_, fun x v hv => ?_⟩
      · cases n with
        | zero => omega
        | succ n =>
          rw [f_X6_behindDigits_b2, h.1, if_neg (pn_le hpt (by omega)), dig S h, gw_bdS, if_pos c, if_neg pn_10, gw_letS, pn_a1]
          exact q3 S n h (by omega)
      · obtain ⟨c', v', k1, k2, k3⟩ := q4 _ _ (hv.step hcap c)
        refine ⟨c', v', k1, fun S n h hn => ?_, fun M n v2 v3 h hn h6 => ?_⟩
        · cases n with
          | zero => omega
          | succ n =>
            rw [f_X6_numberIn_b6, if_neg (pn_le (by omega) (by omega)), h.sign hD (by omega), gw_bdS]
            unfold sg
            rw [if_pos hpt, gw_letS, gw_letS, pn_a1]
            exact k2 S n h (by omega)
        · cases n with
          | zero => omega
          | succ n =>
            have kk := k3 (gw_up M 0 6 (nI (p + 1))) n v2 v3 (h.at _) (by omega) (by rw [gw_upE, gw_rs])
            rw [up_up] at kk
            rw [f_X9_number_b13, h.1, h6, if_neg (pn_le hpt (by omega)), gw_gdT (pi_in (show p < 60 by omega) (by omega)), nI_clamp (by omega), h.2 p hpt, ps_in, ps_br, pq_48, pq_57, if_pos c]
            unfold f_X9_number_b75
            rw [gw_letS, gw_letS, h6, pn_a1]
            by_cases c9 : v ≤ cap
            · rw [if_pos c9] at kk ⊢; exact kk
            · rw [if_neg c9] at kk ⊢; exact kk
    · refine ⟨p, Nat.le_refl p, by omega, fun S n h hn => ?_, fun x v hv => ⟨x, v, hv, fun S n h hn => ?_, fun M n v2 v3 h hn h6 => ?_⟩⟩
      · cases n with
        | zero => omega
        | succ n => rw [f_X6_behindDigits_b2, h.1, if_neg (pn_le hpt (by omega)), dig S h, gw_bdS, if_neg c, if_pos rfl]
      · cases n with
        | zero => omega
        | succ n => rw [f_X6_numberIn_b6, if_pos (nI_le (by omega) (by omega))]
      · cases n with
        | zero => omega
        | succ n => rw [f_X9_number_b13, h.1, h6, if_neg (pn_le hpt (by omega)), gw_gdT (pi_in (show p < 60 by omega) (by omega)), nI_clamp (by omega), h.2 p hpt, ps_in, ps_br, pq_48, pq_57, if_neg c, up_id h6]
/-- letters -/
def mL (M : gw_S) : Prop := ∀ j, j < 8 → M 1 j = gw_LET j ∧ M 2 j = gw_MST j
theorem pl_l (hL : mL M) (v : Int32) : ∀ k, k ≤ 8 → ∀ n, k < n → ∃ r, f_X7_placeOf_b2 S n v (nI (8 - k)) = some r ∧ f_X9_termOf_b2 M n v (nI (8 - k)) = some r ∧ (r = -1 ∨ ∃ j, j < 8 ∧ r = nI j ∧ gw_LET j = v)
  | 0, _, n + 1, _ => ⟨-1, by rw [f_X7_placeOf_b2, if_pos (by decide)], by rw [f_X9_termOf_b2, if_pos (by decide)], Or.inl rfl⟩
  | k + 1, hk, n + 1, hn => by
    have hj : 8 - (k + 1) < 8 := by omega
    have hg : gw_in (nI (8 - (k + 1))) 8 := ps_gin (by rw [nI_toInt (by omega)]; omega)
    rw [f_X7_placeOf_b2, f_X9_termOf_b2, if_neg (show ¬ (8 : Int32) ≤ nI (8 - (k + 1)) from pn_le (n := 8) hj (by omega)), if_neg (show ¬ (8 : Int32) ≤ nI (8 - (k + 1)) from pn_le (n := 8) hj (by omega)), gw_gdT hg, gw_gdT hg, nI_clamp (by omega), (hL _ hj).1]
    by_cases h : gw_LET (8 - (k + 1)) = v
    · rw [if_pos h, if_pos h]; exact ⟨_, rfl, rfl, Or.inr ⟨_, hj, rfl, h⟩⟩
    · rw [if_neg h, if_neg h, gw_letS, gw_letS, pn_s hk]
      exact pl_l hL v k (by omega) n (by omega)
theorem pl_o (hL : mL M) (v : Int32) : ∃ r, f_X7_placeOf v S = some r ∧ f_X9_termOf v M = some r ∧ (r = -1 ∨ ∃ j, j < 8 ∧ r = nI j ∧ gw_LET j = v) := by
  have := pl_l (S := S) hL v 8 (Nat.le_refl 8) gw_F (by decide)
  rw [Nat.sub_self, show nI 0 = (0 : Int32) from rfl] at this
  exact this
theorem let_no : ∀ j, j < 8 → ¬ gw_LET j = -1 := by decide
theorem mst_r : ∀ j, j < 8 → 0 ≤ (gw_MST j).toInt ∧ (gw_MST j).toInt ≤ 999 := by decide
/-- TERMS that are read: there and here -/
def rQ (S M : gw_S) : Prop := ∀ j, j < 8 → S 6 j = M 4 j ∧ rg 0 (gw_MST j).toInt (M 4 j)
theorem cp_65 : ∀ (k n : Nat) (S : gw_S), k ≤ 8 → k < n → ∃ S1, f_X7_copy_6_5_b2 n (nI (8 - k)) S = some S1 ∧ (∀ q, q ≠ 5 → S1 q = S q) ∧ ∀ j, j < 8 → S1 5 j = if 8 - k ≤ j then S 6 j else S 5 j
  | 0, n + 1, S, _, _ => by
    rw [f_X7_copy_6_5_b2, if_pos (by decide)]
    exact ⟨S, rfl, fun _ _ => rfl, fun j hj => by rw [if_neg (by omega)]⟩
  | k + 1, n + 1, S, hk, hn => by
    have hm : 8 - (k + 1) < 8 := by omega
    rw [f_X7_copy_6_5_b2, if_neg (show ¬ (8 : Int32) ≤ nI (8 - (k + 1)) from pn_le (n := 8) hm (by omega)), gw_gdT (pi_in hm (by omega)), nI_clamp (by omega), gw_letS, gw_letS, pn_s hk]
    obtain ⟨S1, a1, a2, a3⟩ := cp_65 k n (gw_up S 5 (8 - (k + 1)) (S 6 (8 - (k + 1)))) (by omega) (by omega)
    refine ⟨S1, a1, fun q hq => by rw [a2 q hq, gw_upN hq], fun j hj => ?_⟩
    rw [a3 j hj, gw_upE, gw_upN (show 6 ≠ 5 by omega)]
    by_cases e : j = 8 - (k + 1)
    · subst e; rw [gw_rs]; split
      · rw [if_pos (by omega)]
      · rw [if_pos (by omega)]
    · rw [gw_ru e]; split
      · rw [if_pos (by omega)]
      · rw [if_neg (by omega)]
theorem cp_56 : ∀ (k n : Nat) (S : gw_S), k ≤ 8 → k < n → ∃ S1, f_X7_copy_5_6_b2 n (nI (8 - k)) S = some S1 ∧ (∀ q, q ≠ 6 → S1 q = S q) ∧ ∀ j, j < 8 → S1 6 j = if 8 - k ≤ j then S 5 j else S 6 j
  | 0, n + 1, S, _, _ => by
    rw [f_X7_copy_5_6_b2, if_pos (by decide)]
    exact ⟨S, rfl, fun _ _ => rfl, fun j hj => by rw [if_neg (by omega)]⟩
  | k + 1, n + 1, S, hk, hn => by
    have hm : 8 - (k + 1) < 8 := by omega
    rw [f_X7_copy_5_6_b2, if_neg (show ¬ (8 : Int32) ≤ nI (8 - (k + 1)) from pn_le (n := 8) hm (by omega)), gw_gdT (pi_in hm (by omega)), nI_clamp (by omega), gw_letS, gw_letS, pn_s hk]
    obtain ⟨S1, a1, a2, a3⟩ := cp_56 k n (gw_up S 6 (8 - (k + 1)) (S 5 (8 - (k + 1)))) (by omega) (by omega)
    refine ⟨S1, a1, fun q hq => by rw [a2 q hq, gw_upN hq], fun j hj => ?_⟩
    rw [a3 j hj, gw_upE, gw_upN (show 5 ≠ 6 by omega)]
    by_cases e : j = 8 - (k + 1)
    · subst e; rw [gw_rs]; split
      · rw [if_pos (by omega)]
      · rw [if_pos (by omega)]
    · rw [gw_ru e]; split
      · rw [if_pos (by omega)]
      · rw [if_neg (by omega)]
theorem cp_34 : ∀ (k n : Nat) (S : gw_S), k ≤ 8 → k < n → ∃ S1, f_X9_readAll_b9 n v (nI (8 - k)) S = f_X9_readAll_b35 gw_F v 1 S1 ∧ (∀ q, q ≠ 4 → S1 q = S q) ∧ ∀ j, j < 8 → S1 4 j = if 8 - k ≤ j then S 3 j else S 4 j
  | 0, n + 1, S, _, _ => by
    rw [f_X9_readAll_b9, if_pos (by decide)]
    exact ⟨S, rfl, fun _ _ => rfl, fun j hj => by rw [if_neg (by omega)]⟩
  | k + 1, n + 1, S, hk, hn => by
    have hm : 8 - (k + 1) < 8 := by omega
    rw [f_X9_readAll_b9, if_neg (show ¬ (8 : Int32) ≤ nI (8 - (k + 1)) from pn_le (n := 8) hm (by omega)), gw_gdT (pi_in hm (by omega)), nI_clamp (by omega), gw_letS, gw_letS, pn_s hk]
    obtain ⟨S1, a1, a2, a3⟩ := cp_34 k n (gw_up S 4 (8 - (k + 1)) (S 3 (8 - (k + 1)))) (by omega) (by omega)
    refine ⟨S1, a1, fun q hq => by rw [a2 q hq, gw_upN hq], fun j hj => ?_⟩
    rw [a3 j hj, gw_upE, gw_upN (show 3 ≠ 4 by omega)]
    by_cases e : j = 8 - (k + 1)
    · subst e; rw [gw_rs]; split
      · rw [if_pos (by omega)]
      · rw [if_pos (by omega)]
    · rw [gw_ru e]; split
      · rw [if_pos (by omega)]
      · rw [if_neg (by omega)]
theorem cp_43 : ∀ (k n : Nat) (S : gw_S), k ≤ 8 → k < n → ∃ S1, f_X9_terms_b24 n v (nI (8 - k)) S = some (v, S1) ∧ (∀ q, q ≠ 3 → S1 q = S q) ∧ ∀ j, j < 8 → S1 3 j = if 8 - k ≤ j then S 4 j else S 3 j
  | 0, n + 1, S, _, _ => by
    rw [f_X9_terms_b24, if_pos (by decide)]
    exact ⟨S, rfl, fun _ _ => rfl, fun j hj => by rw [if_neg (by omega)]⟩
  | k + 1, n + 1, S, hk, hn => by
    have hm : 8 - (k + 1) < 8 := by omega
    rw [f_X9_terms_b24, if_neg (show ¬ (8 : Int32) ≤ nI (8 - (k + 1)) from pn_le (n := 8) hm (by omega)), gw_gdT (pi_in hm (by omega)), nI_clamp (by omega), gw_letS, gw_letS, pn_s hk]
    obtain ⟨S1, a1, a2, a3⟩ := cp_43 k n (gw_up S 3 (8 - (k + 1)) (S 4 (8 - (k + 1)))) (by omega) (by omega)
    refine ⟨S1, a1, fun q hq => by rw [a2 q hq, gw_upN hq], fun j hj => ?_⟩
    rw [a3 j hj, gw_upE, gw_upN (show 4 ≠ 3 by omega)]
    by_cases e : j = 8 - (k + 1)
    · subst e; rw [gw_rs]; split
      · rw [if_pos (by omega)]
      · rw [if_pos (by omega)]
    · rw [gw_ru e]; split
      · rw [if_pos (by omega)]
      · rw [if_neg (by omega)]
end RTA
