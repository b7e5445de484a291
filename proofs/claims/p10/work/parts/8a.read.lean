section RCC
variable {w np nb t i j p c a b f nd : Nat} {S S0 M M0 S' M' : gw_S} {x x1 x2 x3 x4 x5 x6 u z d v tt : Int32} {K : Int32 → Int32 → Int32 → gw_S → Option gw_S}
theorem p_mul24 : ∀ j, j < 30 → ∀ i, i < 24 → nI j * 24 + nI i = nI (24 * j + i) := by decide +kernel
/-- what one BOOKING could take, and from whom; only those that HAVE a PIECE, and the first -/
def aSo (M : gw_S) (f b p : Nat) : Int32 := if (b = f ∨ ¬ M 32 b = -1) ∧ ¬ M 32 b = nI p then aSrc M p b else -2
def aSv (M : gw_S) (tt : Int32) (b p : Nat) : Int32 := if ¬ tt = 0 ∧ ¬ M 32 b = nI p then aSrc M p b else -2
theorem b163_s (h : cC w np nb S M) (hi : i < np) (hj : j < nb) : f_X1_readSources_b163 K (nI j) tt (nI i) v S = K (nI j) tt (nI (i + 1)) (gw_up S 16 (24 * j + i) v) := by
  have hA := h.1
  have i24 := hA.ip hi
  have j30 := hA.ib hj
  have e0 : S (2 * (nI j).toNatClampNeg + 31) 0 = nI j := by rw [hA.cb hj]; exact (hA.b hj).1.1
  unfold f_X1_readSources_b163
  rw [gw_gdT (hA.nb1 hj), gw_gdT (hA.gb hj), e0, p_mul24 j j30 i i24, gw_gdT (pi_in (show 24 * j + i < 720 by omega) (by omega)), gw_letS, gw_letS, pn_a1, nI_clamp (by omega)]
theorem b147_s (h : cC w np nb S M) (hi : i < np) (hj : j < nb) : ∃ S1, f_X1_readSources_b147 K (nI j) tt (nI i) v S = K (nI j) tt (nI (i + 1)) S1 ∧ (∀ r, r ≠ 16 → r ≠ 17 → S1 r = S r) ∧ S1 16 = upd (S 16) (24 * j + i) v ∧ S1 17 = if v = -1 then upd (S 17) j 0 else S 17 := by
  have hA := h.1
  have e0 : S (2 * (nI j).toNatClampNeg + 31) 0 = nI j := by rw [hA.cb hj]; exact (hA.b hj).1.1
  unfold f_X1_readSources_b147
  by_cases c : v = -1
  · rw [if_pos c, if_pos c, gw_gdT (hA.nb1 hj), gw_gdT (hA.gb hj), e0, gw_gdT (hA.inb hj), gw_letS, hA.cb hj]
    have h' : cC w np nb (gw_up S 17 j 0) M := h.scr (fun r hr => gw_upN (by omega)) (fun _ _ => rfl)
    rw [b163_s h' hi hj]
    exact ⟨_, rfl, fun r h1 h2 => by rw [gw_upN h1, gw_upN h2], rfl, rfl⟩
  · rw [if_neg c, if_neg c, b163_s h hi hj]
    exact ⟨_, rfl, fun r h1 h2 => by rw [gw_upN h1], rfl, rfl⟩
theorem b37_s (h : cC w np nb S M) (hi : i < np) (hj : j < nb) (n : Nat) : f_X1_readSources_b37 (n + 1) (nI j) tt (nI i) S = f_X1_readSources_b147 (f_X1_readSources_b37 n) (nI j) tt (nI i) (aSv M tt j i) S := by
  have hA := h.1
  have hb := hA.b hj
  have hnp := hA.1.1.1
  have i24 := hA.ip hi
  have n2 : f_X1_readSources_b119 (f_X1_readSources_b37 n) (nI j) tt (nI i) (-2 : Int32) S = f_X1_readSources_b147 (f_X1_readSources_b37 n) (nI j) tt (nI i) (-2) S := by
    unfold f_X1_readSources_b119 f_X2_bookingAt
    rw [if_pos (by decide), gw_bdS, if_pos rfl]
  unfold aSv
  rw [f_X1_readSources_b37, hA.1.2.1.1, if_neg (pn_le hi (by omega)), hA.1.pieceAt hi, gw_bdS]
  by_cases c1 : tt = 0
  · rw [if_pos c1, n2, if_neg (show ¬ (¬ tt = 0 ∧ ¬ M 32 j = nI i) from fun q => q.1 c1)]
  · rw [if_neg c1, if_neg (hA.np1 hi), gw_gdT (hA.nb1 hj), gw_gdT (hA.gb hj), gw_gdT (ok_np hA (Or.inr ⟨i, hi, rfl⟩)), gw_gdT (by rw [hA.cb hj, hb.2.2.1.1]; exact ok_np hA hb.2.2.1.2), gw_gdT (hA.gp hi)]
    simp only [hA.cb hj]
    rw [hb.2.2.1.1, hb.1.2.2.2.1, h.cls hi hj]
    by_cases c2 : nI i = M 32 j
    · rw [if_pos c2, n2, if_neg (show ¬ (¬ tt = 0 ∧ ¬ M 32 j = nI i) from fun q => q.2 c2.symm)]
    · rw [if_neg c2, if_pos (show ¬ tt = 0 ∧ ¬ M 32 j = nI i from ⟨c1, fun q => c2 q.symm⟩)]
theorem rs_l (hj : j < nb) : ∀ (k n : Nat) (S : gw_S), k ≤ np → k < n → cC w np nb S M → ∃ S1, f_X1_readSources_b37 n (nI j) tt (nI (np - k)) S = some S1 ∧ (∀ r, r ≠ 16 → r ≠ 17 → S1 r = S r) ∧ (∀ q, q ≠ j → S1 17 q = S 17 q) ∧ (S1 17 j = S 17 j ∨ S1 17 j = 0) ∧ ((S 17 j = 0 ∨ ∃ i, np - k ≤ i ∧ i < np ∧ aSv M tt j i = -1) → S1 17 j = 0) ∧ (∀ i, np - k ≤ i → i < np → S1 16 (24 * j + i) = aSv M tt j i) ∧ ∀ q, ¬ (24 * j + (np - k) ≤ q ∧ q < 24 * j + np) → S1 16 q = S 16 q
  | 0, n + 1, S, _, _, h => by
    have hnp := h.1.1.1.1
    rw [f_X1_readSources_b37, h.1.1.2.1.1, if_pos (nI_le (by omega) (by omega))]
    refine ⟨S, rfl, fun _ _ _ => rfl, fun _ _ => rfl, Or.inl rfl, fun q => ?_, fun i h1 h2 => absurd h2 (by omega), fun _ _ => rfl⟩
    rcases q with q | ⟨i, h1, h2, -⟩
    · exact q
    · omega
  | k + 1, n + 1, S, hk, hn, h => by
    obtain ⟨i, ei⟩ : ∃ i, np - (k + 1) = i := ⟨_, rfl⟩
    have hi : i < np := by omega
    have i24 := h.1.ip hi
    have e1 : i + 1 = np - k := by omega
    obtain ⟨S2, a1, a2, a3, a4⟩ := b147_s (K := f_X1_readSources_b37 n) (tt := tt) (v := aSv M tt j i) h hi hj
    obtain ⟨S1, b1, b2, b3, b4, b5, b6, b7⟩ := rs_l hj k n S2 (by omega) (by omega) (h.scr (fun r hr => a2 r (by omega) (by omega)) (fun _ _ => rfl))
    rw [ei, b37_s h hi hj, a1, e1, b1]
    refine ⟨S1, rfl, fun r h1 h2 => by rw [b2 r h1 h2, a2 r h1 h2], fun q hq => ?_, ?_, fun q => b5 ?_, fun i' h1 h2 => ?_, fun q hq => ?_⟩
    · rw [b3 q hq, a4]; split
      · rw [gw_ru hq]
      · rfl
    · rcases b4 with q | q
      · rw [q, a4]; split
        · rw [gw_rs]; exact Or.inr rfl
        · exact Or.inl rfl
      · exact Or.inr q
    · rw [a4]
      rcases q with q | ⟨i', h1, h2, h3⟩
      · left; split
        · rw [gw_rs]
        · exact q
      · by_cases e : i' = i
        · subst e; left; rw [if_pos h3, gw_rs]
        · exact Or.inr ⟨i', by omega, h2, h3⟩
    · by_cases e : i' = i
      · subst e; rw [b7 _ (by omega), a3, gw_rs]
      · exact b6 i' (by omega) h2
    · rw [b7 q (by omega), a3, gw_ru (by omega)]
theorem rs_1 (h : cC w np nb S M) (hj : j < nb) (hf : f < nb) : ∃ S1, f_X1_readSources (nI j) (nI f) S = some S1 ∧ (∀ r, r ≠ 16 → r ≠ 17 → S1 r = S r) ∧ (∀ q, q ≠ j → S1 17 q = S 17 q) ∧ (S1 17 j = 99 ∨ S1 17 j = 0) ∧ (pT (aSo M f) np nb 0 j → S1 17 j = 0) ∧ (∀ i, i < np → S1 16 (24 * j + i) = aSo M f j i) ∧ ∀ q, ¬ (24 * j ≤ q ∧ q < 24 * j + np) → S1 16 q = S 16 q := by
  have hA := h.1
  have hb := hA.b hj
  have hnp := hA.1.1.1
  have j30 := hA.ib hj
  have f30 := hA.ib hf
  have e0 : S (2 * (nI j).toNatClampNeg + 31) 0 = nI j := by rw [hA.cb hj]; exact hb.1.1
  have go : ∀ tt : Int32, (¬ tt = 0 ↔ (j = f ∨ ¬ M 32 j = -1)) → ∃ S1, f_X1_readSources_b22 (nI j) tt S = some S1 ∧ (∀ r, r ≠ 16 → r ≠ 17 → S1 r = S r) ∧ (∀ q, q ≠ j → S1 17 q = S 17 q) ∧ (S1 17 j = 99 ∨ S1 17 j = 0) ∧ (pT (aSo M f) np nb 0 j → S1 17 j = 0) ∧ (∀ i, i < np → S1 16 (24 * j + i) = aSo M f j i) ∧ ∀ q, ¬ (24 * j ≤ q ∧ q < 24 * j + np) → S1 16 q = S 16 q := fun tt ht => by
    have ev : ∀ i, aSv M tt j i = aSo M f j i := fun i => by unfold aSv aSo; simp only [ht]
    unfold f_X1_readSources_b22
    rw [gw_gdT (hA.nb1 hj), gw_gdT (hA.gb hj), e0, gw_gdT (hA.inb hj), gw_letS, hA.cb hj]
    obtain ⟨S1, b1, b2, b3, b4, b5, b6, b7⟩ := rs_l (w := w) (M := M) (tt := tt) hj np gw_F (gw_up S 17 j 99) (Nat.le_refl np) (Nat.lt_of_le_of_lt hnp (by decide)) (h.scr (fun r hr => gw_upN (by omega)) (fun _ _ => rfl))
    rw [Nat.sub_self, show nI 0 = (0 : Int32) from rfl] at b1
    rw [Nat.sub_self] at b5 b6 b7
    rw [gw_upE, gw_rs] at b4
    refine ⟨S1, b1, fun r h1 h2 => by rw [b2 r h1 h2, gw_upN h2], fun q hq => by rw [b3 q hq, gw_upE, gw_ru hq], b4, fun q => ?_, fun i hi => by rw [b6 i (Nat.zero_le i) hi, ev], fun q hq => by rw [b7 q hq, gw_upN (by omega)]⟩
    obtain ⟨p, hp, q⟩ := q
    exact b5 (Or.inr ⟨p, Nat.zero_le p, hp, by rw [ev]; exact q⟩)
  unfold f_X1_readSources f_X1_readSources_b17
  rw [if_neg (hA.nb1 hj), gw_gdT (ok_nb hA (Or.inr ⟨j, hj, rfl⟩)), gw_gdT (ok_nb hA (Or.inr ⟨f, hf, rfl⟩)), gw_gdT (hA.gb hj)]
  simp only [hA.cb hj]
  rw [hb.2.2.1.1]
  by_cases c1 : nI j = nI f
  · rw [if_pos c1]
    exact go 1 ⟨fun _ => Or.inl ((nI_eq (by omega) (by omega)).mp c1), fun _ => by decide⟩
  · rw [if_neg c1]
    have c1' : ¬ j = f := fun e => c1 (by rw [e])
    by_cases c2 : M 32 j = -1
    · rw [if_pos c2]
      exact go 0 ⟨fun q => absurd rfl q, fun q => by rcases q with q | q; exact absurd q c1'; exact absurd c2 q⟩
    · rw [if_neg c2]
      exact go 1 ⟨fun _ => Or.inr c2, fun _ => by decide⟩
/-- all is read -/
def tS (M : gw_S) (f np : Nat) (S : gw_S) (j : Nat) : Prop := (∀ i, i < np → S 16 (24 * j + i) = aSo M f j i) ∧ (S 17 j = 99 ∨ S 17 j = 0)
theorem rd_l (hf : f < nb) : ∀ (k n : Nat) (S : gw_S), k ≤ nb → k < n → cC w np nb S M → (∀ j, j < nb - k → tS M f np S j ∧ (pT (aSo M f) np nb 0 j → S 17 j = 0)) → ∃ S1, f_X1_find_b24 n (nI f) v (nI (nb - k)) S = f_X1_find_b56 gw_F (nI f) v 0 S1 ∧ (∀ r, r ≠ 16 → r ≠ 17 → S1 r = S r) ∧ ∀ j, j < nb → tS M f np S1 j ∧ (pT (aSo M f) np nb 0 j → S1 17 j = 0)
  | 0, n + 1, S, _, _, h, ht => by
    have hnb := h.1.1.1.2
    rw [f_X1_find_b24, h.1.1.2.1.2.1, if_pos (nI_le (by omega) (by omega))]
    exact ⟨S, rfl, fun _ _ _ => rfl, fun j hj => ht j (by omega)⟩
  | k + 1, n + 1, S, hk, hn, h, ht => by
    have hnb := h.1.1.1.2
    have hnp := h.1.1.1.1
    obtain ⟨j, ej⟩ : ∃ j, nb - (k + 1) = j := ⟨_, rfl⟩
    have hj : j < nb := by omega
    have e1 : nI j + (1 : Int32) = nI (nb - k) := by rw [← ej]; exact pn_s hk
    obtain ⟨S2, a1, a2, a3, a4, a5, a6, a7⟩ := rs_1 h hj hf
    obtain ⟨S1, b1, b2, b3⟩ := rd_l hf k n S2 (by omega) (by omega) (h.scr (fun r hr => a2 r (by omega) (by omega)) (fun _ _ => rfl)) (fun j' hj' => by
      by_cases e : j' = j
      · subst e; exact ⟨⟨a6, a4⟩, a5⟩
      · have := ht j' (by omega)
        unfold tS at this ⊢
        rw [a3 j' e]
        exact ⟨⟨fun i hi => by rw [a7 _ (by omega)]; exact this.1.1 i hi, this.1.2⟩, this.2⟩)
    rw [ej, f_X1_find_b24, h.1.1.2.1.2.1, if_neg (pn_le hj (by omega)), h.1.1.bookingAt hj, gw_bdS, a1, gw_bdS, gw_letS, e1, b1]
    exact ⟨S1, rfl, fun r h1 h2 => by rw [b2 r h1 h2, a2 r h1 h2], b3⟩
end RCC
