section RPE
variable {w np nb t i j p q c a b f n k nd pl ms : Nat} {S S0 S1 M M0 S' M' : gw_S} {x x1 x2 x3 x4 x5 x6 u z d v r : Int32}
theorem tek_l (hi : i < np) : ∀ (k n v : Nat) (S M : gw_S), k ≤ nb → k < n → v + k ≤ nb → gK np nb S M → (∀ y, y < nb → M 33 y = 0) → ∃ t S' M', f_X2_takeFromNights_b5 n (nI i) d (nI v) (nI (nb - k)) S = some (nI (v + t), S') ∧ gK np nb S' M' ∧ (∀ r, r ≠ 32 → M' r = M r) ∧ (∀ r, (∀ j, j < nb → r ≠ 2 * j + 31) → S' r = S r) ∧ (∀ y, y < nb → M' 32 y = M 32 y ∨ M' 32 y = -1) ∧ (∀ y, nb - k ≤ y → y < nb → M' 32 y = nI i → M 27 y < d) ∧ (∀ y, y < nb - k → M' 32 y = M 32 y) ∧ cHad (M' 32) nb + t = cHad (M 32) nb ∧ t ≤ k
  | 0, n + 1, v, S, M, _, _, _, hG, h33 => by
    have hA := hG.1
    have hnb := hA.1.1.2
    rw [f_X2_takeFromNights_b5, hA.1.2.1.2.1, if_pos (nI_le (by omega) (by omega))]
    exact ⟨0, S, M, rfl, hG, fun _ _ => rfl, fun _ _ => rfl, fun _ _ => Or.inl rfl, fun y h1 h2 => absurd h2 (by omega), fun _ _ => rfl, rfl, Nat.le_refl 0⟩
  | k + 1, n + 1, v, S, M, hk, hn, hv, hG, h33 => by
    have hA := hG.1
    have hnb := hA.1.1.2
    obtain ⟨j, ej⟩ : ∃ j, nb - (k + 1) = j := ⟨_, rfl⟩
    have hj : j < nb := by omega
    have e1 : nI j + (1 : Int32) = nI (nb - k) := by rw [← ej]; exact pn_s hk
    have hb := hA.b hj
    rw [ej, f_X2_takeFromNights_b5, hA.1.2.1.2.1, if_neg (pn_le hj (by omega)), hA.1.bookingAt hj, gw_bdS, if_neg (hA.nb1 hj), gw_gdT (hA.gb hj), gw_gdT (ok_np hA (Or.inr ⟨i, hi, rfl⟩)), gw_gdT (by rw [hA.cb hj, hb.2.2.1.1]; exact ok_np hA hb.2.2.1.2), hA.out hj, hA.cb hj, hb.2.2.1.1, hb.1.2.2.2.1, gw_letS, gw_letS, gw_bdS]
    unfold f_X2_takeFromNights_b62
    simp only [gw_letS, e1]
    have skip : ¬ (M 32 j = nI i ∧ ¬ M 27 j < d) → ∃ t S' M', f_X2_takeFromNights_b5 n (nI i) d (nI v) (nI (nb - k)) S = some (nI (v + t), S') ∧ gK np nb S' M' ∧ (∀ r, r ≠ 32 → M' r = M r) ∧ (∀ r, (∀ j, j < nb → r ≠ 2 * j + 31) → S' r = S r) ∧ (∀ y, y < nb → M' 32 y = M 32 y ∨ M' 32 y = -1) ∧ (∀ y, j ≤ y → y < nb → M' 32 y = nI i → M 27 y < d) ∧ (∀ y, y < j → M' 32 y = M 32 y) ∧ cHad (M' 32) nb + t = cHad (M 32) nb ∧ t ≤ k + 1 := fun hno => by
      obtain ⟨t, S', M', a1, a2, a3, a4, a5, a6, a7, a8, a9⟩ := tek_l hi k n v S M (by omega) (by omega) (by omega) hG h33
      refine ⟨t, S', M', a1, a2, a3, a4, a5, fun y h1 h2 h3 => ?_, fun y hy => a7 y (by omega), a8, by omega⟩
      by_cases e : y = j
      · subst e
        rw [a7 y (by omega)] at h3
        by_cases c : M 27 y < d
        · exact c
        · exact absurd ⟨h3, c⟩ hno
      · exact a6 y (by omega) h2 h3
    by_cases c1 : M 32 j = nI i
    · rw [if_pos c1]
      by_cases c2 : M 27 j < d
      · rw [if_pos c2]; exact skip (fun q => q.2 c2)
      · rw [if_neg c2, if_pos (h33 j hj), if_pos rfl, show nI v + (1 : Int32) = nI (v + 1) from pn_a1]
        have hG' := hG.give hj (Or.inl ⟨rfl, h33 j hj⟩)
        obtain ⟨t, S', M', a1, a2, a3, a4, a5, a6, a7, a8, a9⟩ := tek_l hi k n (v + 1) (gw_up S (2 * j + 31) 8 (-1)) (gw_up M 32 j (-1)) (by omega) (by omega) (by omega) hG' h33
        have m32 : gw_up M 32 j (-1) 32 = upd (M 32) j (-1) := gw_upE
        refine ⟨t + 1, S', M', by rw [a1]; congr 3; omega, a2, fun r hr => by rw [a3 r hr, gw_upN hr], fun r hr => by rw [a4 r hr, gw_upN (hr j hj)], fun y hy => ?_, fun y h1 h2 h3 => ?_, fun y hy => ?_, ?_, by omega⟩
        · rcases a5 y hy with q | q
          · rw [m32] at q
            by_cases e : y = j
            · subst e; rw [gw_rs] at q; exact Or.inr q
            · rw [gw_ru e] at q; exact Or.inl q
          · exact Or.inr q
        · by_cases e : y = j
          · subst e
            rw [a7 y (by omega), m32, gw_rs] at h3
            exact absurd h3.symm (hA.np1 hi)
          · exact a6 y (by omega) h2 h3
        · rw [a7 y (by omega), m32, gw_ru (by omega)]
        · have := cHad_u (H := M 32) (v := -1) nb hj
          rw [c1, if_neg (hA.np1 hi), if_pos rfl] at this
          rw [m32] at a8
          omega
    · rw [if_neg c1]; exact skip (fun q => c1 q.1)
theorem gK.tear (h : gK np nb S M) (hi : i < np) (hd : 0 ≤ d.toInt ∧ d.toInt ≤ 399) : gK np nb (gw_up S (2 * i + 30) 10 d) (gw_up (gw_up M 17 i 1) 18 i d) := by
  obtain ⟨hA, ⟨t, hC⟩, hF⟩ := h
  have hp := hA.p hi
  refine ⟨hA.setP hi (fun r hr => gw_upN hr) (fun r hr => by rw [gw_upN (by omega), gw_upN (by omega)]) (fun r h1 h2 b hb => ?_) ?_, ⟨t, hC.of (fun r hr => gw_upN (by omega)) (fun r h1 h2 => by rw [gw_upN (by omega), gw_upN (by omega)])⟩, ?_⟩
  · by_cases e : r = 18
    · subst e; rw [gw_upE, gw_ru hb, gw_upN (by omega)]
    · rw [gw_upN e]
      by_cases e : r = 17
      · subst e; rw [gw_upE, gw_ru hb]
      · rw [gw_upN e]
  · unfold rP
    have u : ∀ r, r < 17 → gw_up (gw_up M 17 i 1) 18 i d r = M r := fun r hr => by rw [gw_upN (by omega), gw_upN (by omega)]
    rw [u 7 (by omega), u 8 (by omega), u 9 (by omega), u 10 (by omega), u 11 (by omega), u 12 (by omega), u 13 (by omega), u 14 (by omega), u 15 (by omega), u 16 (by omega), gw_upE, gw_upE, gw_rs, gw_rs, gw_upN (show 17 ≠ 18 by omega), gw_upE, gw_rs]
    obtain ⟨q1, q2, q6, q7, q8, q9, q10, q11⟩ := hp
    exact ⟨q1, q2, Or.inr ⟨rfl, rfl⟩, q7, q8, q9, q10, hd⟩
  · unfold lFd lLo lHi at hF ⊢
    rw [gw_upN (show 9 ≠ 2 * i + 30 by omega), gw_upN (show 10 ≠ 2 * i + 30 by omega), gw_upN (show 23 ≠ 18 by omega), gw_upN (show 24 ≠ 18 by omega), gw_upN (show 23 ≠ 17 by omega), gw_upN (show 24 ≠ 17 by omega)]
    exact hF
theorem kg_tear (h : gK np nb S M) (hI : iI np nb S M) (hi : i < np) (hd : 0 ≤ d.toInt ∧ d.toInt ≤ 399) : ∃ r S' M', f_X8_tear (nI i) d S = some (r, S') ∧ gK np nb S' M' ∧ iI np nb S' M' ∧ vS S S' M M' ∧ ((r = -2 ∧ cHad (M' 32) nb = cHad (M 32) nb) ∨ ∃ t, t ≤ nb ∧ r = nI t ∧ cHad (M' 32) nb + t = cHad (M 32) nb) := by
  have hA := h.1
  have hnp := hA.1.1.1
  have hnb := hA.1.1.2
  have hp := hA.p hi
  unfold f_X8_tear
  rw [hA.1.pieceAt hi, gw_bdS, if_neg (hA.np1 hi), ps_isDay, ps_br, if_pos hd, gw_gdT (hA.gp hi)]
  have new : ∃ r S' M', gw_let (gw_up S (2 * (nI i).toNatClampNeg + 30) 10 d) (fun S11 => gw_b2 (f_X2_takeFromNights (nI i) d S11) (fun r13 S14 => some (r13, S14))) = some (r, S') ∧ gK np nb S' M' ∧ iI np nb S' M' ∧ vS S S' M M' ∧ ((r = -2 ∧ cHad (M' 32) nb = cHad (M 32) nb) ∨ ∃ t, t ≤ nb ∧ r = nI t ∧ cHad (M' 32) nb + t = cHad (M 32) nb) := by
    rw [gw_letS, hA.cp hi]
    have hG := h.tear hi hd
    obtain ⟨t, S', M', a1, a2, a3, a4, a5, a6, -, a8, a9⟩ := tek_l (d := d) hi nb gw_F 0 _ _ (Nat.le_refl nb) (Nat.lt_of_le_of_lt hnb (by decide)) (by omega) hG (fun y hy => hI.2.2 y hy)
    rw [Nat.sub_self, show nI 0 = (0 : Int32) from rfl, Nat.zero_add] at a1
    rw [Nat.sub_self] at a6
    have m : ∀ r, r ≠ 17 → r ≠ 18 → r ≠ 32 → M' r = M r := fun r h1 h2 h3 => by rw [a3 r h3, gw_upN h2, gw_upN h1]
    have m32 : gw_up (gw_up M 17 i 1) 18 i d 32 = M 32 := rfl
    rw [m32] at a5 a8
    have s : ∀ r, (∀ j, j < nb → r ≠ 2 * j + 31) → r ≠ 2 * i + 30 → S' r = S r := fun r hr h => by rw [a4 r hr, gw_upN h]
    have view : vS S S' M M' := ⟨⟨s 29 (fun j _ => by omega) (by omega), s 5 (fun j _ => by omega) (by omega), s 9 (fun j _ => by omega) (by omega), s 10 (fun j _ => by omega) (by omega), fun i' f hf => by
      rw [a4 _ (fun j _ => by omega)]
      by_cases e : i' = i
      · subst e; rw [gw_upE, gw_ru hf]
      · rw [gw_upN (by omega)]⟩, m⟩
    have had : ∀ x q, x < nb → q < np → M' 32 x = nI q → M 32 x = nI q := fun x q hx hq e => by
      rcases a5 x hx with g | g
      · rw [← g]; exact e
      · rw [g] at e; exact absurd e.symm (hA.np1 hq)
    refine ⟨nI t, S', M', ?_, a2, ⟨fun x q hx hq e => ?_, fun x y q hx hy hxy hq ex ey => ?_, fun x hx => by rw [m 33 (by omega) (by omega) (by omega)]; exact hI.2.2 x hx⟩, view, Or.inr ⟨t, a9, rfl, a8⟩⟩
    · unfold f_X2_takeFromNights
      rw [a1, gw_b2S]
    · rw [fit_fr (S := S) (by omega) (by rw [view.1.1]) view.1.2.1 view.1.2.2.1 view.1.2.2.2.1 (fun f hf => view.1.2.2.2.2 q f hf), m 25 (by omega) (by omega) (by omega), m 26 (by omega) (by omega) (by omega), m 27 (by omega) (by omega) (by omega)]
      have old := hI.1 x q hx hq (had x q hx hq e)
      refine ⟨old.1, ?_⟩
      by_cases eq : q = i
      · subst eq
        right
        rw [a3 18 (by omega), gw_upE, gw_rs]
        exact a6 x (Nat.zero_le x) hx e
      · rw [a3 17 (by omega), a3 18 (by omega), gw_upE, gw_ru eq, gw_upN (show 17 ≠ 18 by omega), gw_upE, gw_ru eq, gw_upN (show 18 ≠ 17 by omega)]
        exact old.2
    · rw [aMe_e (m 6 (by omega) (by omega) (by omega)) (m 3 (by omega) (by omega) (by omega)) (m 11 (by omega) (by omega) (by omega)) (m 28 (by omega) (by omega) (by omega)) (m 27 (by omega) (by omega) (by omega))]
      exact hI.2.1 x y q hx hy hxy hq (had x q hx hq ex) (had y q hy hq ey)
  unfold f_X4_isTornBy
  rw [gw_gdT (hA.gp hi), hA.torn hi, hA.cp hi]
  rw [hA.cp hi] at new
  rcases hp.2.2.1 with ⟨q1, q2⟩ | ⟨q1, q2⟩
  · rw [if_pos q1, gw_bdS, if_pos rfl, gw_bdS, if_pos rfl]; exact new
  · have n17 : ¬ M 17 i = 0 := by rw [q1]; decide
    rw [if_neg n17, gw_bdS, if_neg pn_10, q2]
    by_cases c2 : d < M 18 i
    · rw [if_pos c2, gw_bdS, if_pos rfl]; exact new
    · rw [if_neg c2, gw_bdS, if_neg pn_10]
      exact ⟨-2, S, M, rfl, h, hI, vS.rfl', Or.inl ⟨rfl, rfl⟩⟩
theorem kg_mend (h : gK np nb S M) (hI : iI np nb S M) (hi : i < np) : ∃ r S' M', f_X8_mend (nI i) S = some (r, S') ∧ gK np nb S' M' ∧ iI np nb S' M' ∧ vS S S' M M' ∧ cHad (M' 32) nb = cHad (M 32) nb ∧ ¬ r = -1 := by
  have hA := h.1
  have hnp := hA.1.1.1
  have hnb := hA.1.1.2
  have hp := hA.p hi
  unfold f_X8_mend
  rw [hA.1.pieceAt hi, gw_bdS, if_neg (hA.np1 hi), gw_gdT (hA.gp hi), hA.torn hi, gw_bdS, hA.cp hi]
  by_cases c : M 17 i = 0
  · rw [if_pos c, if_pos rfl]; exact ⟨-2, S, M, rfl, h, hI, vS.rfl', rfl, by decide⟩
  · rw [if_neg c, if_neg pn_10, gw_letS]
    obtain ⟨-, ⟨t, hC⟩, hF⟩ := h
    have hA' : rA 0 np nb (gw_up S (2 * i + 30) 10 (-4)) (gw_up M 17 i 0) := by
      refine hA.setP hi (fun r hr => gw_upN hr) (fun r hr => gw_upN (by omega)) (fun r h1 h2 b hb => ?_) ?_
      · by_cases e : r = 17
        · subst e; rw [gw_upE, gw_ru hb]
        · rw [gw_upN e]
      · unfold rP
        rw [gw_upE, gw_upN (show 7 ≠ 17 by omega), gw_upN (show 8 ≠ 17 by omega), gw_upN (show 9 ≠ 17 by omega), gw_upN (show 10 ≠ 17 by omega), gw_upN (show 11 ≠ 17 by omega), gw_upN (show 12 ≠ 17 by omega), gw_upN (show 13 ≠ 17 by omega), gw_upN (show 15 ≠ 17 by omega), gw_upN (show 14 ≠ 17 by omega), gw_upN (show 16 ≠ 17 by omega), gw_upN (show 18 ≠ 17 by omega), gw_upE, gw_rs, gw_rs]
        obtain ⟨q1, q2, q6, q7, q8⟩ := hp
        exact ⟨q1, q2, Or.inl ⟨rfl, rfl⟩, q7, q8⟩
    have hF' : lFd (gw_up S (2 * i + 30) 10 (-4)) (gw_up M 17 i 0) := by
      unfold lFd lLo lHi at hF ⊢
      rw [gw_upN (show 9 ≠ 2 * i + 30 by omega), gw_upN (show 10 ≠ 2 * i + 30 by omega), gw_upN (show 23 ≠ 17 by omega), gw_upN (show 24 ≠ 17 by omega)]
      exact hF
    have view : vS S (gw_up S (2 * i + 30) 10 (-4)) M (gw_up M 17 i 0) := ⟨⟨gw_upN (by omega), gw_upN (by omega), gw_upN (by omega), gw_upN (by omega), fun i' f hf => by
      by_cases e : i' = i
      · subst e; rw [gw_upE, gw_ru hf]
      · rw [gw_upN (by omega)]⟩, fun r h1 h2 h3 => gw_upN h1⟩
    refine ⟨1, _, _, rfl, ⟨hA', ⟨t, hC.of (fun r hr => gw_upN (by omega)) (fun r h1 h2 => gw_upN (by omega))⟩, hF'⟩, ⟨fun x q hx hq e => ?_, fun x y q hx hy hxy hq ex ey => hI.2.1 x y q hx hy hxy hq ex ey, fun x hx => hI.2.2 x hx⟩, view, rfl, by decide⟩
    have old := hI.1 x q hx hq e
    rw [fit_fr (S := S) (by omega) (by rw [view.1.1]) view.1.2.1 view.1.2.2.1 view.1.2.2.2.1 (fun f hf => view.1.2.2.2.2 q f hf)]
    refine ⟨old.1, ?_⟩
    by_cases eq : q = i
    · subst eq; left; rw [gw_upE, gw_rs]
    · rw [gw_upE, gw_ru eq, gw_upN (show 18 ≠ 17 by omega)]; exact old.2
/-- what is read -/
theorem kg_has (h : gK np nb S M) (hb : b < nb) : f_X8_has (nI b) S = some (if M 32 b = -1 then -4 else M 32 b) := by
  have hA := h.1
  unfold f_X8_has f_X0_pieceNumber
  rw [hA.1.bookingAt hb, gw_bdS, if_neg (hA.nb1 hb), gw_gdT (hA.gb hb), gw_gdT (hA.gb hb), hA.cb hb, (hA.b hb).2.2.1.1]
  rcases (hA.b hb).2.2.1.2 with e | ⟨q, hq, e⟩
  · rw [if_pos e, if_pos e]; rfl
  · rw [e, if_neg (hA.np1 hq), if_neg (hA.np1 hq), gw_gdT (hA.gp hq), hA.cp hq, (hA.p hq).2.1.1]; rfl
theorem kg_fits (h : gK np nb S M) (hi : i < np) (hb : b < nb) : ∃ v, f_X2_fitOf (nI i) (M 25 b) (M 26 b) S = some v ∧ f_X8_fits (nI i) (M 25 b) (M 26 b) S = some v := by
  have hA := h.1
  have hbb := hA.b hb
  obtain ⟨v, -, e, -⟩ := hA.fit h.cC.2.1 h.2.2 hi (x2 := M 25 b) (x3 := M 26 b) hbb.2.2.2.2.2.1 hbb.2.2.2.2.2.2.1
  refine ⟨v, e, ?_⟩
  unfold f_X8_fits
  rw [hA.1.pieceAt hi, gw_bdS, if_neg (hA.np1 hi), ps_isLabel, ps_br, if_pos (show 1 ≤ (M 25 b).toInt ∧ (M 25 b).toInt ≤ 40 from hbb.2.2.2.2.2.1), ps_isIn, ps_br, pz_0, pz_2, if_pos (show 0 ≤ (M 26 b).toInt ∧ (M 26 b).toInt ≤ 2 from hbb.2.2.2.2.2.2.1), e, gw_bdS]
theorem kg_told (h : gK np nb S M) (hi : i < np) : f_X8_told (nI i) 9 S = some (if M 17 i = 0 then -4 else M 18 i) := by
  have hA := h.1
  unfold f_X8_told f_X4_detail
  rw [hA.1.pieceAt hi, gw_bdS, if_neg (hA.np1 hi), ps_isIn, ps_br, if_pos (by decide), gw_gdT (hA.gp hi), if_neg (by decide), if_neg (by decide), if_neg (by decide), if_neg (by decide), if_neg (by decide), if_neg (by decide), if_neg (by decide), if_neg (by decide), if_neg (by decide), if_pos rfl, gw_gdT (hA.gp hi), gw_bdS, hA.cp hi]
  rcases (hA.p hi).2.2.1 with ⟨q1, q2⟩ | ⟨q1, q2⟩
  · rw [q2, if_pos q1]
  · rw [q2, if_neg (by rw [q1]; decide)]
theorem kg_away (h : gK np nb S M) (hi : i < np) (hb : b < nb) : f_X8_away (nI i) (nI b) 0 S = some (aFa M i b) ∧ f_X8_away (nI i) (nI b) 1 S = some (aLa M i b) := by
  have hA := h.1
  constructor
  · unfold f_X8_away
    rw [hA.1.pieceAt hi, hA.1.bookingAt hb, gw_bdS, gw_bdS, if_neg (hA.np1 hi), if_neg (hA.nb1 hb), ps_isIn, ps_br, if_pos (by decide), if_pos rfl, (hA.fa h.cC.2.1 h.cC.2.2.1 hi hb).1, gw_bdS]
  · unfold f_X8_away
    rw [hA.1.pieceAt hi, hA.1.bookingAt hb, gw_bdS, gw_bdS, if_neg (hA.np1 hi), if_neg (hA.nb1 hb), ps_isIn, ps_br, if_pos (by decide), if_neg pn_10, (hA.la h.cC.2.1 h.cC.2.2.1 hi hb).1, gw_bdS]
theorem kg_meet (h : gK np nb S M) (hi : i < np) (hb : b < nb) (hc : c < nb) (h1 : aFa M i b ≤ aLa M i c) (h2 : aFa M i c ≤ aLa M i b) : aMe M i b c := by
  have hA := h.1
  have hT := h.cC.2.1
  have hO := h.cC.2.2.1
  have := (hA.share hT hO hi hb hc).2
  unfold f_X9_meet at this
  rw [(hA.fa hT hO hi hb).2, (hA.fa hT hO hi hc).2, (hA.la hT hO hi hb).2, (hA.la hT hO hi hc).2, gw_bdS, gw_bdS, gw_bdS, gw_bdS, if_neg (fun q => by rw [ps_leI] at h1; rw [ps_ltI] at q; omega), if_neg (fun q => by rw [ps_leI] at h2; rw [ps_ltI] at q; omega)] at this
  by_cases e : aMe M i b c
  · exact e
  · rw [if_neg e] at this; exact absurd this (by decide)
theorem kg_free (h : gK np nb S M) (hi : i < np) (hb : b < nb) : ∃ r, (r = 0 ∨ r = 1) ∧ f_X2_isFree (nI i) (nI b) S = some r ∧ f_X8_free (nI i) (nI b) S = some r := by
  have hA := h.1
  obtain ⟨r, r01, e, -⟩ := hA.free h.cC.2.1 h.cC.2.2.1 hi hb
  refine ⟨r, r01, e, ?_⟩
  unfold f_X8_free
  rw [hA.1.pieceAt hi, hA.1.bookingAt hb, gw_bdS, gw_bdS, if_neg (hA.np1 hi), if_neg (hA.nb1 hb), e, gw_bdS]
  rcases r01 with q | q
  · rw [q, if_pos rfl]
  · rw [q, if_neg pn_10]
theorem ct_l (hA : rA w np nb S M) : ∀ (k n : Nat), k ≤ nb → k < n → f_X2_tallyBookings_b4 S n 6 (nI (cHad (M 32) (nb - k))) (nI (nb - k)) = some (nI (cHad (M 32) nb))
  | 0, n + 1, _, _ => by
    have hnb := hA.1.1.2
    rw [f_X2_tallyBookings_b4, hA.1.2.1.2.1, if_pos (nI_le (by omega) (by omega))]; rfl
  | k + 1, n + 1, hk, hn => by
    obtain ⟨j, ej⟩ : ∃ j, nb - (k + 1) = j := ⟨_, rfl⟩
    have hj : j < nb := by omega
    have e2 : j + 1 = nb - k := by omega
    rw [ej, tb_c hA hj (Or.inr rfl)]
    have e : nI (cHad (M 32) j) + aTB M j 6 = nI (cHad (M 32) (j + 1)) := by
      unfold aTB
      rw [if_neg p_65, show cHad (M 32) (j + 1) = cHad (M 32) j + if M 32 j = -1 then 0 else 1 from rfl]
      by_cases c : M 32 j = -1
      · rw [if_pos c, if_pos c]; exact Int32.add_zero _
      · rw [if_neg c, if_neg c]; exact pn_a1
    rw [e, e2]
    exact ct_l hA k n (by omega) (by omega)
theorem kg_count6 (h : gK np nb S M) : f_X8_count 6 S = some (nI (cHad (M 32) nb)) := by
  have hnb := h.1.1.1.2
  have := ct_l h.1 nb gw_F (Nat.le_refl nb) (Nat.lt_of_le_of_lt hnb (by decide))
  rw [Nat.sub_self] at this
  unfold f_X8_count f_X8_count_b84 f_X2_tallyBookings
  rw [if_neg (by decide), if_neg (by decide), if_neg (by decide), if_neg (by decide), if_neg (by decide), if_neg (by decide), if_pos rfl, show (0 : Int32) = nI (cHad (M 32) 0) from rfl, show (nI (cHad (M 32) 0) : Int32) = nI 0 from rfl]
  rw [show cHad (M 32) 0 = 0 from rfl] at this
  rw [this, gw_bdS]
theorem ct5_l (hA : rA w np nb S M) (h31 : ∀ j, j < nb → M 31 j = -1) : ∀ (k n : Nat), k ≤ nb → k < n → f_X2_tallyBookings_b4 S n 5 0 (nI (nb - k)) = some 0
  | 0, n + 1, _, _ => by
    have hnb := hA.1.1.2
    rw [f_X2_tallyBookings_b4, hA.1.2.1.2.1, if_pos (nI_le (by omega) (by omega))]
  | k + 1, n + 1, hk, hn => by
    have hj : nb - (k + 1) < nb := by omega
    rw [tb_c hA hj (Or.inl rfl), show nb - (k + 1) + 1 = nb - k by omega]
    have e : (0 : Int32) + aTB M (nb - (k + 1)) 5 = 0 := by unfold aTB; rw [if_pos rfl, h31 _ hj, if_neg (by decide)]; rfl
    rw [e]
    exact ct5_l hA h31 k n (by omega) (by omega)
theorem ct7_l (hA : rA 0 np nb S M) : ∀ (k n : Nat), k ≤ np → k < n → f_X2_tallyPieces_b4 S n 7 0 (nI (np - k)) = some 0
  | 0, n + 1, _, _ => by
    have hnp := hA.1.1.1
    rw [f_X2_tallyPieces_b4, hA.1.2.1.1, if_pos (nI_le (by omega) (by omega))]
  | k + 1, n + 1, hk, hn => by
    have hj : np - (k + 1) < np := by omega
    rw [tp_c hA hj (Or.inr (Or.inr rfl)), show np - (k + 1) + 1 = np - k by omega]
    have e : (0 : Int32) + aTP M (np - (k + 1)) 7 = 0 := by
      unfold aTP
      rw [if_neg p_71, if_neg p_72]
      have h := (hA.p hj).2.2.2.2.2.1
      unfold rg at h
      have : M 15 (np - (k + 1)) = 0 := by rw [← Int32.toInt_inj, Int32.toInt_zero]; omega
      rw [this]; rfl
    rw [e]
    exact ct7_l hA k n (by omega) (by omega)
theorem kg_counts (h : gK np nb S M) (h31 : ∀ j, j < nb → M 31 j = -1) : f_X8_count 0 S = some (nI np) ∧ f_X8_count 4 S = some (nI nb) ∧ f_X8_count 5 S = some 0 ∧ f_X8_count 7 S = some 0 := by
  have hA := h.1
  have hnb := hA.1.1.2
  have hnp := hA.1.1.1
  have c5 := ct5_l hA h31 nb gw_F (Nat.le_refl nb) (Nat.lt_of_le_of_lt hnb (by decide))
  have c7 := ct7_l hA np gw_F (Nat.le_refl np) (Nat.lt_of_le_of_lt hnp (by decide))
  rw [Nat.sub_self, show nI 0 = (0 : Int32) from rfl] at c5 c7
  unfold f_X8_count f_X8_count_b84 f_X8_count_b56 f_X2_tallyBookings f_X2_tallyPieces
  refine ⟨?_, ?_, ?_, ?_⟩
  · rw [if_pos rfl, hA.1.2.1.1]
  · rw [if_neg (by decide), if_neg (by decide), if_neg (by decide), if_neg (by decide), if_pos rfl, hA.1.2.1.2.1]
  · rw [if_neg (by decide), if_neg (by decide), if_neg (by decide), if_neg (by decide), if_neg (by decide), if_pos rfl, c5, gw_bdS]
  · rw [if_neg (by decide), if_neg (by decide), if_neg (by decide), if_neg (by decide), if_neg (by decide), if_neg (by decide), if_neg (by decide), if_pos rfl, c7, gw_bdS]
theorem kg_term (h : gK np nb S M) : f_X8_term 119 S = some (M 3 7) := by
  obtain ⟨r, h1, h2, -⟩ := ze_place (S := S) (M := gw_zM) (fun i hi => (st_3 i hi).2.2.1.symm) 119 8 (Nat.le_refl 8) gw_F (by decide)
  have e : f_X9_termOf_b2 gw_zM gw_F 119 (nI (8 - 8)) = some 7 := by decide +kernel
  rw [e] at h2
  obtain rfl := Option.some.inj h2
  unfold f_X8_term f_X7_placeOf
  rw [show (0 : Int32) = nI (8 - 8) from rfl, h1, gw_bdS, if_pos (by decide), h.cC.2.1.t7, gw_bdS]
end RPE
