section RRA
variable {w np nb t i j a f : Nat} {S M S' M' : gw_S} {x k x1 x2 x3 x4 x5 x6 u z : Int32}
/-- one PIECE alone is changed -/
theorem rA.setP (h : rA w np nb S M) (hi : i < np) (q : ∀ r, r ≠ 2 * i + 30 → S' r = S r) (p : ∀ r, ¬ (14 ≤ r ∧ r ≤ 18) → M' r = M r) (p2 : ∀ r, 14 ≤ r → r ≤ 18 → ∀ b, b ≠ i → M' r b = M r b) (new : rP w i S' M') : rA w np nb S' M' := by
  obtain ⟨hN, hP, hP0, hB, hB0⟩ := h
  refine ⟨?_, fun b hb => ?_, fun b hb hb' => ?_, fun b hb => ?_, fun b hb hb' => ?_⟩
  · unfold rN at hN ⊢
    rw [q 3 (by omega), q 29 (by omega), q 12 (by omega), q 13 (by omega), p 0 (by omega)]; exact hN
  · by_cases e : b = i
    · subst e; exact new
    · have := hP b hb
      unfold rP at this ⊢
      rw [q (2 * b + 30) (by omega), p 7 (by omega), p 8 (by omega), p 9 (by omega), p 10 (by omega), p 11 (by omega), p 12 (by omega), p 13 (by omega), p2 14 (by omega) (by omega) b e, p2 15 (by omega) (by omega) b e, p2 16 (by omega) (by omega) b e, p2 17 (by omega) (by omega) b e, p2 18 (by omega) (by omega) b e]; exact this
  · have := hP0 b hb hb'
    unfold rP0 at this ⊢
    rw [p2 14 (by omega) (by omega) b (by omega), p2 15 (by omega) (by omega) b (by omega), p2 16 (by omega) (by omega) b (by omega), p2 17 (by omega) (by omega) b (by omega), p2 18 (by omega) (by omega) b (by omega)]; exact this
  · have := hB b hb
    unfold rB at this ⊢
    rw [q (2 * b + 31) (by omega), p 25 (by omega), p 26 (by omega), p 27 (by omega), p 28 (by omega), p 29 (by omega), p 30 (by omega), p 31 (by omega), p 32 (by omega), p 33 (by omega), p 34 (by omega), p 35 (by omega)]; exact this
  · have := hB0 b hb hb'
    unfold rB0 at this ⊢
    rw [p 33 (by omega), p 34 (by omega), p 35 (by omega)]; exact this
/-- one BOOKING alone is changed -/
theorem rA.setB (h : rA w np nb S M) (hi : i < nb) (q : ∀ r, r ≠ 2 * i + 31 → S' r = S r) (p : ∀ r, ¬ (31 ≤ r ∧ r ≤ 38) → M' r = M r) (p2 : ∀ r, 31 ≤ r → r ≤ 35 → ∀ b, b ≠ i → M' r b = M r b) (new : rB np i S' M') : rA w np nb S' M' := by
  obtain ⟨hN, hP, hP0, hB, hB0⟩ := h
  refine ⟨?_, fun b hb => ?_, fun b hb hb' => ?_, fun b hb => ?_, fun b hb hb' => ?_⟩
  · unfold rN at hN ⊢
    rw [q 3 (by omega), q 29 (by omega), q 12 (by omega), q 13 (by omega), p 0 (by omega)]; exact hN
  · have := hP b hb
    unfold rP at this ⊢
    rw [q (2 * b + 30) (by omega), p 7 (by omega), p 8 (by omega), p 9 (by omega), p 10 (by omega), p 11 (by omega), p 12 (by omega), p 13 (by omega), p 14 (by omega), p 15 (by omega), p 16 (by omega), p 17 (by omega), p 18 (by omega)]; exact this
  · have := hP0 b hb hb'
    unfold rP0 at this ⊢
    rw [p 14 (by omega), p 15 (by omega), p 16 (by omega), p 17 (by omega), p 18 (by omega)]; exact this
  · by_cases e : b = i
    · subst e; exact new
    · have := hB b hb
      unfold rB at this ⊢
      rw [q (2 * b + 31) (by omega), p 25 (by omega), p 26 (by omega), p 27 (by omega), p 28 (by omega), p 29 (by omega), p 30 (by omega), p2 31 (by omega) (by omega) b e, p2 32 (by omega) (by omega) b e, p2 33 (by omega) (by omega) b e, p2 34 (by omega) (by omega) b e, p2 35 (by omega) (by omega) b e]; exact this
  · have := hB0 b hb hb'
    unfold rB0 at this ⊢
    rw [p2 33 (by omega) (by omega) b (by omega), p2 34 (by omega) (by omega) b (by omega), p2 35 (by omega) (by omega) b (by omega)]; exact this
/-- the rest stands -/
theorem rR.of (hA' : rA w np nb S' M') (hT : rT S M) (hY : rY t S M) (hO : rO S M) (hS : rS S M) (hI : rI S) (hL : rL S M) (q : ∀ r, r < 29 → S' r = S r) (p : ∀ r, ¬ (7 ≤ r ∧ r ≤ 18) → ¬ (25 ≤ r ∧ r ≤ 38) → M' r = M r) : rR w S' M' :=
  ⟨np, nb, t, hA', hT.fr (q 5 (by omega)) (p 1 (by omega) (by omega)) (p 2 (by omega) (by omega)) (p 3 (by omega) (by omega)), hY.fr (by rw [q 1 (by omega)]) (q 2 (by omega)) (by rw [p 0 (by omega) (by omega)]) (p 5 (by omega) (by omega)), hO.fr (q 11 (by omega)) (p 6 (by omega) (by omega)), hS.fr (fun k h1 h2 => q k (by omega)) (p 43 (by omega) (by omega)) (p 44 (by omega) (by omega)) (p 45 (by omega) (by omega)), hI.fr (q 14 (by omega)),
    hL.fr (q 7 (by omega)) (q 8 (by omega)) (q 9 (by omega)) (q 10 (by omega)) (by rw [p 0 (by omega) (by omega)]) (p 19 (by omega) (by omega)) (p 20 (by omega) (by omega)) (p 21 (by omega) (by omega)) (p 22 (by omega) (by omega))⟩
theorem rA.p (h : rA w np nb S M) (hi : i < np) : rP w i S M := h.2.1 i hi
theorem rA.b (h : rA w np nb S M) (hj : j < nb) : rB np j S M := h.2.2.2.1 j hj
theorem rA.ip (h : rA w np nb S M) (hi : i < np) : i < 24 := by have := h.1.1.1; omega
theorem rA.ib (h : rA w np nb S M) (hj : j < nb) : j < 30 := by have := h.1.1.2; omega
theorem rA.gp (h : rA w np nb S M) (hi : i < np) : (nI i).toNatClampNeg < gw_np S := by have := h.ip hi; rw [h.1.gnp, nI_clamp (by omega)]; exact hi
theorem rA.gb (h : rA w np nb S M) (hj : j < nb) : (nI j).toNatClampNeg < gw_nb S := by have := h.ib hj; rw [h.1.gnb, nI_clamp (by omega)]; exact hj
theorem rA.cp (h : rA w np nb S M) (hi : i < np) : (nI i).toNatClampNeg = i := by have := h.ip hi; rw [nI_clamp (by omega)]
theorem rA.cb (h : rA w np nb S M) (hj : j < nb) : (nI j).toNatClampNeg = j := by have := h.ib hj; rw [nI_clamp (by omega)]
theorem rA.inp (h : rA w np nb S M) (hi : i < np) : gw_in (nI i) 24 := pi_in (h.ip hi) (by omega)
theorem rA.inb (h : rA w np nb S M) (hj : j < nb) : gw_in (nI j) 30 := pi_in (h.ib hj) (by omega)
theorem rA.np1 (h : rA w np nb S M) (hi : i < np) : ¬ nI i = -1 := by have := h.ip hi; exact pn_m1 (by omega)
theorem rA.nb1 (h : rA w np nb S M) (hj : j < nb) : ¬ nI j = -1 := by have := h.ib hj; exact pn_m1 (by omega)
theorem pn_10 : ¬ (1 : Int32) = 0 := by decide
theorem so_hem (h : rR w S M) : gw_ex w (f_X8_hem x1 x2 S) (f_X9_hem x1 x2 M) := by
  have h0 := h
  obtain ⟨np, nb, t, hA, hT, hY, hO, hS, hI, hL⟩ := h
  unfold f_X8_hem f_X9_hem
  rcases hA.1.piece x1 with ⟨i, hi, rfl, e1, e2⟩ | ⟨e1, e2⟩
  · have hp := hA.p hi
    rw [e1, e2, gw_bdS, gw_bdS, if_neg (hA.np1 hi), if_neg pn_10, ps_isIn, ps_br, ps_in, ps_br, pz_1, pz_3, pq_1, pq_3]
    by_cases c : 1 ≤ x2.toInt ∧ x2.toInt ≤ 3
    · rw [if_pos c, if_pos c, gw_gdT (hA.gp hi), gw_gdT (hA.inp hi), hA.cp hi, hp.1.1, hp.2.1.2.1, gw_letS, gw_letS]
      by_cases c2 : M 7 i = 1
      · rw [if_pos c2, if_pos c2]
        have c3 : M 14 i ≤ 0 ↔ M 14 i = 0 := by
          rw [ps_leI, ← Int32.toInt_inj, Int32.toInt_zero]; have := hp.2.2.2.2.1.1; omega
        by_cases c4 : M 14 i = 0
        · rw [if_pos c4, if_pos (c3.mpr c4)]
          refine gx rfl (rR.of (hA.setP hi (fun r hr => gw_upN hr) (fun r hr => gw_upN (by omega)) (fun r h1 h2 b hb => ?_) ?_) hT hY hO hS hI hL (fun r hr => gw_upN (by omega)) (fun r h1 h2 => gw_upN (by omega)))
          · by_cases e : r = 14
            · subst e; rw [gw_upE, gw_ru hb]
            · rw [gw_upN e]
          · unfold rP
            rw [gw_upE, gw_upN (show 7 ≠ 14 by omega), gw_upN (show 8 ≠ 14 by omega), gw_upN (show 9 ≠ 14 by omega), gw_upN (show 10 ≠ 14 by omega), gw_upN (show 11 ≠ 14 by omega), gw_upN (show 12 ≠ 14 by omega), gw_upN (show 13 ≠ 14 by omega), gw_upN (show 15 ≠ 14 by omega), gw_upN (show 16 ≠ 14 by omega), gw_upN (show 17 ≠ 14 by omega), gw_upN (show 18 ≠ 14 by omega), gw_upE, gw_rs, gw_rs]
            obtain ⟨q1, ⟨q2, q3, q4, q5⟩, q6, q7, q8, q9⟩ := hp
            exact ⟨q1, ⟨q2, rfl, q4, q5⟩, q6, q7, ⟨by omega, c.2⟩, q9⟩
        · rw [if_neg c4, if_neg (fun q => c4 (c3.mp q))]; exact gx rfl h0
      · rw [if_neg c2, if_neg c2]; exact gx rfl h0
    · rw [if_neg c, if_neg c]; exact gx rfl h0
  · rw [e1, e2, gw_bdS, gw_bdS, if_pos rfl, if_pos rfl]; exact gx rfl h0
/-- a call that reads alone -/
def gw_rd (f1 f2 : Option Int32) : Prop := ∃ r, f1 = some r ∧ f2 = some r
theorem gr {r r' : Int32} (e : r' = r) : gw_rd (some r) (some r') := ⟨r, rfl, by rw [e]⟩
/-- whether a PIECE is RETIRED -/
abbrev aRet (M : gw_S) (i : Nat) : Prop := ¬ (M 16 i = 0 ∧ M 15 i < M 13 i)
theorem rA.ret (h : rA w np nb S M) (hi : i < np) : f_X4_isRetired (nI i) S = some (if aRet M i then 1 else 0) ∧ f_X9_isRetired (nI i) M = some (if aRet M i then 1 else 0) := by
  have hp := h.p hi
  unfold f_X4_isRetired f_X9_isRetired
  rw [gw_gdT (h.gp hi), gw_gdT (h.inp hi), h.cp hi, hp.2.1.2.2.2, hp.2.1.2.2.1, hp.1.2.2.2.2.2.2]
  by_cases c1 : M 16 i = 0
  · by_cases c2 : M 15 i < M 13 i
    · rw [if_pos c1, if_pos c2, if_neg (show ¬ aRet M i from fun q => q ⟨c1, c2⟩)]; exact ⟨rfl, rfl⟩
    · rw [if_pos c1, if_neg c2, if_pos (show aRet M i from fun q => c2 q.2)]; exact ⟨rfl, rfl⟩
  · rw [if_neg c1, if_pos (show aRet M i from fun q => c1 q.1)]; exact ⟨rfl, rfl⟩
/-- what a PIECE is worth -/
theorem wo_eq {l v : Int32} (hl : 1 ≤ l.toInt ∧ l.toInt ≤ 99) (hv : 0 ≤ v.toInt) : (if 0 < l - v then l - v else 0) = if l ≤ v then 0 else l - v := by
  have e : (l - v).toInt = l.toInt - v.toInt := by rw [Int32.toInt_sub, Int.bmod_eq_of_le] <;> have := Int32.toInt_lt v <;> omega
  by_cases c : l ≤ v
  · rw [if_pos c, if_neg]
    rw [ps_leI] at c; rw [ps_ltI, e, Int32.toInt_zero]; omega
  · rw [if_neg c, if_pos]
    rw [ps_leI] at c; rw [ps_ltI, e, Int32.toInt_zero]; omega
theorem rA.worth (h : rA w np nb S M) (hi : i < np) : ∃ r, f_X4_worth (nI i) S = some r ∧ f_X9_worthOf (nI i) M = some r := by
  have hp := h.p hi
  have hl : rg 1 99 (M 13 i) := hp.2.2.2.1.2.2.2.2.2.2
  have hl0 : ¬ M 13 i = 0 := fun e => by have := hl.1; rw [e] at this; exact absurd this (by decide)
  have hl1 : (1 : Int32) ≤ M 13 i := by rw [ps_leI, pz_1]; exact hl.1
  unfold f_X4_worth f_X9_worthOf f_X9_worthOf_b32
  rw [gw_gdT (h.gp hi), gw_gdT (h.inp hi), gw_gdT (h.inp hi), gw_gdT (h.inp hi), h.cp hi, hp.2.1.2.2.1, hp.1.2.2.2.2.2.2, hp.1.2.2.2.2.2.1, if_pos hl1, gw_gdT hl0, gw_gdT hl0, gw_gdT hl0, wo_eq hl hp.2.2.2.2.2.1.1]
  by_cases c : M 13 i ≤ M 15 i
  · rw [if_pos c, if_pos c]; exact ⟨_, rfl, rfl⟩
  · rw [if_neg c, if_neg c]; exact ⟨_, rfl, rfl⟩
theorem gr_if {c : Prop} [Decidable c] {A B C D : Option Int32} (h1 : gw_rd (gw_bd A (fun r => some r)) C) (h2 : gw_rd (gw_bd B (fun r => some r)) D) : gw_rd (gw_bd (if c then A else B) (fun r => some r)) (if c then C else D) := by
  by_cases e : c
  · rw [if_pos e, if_pos e]; exact h1
  · rw [if_neg e, if_neg e]; exact h2
theorem so_told (h : rR w S M) : gw_rd (f_X8_told x1 x2 S) (f_X9_told x1 x2 M) := by
  obtain ⟨np, nb, t, hA, hT, hY, hO, hS, hI, hL⟩ := h
  unfold f_X8_told f_X9_told
  rcases hA.1.piece x1 with ⟨i, hi, rfl, e1, e2⟩ | ⟨e1, e2⟩
  · have hp := hA.p hi
    obtain ⟨wo, w1, w2⟩ := hA.worth hi
    rw [e1, e2, gw_bdS, gw_bdS, if_neg (hA.np1 hi), if_neg pn_10, ps_isIn, ps_br, pz_0, pz_9, gw_gdT (hA.gp hi)]
    unfold f_X4_detail
    rw [gw_gdT (hA.gp hi), gw_gdT (hA.gp hi), gw_gdT (hA.gp hi), gw_gdT (hA.gp hi), gw_gdT (hA.gp hi), gw_gdT (hA.gp hi), gw_gdT (hA.gp hi), gw_gdT (hA.gp hi), gw_gdT (hA.gp hi), gw_gdT (hA.gp hi), gw_gdT (hA.inp hi), gw_gdT (hA.inp hi), gw_gdT (hA.inp hi), gw_gdT (hA.inp hi), gw_gdT (hA.inp hi), gw_gdT (hA.inp hi), gw_gdT (hA.inp hi), gw_gdT (hA.inp hi), hA.cp hi, w1, w2, (hA.ret hi).1, (hA.ret hi).2, gw_bdS, gw_bdS, hp.1.1, hp.1.2.1, hp.1.2.2.1, hp.1.2.2.2.1, hp.1.2.2.2.2.1, hp.1.2.2.2.2.2.1, hp.2.1.2.2.1]
    have e9 : (if M 17 i = 0 then some (-4) else some (M 18 i)) = some (S (2 * i + 30) 10) := by
      rcases hp.2.2.1 with ⟨q1, q2⟩ | ⟨q1, q2⟩
      · rw [if_pos q1, q2]
      · rw [if_neg (by rw [q1]; decide), q2]
    rw [e9]
    by_cases c : 0 ≤ x2.toInt ∧ x2.toInt ≤ 9
    · rw [if_pos c]
      refine gr_if (gr rfl) (gr_if (gr rfl) (gr_if (gr rfl) (gr_if (gr rfl) (gr_if (gr rfl) (gr_if (gr rfl) (gr_if (gr rfl) (gr_if (gr rfl) (gr_if ?_ (gr_if (gr rfl) (gr rfl))))))))))
      split
      · exact gr rfl
      · exact gr rfl
    · rw [if_neg c]
      have d : ∀ k : Int32, (0 ≤ k.toInt ∧ k.toInt ≤ 9) → ¬ x2 = k := fun k hk e => c (by rw [e]; exact hk)
      rw [if_neg (d 0 (by decide)), if_neg (d 1 (by decide)), if_neg (d 2 (by decide)), if_neg (d 3 (by decide)), if_neg (d 4 (by decide)), if_neg (d 5 (by decide)), if_neg (d 6 (by decide)), if_neg (d 7 (by decide)), if_neg (d 8 (by decide)), if_neg (d 9 (by decide))]
      exact gr rfl
  · rw [e1, e2, gw_bdS, gw_bdS, if_pos rfl, if_pos rfl]; exact gr rfl
theorem so_retire (h : rR w S M) : gw_ex w (f_X8_retire x1 S) (f_X9_retire x1 M) := by
  have h0 := h
  obtain ⟨np, nb, t, hA, hT, hY, hO, hS, hI, hL⟩ := h
  unfold f_X8_retire f_X9_retire
  rcases hA.1.piece x1 with ⟨i, hi, rfl, e1, e2⟩ | ⟨e1, e2⟩
  · have hp := hA.p hi
    rw [e1, e2, gw_bdS, gw_bdS, if_neg (hA.np1 hi), if_neg pn_10, gw_gdT (hA.gp hi), (hA.ret hi).1, (hA.ret hi).2, gw_bdS, gw_bdS]
    by_cases c : aRet M i
    · rw [if_pos c, if_neg pn_10, if_neg pn_10]; exact gx rfl h0
    · rw [if_neg c, if_pos rfl, if_pos rfl, gw_letS, gw_gdT (hA.inp hi), gw_letS, hA.cp hi, show vp_nar .boolean 1 = 1 by decide +kernel]
      have hA' : rA w np nb (gw_up S (2 * i + 30) 11 1) (gw_up M 16 i 1) := by
        refine hA.setP hi (fun r hr => gw_upN hr) (fun r hr => gw_upN (by omega)) (fun r h1 h2 b hb => ?_) ?_
        · by_cases e : r = 16
          · subst e; rw [gw_upE, gw_ru hb]
          · rw [gw_upN e]
        · unfold rP
          rw [gw_upE, gw_upN (show 7 ≠ 16 by omega), gw_upN (show 8 ≠ 16 by omega), gw_upN (show 9 ≠ 16 by omega), gw_upN (show 10 ≠ 16 by omega), gw_upN (show 11 ≠ 16 by omega), gw_upN (show 12 ≠ 16 by omega), gw_upN (show 13 ≠ 16 by omega), gw_upN (show 15 ≠ 16 by omega), gw_upN (show 14 ≠ 16 by omega), gw_upN (show 17 ≠ 16 by omega), gw_upN (show 18 ≠ 16 by omega), gw_upE, gw_rs, gw_rs]
          obtain ⟨q1, ⟨q2, q3, q4, q5⟩, q6, q7, q8, q9, q10, q11⟩ := hp
          exact ⟨q1, ⟨q2, q3, q4, rfl⟩, q6, q7, q8, q9, Or.inr rfl, q11⟩
      obtain ⟨wo, w1, w2⟩ := hA'.worth hi
      have hg := hA'.gp hi
      rw [hA.cp hi] at hg
      rw [gw_gdT hg, w1, w2, gw_bdS, gw_bdS]
      exact gx rfl (rR.of hA' hT hY hO hS hI hL (fun r hr => gw_upN (by omega)) (fun r h1 h2 => gw_upN (by omega)))
  · rw [e1, e2, gw_bdS, gw_bdS, if_pos rfl, if_pos rfl]; exact gx rfl h0
theorem so_mend (h : rR w S M) : gw_ex w (f_X8_mend x1 S) (f_X9_mend x1 M) := by
  have h0 := h
  obtain ⟨np, nb, t, hA, hT, hY, hO, hS, hI, hL⟩ := h
  unfold f_X8_mend f_X9_mend f_X4_isTorn
  rcases hA.1.piece x1 with ⟨i, hi, rfl, e1, e2⟩ | ⟨e1, e2⟩
  · have hp := hA.p hi
    rw [e1, e2, gw_bdS, gw_bdS, if_neg (hA.np1 hi), if_neg pn_10, gw_gdT (hA.gp hi), gw_gdT (hA.gp hi), gw_gdT (hA.inp hi), hA.cp hi]
    rcases hp.2.2.1 with ⟨q1, q2⟩ | ⟨q1, q2⟩
    · rw [q2, if_pos rfl, gw_bdS, if_pos rfl, if_pos q1]; exact gx rfl h0
    · have hz : ¬ S (2 * i + 30) 10 = -4 := fun e => by
        have := hp.2.2.2.2.2.2.2.1
        rw [q2] at e; rw [e] at this; exact absurd this (by decide)
      rw [if_neg hz, gw_bdS, if_neg pn_10, if_neg (by rw [q1]; decide), gw_letS, gw_letS, show vp_nar .boolean 0 = 0 by decide +kernel]
      refine gx rfl (rR.of (hA.setP hi (fun r hr => gw_upN hr) (fun r hr => gw_upN (by omega)) (fun r h1 h2 b hb => ?_) ?_) hT hY hO hS hI hL (fun r hr => gw_upN (by omega)) (fun r h1 h2 => gw_upN (by omega)))
      · by_cases e : r = 17
        · subst e; rw [gw_upE, gw_ru hb]
        · rw [gw_upN e]
      · unfold rP
        rw [gw_upE, gw_upN (show 7 ≠ 17 by omega), gw_upN (show 8 ≠ 17 by omega), gw_upN (show 9 ≠ 17 by omega), gw_upN (show 10 ≠ 17 by omega), gw_upN (show 11 ≠ 17 by omega), gw_upN (show 12 ≠ 17 by omega), gw_upN (show 13 ≠ 17 by omega), gw_upN (show 15 ≠ 17 by omega), gw_upN (show 14 ≠ 17 by omega), gw_upN (show 16 ≠ 17 by omega), gw_upN (show 18 ≠ 17 by omega), gw_upE, gw_rs, gw_rs]
        obtain ⟨q1, q2, q6, q7, q8⟩ := hp
        exact ⟨q1, q2, Or.inl ⟨rfl, rfl⟩, q7, q8⟩
  · rw [e1, e2, gw_bdS, gw_bdS, if_pos rfl, if_pos rfl]; exact gx rfl h0
end RRA
section RRB
variable {w np nb t i j a f : Nat} {S M S' M' : gw_S} {x k x1 x2 x3 x4 x5 x6 u z : Int32}
/-- POST between a PIECE and a BOOKING, and the days AWAY -/
def aPo (M : gw_S) (i j : Nat) : Int32 := M 6 (9 * (M 11 i).toNatClampNeg + (M 28 j).toNatClampNeg)
def aFa (M : gw_S) (i j : Nat) : Int32 := (M 27 j - M 3 0) - aPo M i j
def aLa (M : gw_S) (i j : Nat) : Int32 := (M 27 j + aPo M i j) + M 3 1
theorem rg_nI {n : Nat} {lo : Nat} (h : rg lo n x) (hn : n < 2 ^ 31) : ∃ k, lo ≤ k ∧ k ≤ n ∧ x = nI k := by
  have h1 := h.1
  obtain ⟨k, hk, rfl⟩ := ps_nI (x := x) (n := n) ⟨by omega, h.2⟩ hn
  rw [nI_toInt (by omega)] at h1
  exact ⟨k, by omega, hk, rfl⟩
theorem rA.po (h : rA w np nb S M) (hO : rO S M) (hi : i < np) (hj : j < nb) : f_X2_postBetween (M 11 i) (M 28 j) S = some (aPo M i j) ∧ f_X9_postOf (nI i) (nI j) M = some (aPo M i j) ∧ rg 0 9 (aPo M i j) := by
  have hp := h.p hi
  have hb := h.b hj
  obtain ⟨a, -, ha, ea⟩ := rg_nI (lo := 0) (n := 8) hp.2.2.2.1.2.2.2.2.1 (by omega)
  obtain ⟨b, -, hb', eb⟩ := rg_nI (lo := 0) (n := 8) hb.2.2.2.2.2.2.2.2.1 (by omega)
  unfold aPo f_X9_postOf
  rw [gw_gdT (h.inp hi), gw_gdT (h.inb hj), h.cp hi, h.cb hj, ea, eb, nI_clamp (by omega), nI_clamp (by omega), hO.post ha hb', (p_mul9 a ha b hb').2, gw_gdT (pi_in (by omega) (by omega)), nI_clamp (by omega)]
  exact ⟨rfl, rfl, (hO _ (by omega)).2⟩
theorem rT.t0 (h : rT S M) : f_X7_at 0 S = some (M 3 0) := h.at (k := 0) (by omega)
theorem rT.t1 (h : rT S M) : f_X7_at 1 S = some (M 3 1) := h.at (k := 1) (by omega)
theorem rT.t2 (h : rT S M) : f_X7_at 2 S = some (M 3 2) := h.at (k := 2) (by omega)
theorem rT.t3 (h : rT S M) : f_X7_at 3 S = some (M 3 3) := h.at (k := 3) (by omega)
theorem rT.t4 (h : rT S M) : f_X7_at 4 S = some (M 3 4) := h.at (k := 4) (by omega)
theorem rT.t5 (h : rT S M) : f_X7_at 5 S = some (M 3 5) := h.at (k := 5) (by omega)
theorem rT.t6 (h : rT S M) : f_X7_at 6 S = some (M 3 6) := h.at (k := 6) (by omega)
theorem rT.t7 (h : rT S M) : f_X7_at 7 S = some (M 3 7) := h.at (k := 7) (by omega)
theorem rA.fa (h : rA w np nb S M) (hT : rT S M) (hO : rO S M) (hi : i < np) (hj : j < nb) : f_X2_firstAway (nI i) (nI j) S = some (aFa M i j) ∧ f_X9_firstAway (nI i) (nI j) M = some (aFa M i j) := by
  have hp := h.p hi
  have hb := h.b hj
  obtain ⟨q1, q2, -⟩ := h.po hO hi hj
  unfold f_X2_firstAway f_X9_firstAway aFa
  rw [gw_gdT (h.nb1 hj), gw_gdT (h.gb hj), hT.t0, gw_bdS, gw_gdT (h.np1 hi), gw_gdT (h.gp hi), gw_gdT (h.inb hj), h.cp hi, h.cb hj, hp.1.2.2.2.2.1, hb.1.2.2.2.2.1, q1, q2, gw_bdS, gw_bdS, hb.1.2.2.2.1]
  exact ⟨rfl, rfl⟩
theorem rA.la (h : rA w np nb S M) (hT : rT S M) (hO : rO S M) (hi : i < np) (hj : j < nb) : f_X2_lastAway (nI i) (nI j) S = some (aLa M i j) ∧ f_X9_lastAway (nI i) (nI j) M = some (aLa M i j) := by
  have hp := h.p hi
  have hb := h.b hj
  obtain ⟨q1, q2, -⟩ := h.po hO hi hj
  unfold f_X2_lastAway f_X9_lastAway aLa
  rw [gw_gdT (h.nb1 hj), gw_gdT (h.gb hj), gw_gdT (h.np1 hi), gw_gdT (h.gp hi), gw_gdT (h.inb hj), h.cp hi, h.cb hj, hp.1.2.2.2.2.1, hb.1.2.2.2.2.1, q1, q2, gw_bdS, gw_bdS, hT.t1, gw_bdS, hb.1.2.2.2.1]
  exact ⟨rfl, rfl⟩
theorem so_away (h : rR w S M) : gw_rd (f_X8_away x1 x2 x3 S) (f_X9_away x1 x2 x3 M) := by
  obtain ⟨np, nb, t, hA, hT, hY, hO, hS, hI, hL⟩ := h
  unfold f_X8_away f_X9_away
  rcases hA.1.piece x1 with ⟨i, hi, rfl, e1, e2⟩ | ⟨e1, e2⟩
  · rcases hA.1.booking x2 with ⟨j, hj, rfl, d1, d2⟩ | ⟨d1, d2⟩
    · rw [e1, e2, gw_bdS, gw_bdS, d1, d2, gw_bdS, gw_bdS, if_neg (hA.np1 hi), if_neg (hA.nb1 hj), if_neg pn_10, if_neg pn_10, ps_isIn, ps_br, ps_in, ps_br, pz_0, pz_1, pq_0, pq_1, (hA.fa hT hO hi hj).1, (hA.fa hT hO hi hj).2, (hA.la hT hO hi hj).1, (hA.la hT hO hi hj).2, gw_bdS, gw_bdS]
      by_cases c : 0 ≤ x3.toInt ∧ x3.toInt ≤ 1
      · rw [if_pos c]
        by_cases c2 : x3 = 0
        · rw [if_pos c2]; exact gr rfl
        · rw [if_neg c2]; exact gr rfl
      · rw [if_neg c]; exact gr rfl
    · rw [e1, e2, gw_bdS, gw_bdS, d1, d2, gw_bdS, gw_bdS, if_neg (hA.np1 hi), if_pos rfl, if_neg pn_10, if_pos rfl]; exact gr rfl
  · rcases hA.1.booking x2 with ⟨j, hj, rfl, d1, d2⟩ | ⟨d1, d2⟩
    · rw [e1, e2, gw_bdS, gw_bdS, d1, gw_bdS, if_pos rfl, if_pos rfl]; exact gr rfl
    · rw [e1, e2, gw_bdS, gw_bdS, d1, gw_bdS, if_pos rfl, if_pos rfl]; exact gr rfl
theorem pn_p0' {n : Nat} (h : n < 2 ^ 31) : 0 ≤ nI n := pn_p0 h
theorem so_has (h : rR w S M) : gw_rd (f_X8_has x1 S) (f_X9_has x1 M) := by
  obtain ⟨np, nb, t, hA, hT, hY, hO, hS, hI, hL⟩ := h
  unfold f_X8_has f_X9_has f_X0_pieceNumber
  rcases hA.1.booking x1 with ⟨j, hj, rfl, e1, e2⟩ | ⟨e1, e2⟩
  · have hb := hA.b hj
    rw [e1, e2, gw_bdS, gw_bdS, if_neg (hA.nb1 hj), if_neg pn_10, gw_gdT (hA.gb hj), gw_gdT (hA.gb hj), gw_gdT (hA.inb hj), hA.cb hj, hb.2.2.1.1]
    rcases hb.2.2.1.2 with q | ⟨i, hi, q⟩
    · rw [q, if_pos rfl, if_neg (by decide)]; exact gr rfl
    · rw [q, if_neg (hA.np1 hi), gw_gdT (hA.gp hi), gw_bdS, hA.cp hi, (hA.p hi).2.1.1, if_pos (pn_p0 (by have := hA.ip hi; omega))]; exact gr rfl
  · rw [e1, e2, gw_bdS, gw_bdS, if_pos rfl, if_pos rfl]; exact gr rfl
/-- what a BOOKING says of itself -/
theorem rA.off (h : rA w np nb S M) (hj : j < nb) : f_X0_isCalledOff (nI j) S = some (if 0 ≤ M 31 j then 1 else 0) := by
  unfold f_X0_isCalledOff
  rw [gw_gdT (h.gb hj), h.cb hj]
  rcases (h.b hj).2.1 with ⟨q1, q2⟩ | ⟨q1, q2⟩
  · rw [q2, if_pos rfl, q1, if_neg (by decide)]
  · have h1 : 0 ≤ M 31 j := by rw [ps_leI, Int32.toInt_zero]; exact q1.1
    rw [q2, if_neg (fun e => by rw [e] at h1; exact absurd h1 (by decide)), if_pos h1]
theorem rA.out (h : rA w np nb S M) (hj : j < nb) : f_X0_wentOut (nI j) S = some (if M 33 j = 0 then 0 else 1) := by
  unfold f_X0_wentOut
  rw [gw_gdT (h.gb hj), h.cb hj, (h.b hj).2.2.2.1.1]
  split <;> rfl
theorem rA.st (h : rA w np nb S M) (hj : j < nb) : M 33 j ≤ 0 ↔ M 33 j = 0 := by
  rcases (h.b hj).2.2.2.1.2 with q | ⟨q | q, -⟩ <;> rw [q] <;> decide
theorem rA.had (h : rA w np nb S M) (hj : j < nb) : (0 ≤ M 32 j ↔ ¬ M 32 j = -1) ∧ (M 32 j < 0 ↔ M 32 j = -1) := by
  rcases (h.b hj).2.2.1.2 with q | ⟨i, hi, q⟩
  · rw [q]; decide
  · have := h.ip hi
    rw [q]
    exact ⟨⟨fun _ => h.np1 hi, fun _ => pn_p0 (by omega)⟩, ⟨fun q => absurd q (pn_n0 (by omega)), fun q => absurd q (h.np1 hi)⟩⟩
/-- whether a BOOKING waits -/
theorem rA.waits (h : rA w np nb S M) (hj : j < nb) : f_X0_waits (nI j) S = some (if M 32 j = -1 ∧ ¬ 0 ≤ M 31 j then 1 else 0) ∧ f_X9_isOpen (nI j) M = some (if M 32 j = -1 ∧ ¬ 0 ≤ M 31 j then 1 else 0) := by
  unfold f_X0_waits f_X9_isOpen
  rw [gw_gdT (h.gb hj), gw_gdT (h.inb hj), h.cb hj, (h.b hj).2.2.1.1, h.off hj]
  by_cases c : M 32 j = -1
  · rw [if_pos c, if_neg (fun q => (h.had hj).1.mp q c)]
    by_cases c2 : 0 ≤ M 31 j
    · rw [if_pos c2, gw_bdS, if_neg pn_10, if_pos c2, if_neg (fun q => q.2 c2)]; exact ⟨rfl, rfl⟩
    · rw [if_neg c2, gw_bdS, if_pos rfl, if_neg c2, if_pos ⟨c, c2⟩]; exact ⟨rfl, rfl⟩
  · rw [if_neg c, if_pos ((h.had hj).1.mpr c), if_neg (fun q => c q.1)]; exact ⟨rfl, rfl⟩
theorem so_off (h : rR w S M) : gw_ex w (f_X8_off x1 x2 S) (f_X9_off x1 x2 M) := by
  have h0 := h
  obtain ⟨np, nb, t, hA, hT, hY, hO, hS, hI, hL⟩ := h
  unfold f_X8_off f_X9_off
  rcases hA.1.booking x1 with ⟨j, hj, rfl, e1, e2⟩ | ⟨e1, e2⟩
  · have hb := hA.b hj
    have hm : rg 0 399 (M 29 j) := hb.2.2.2.2.2.2.2.2.2.1
    have gb2 : ∀ v : Int32, (nI j).toNatClampNeg < gw_nb (gw_up S (2 * (nI j).toNatClampNeg + 31) 7 v) := fun v => by
      have := hA.gb hj
      unfold gw_nb at this ⊢
      rw [gw_upN (by omega)]; exact this
    rw [e1, e2, gw_bdS, gw_bdS, if_neg (hA.nb1 hj), if_neg pn_10, ps_isDay, ps_br, gw_gdT (hA.gb hj), gw_gdT (hA.inb hj), hA.off hj, hA.out hj, gw_letS, gw_gdT (gb2 x2), gw_letS, gw_letS, gw_letS, hA.cb hj, hb.1.2.2.2.2.2.1, ps_in64, ps_br, ps_br, Int32.toInt_toInt64, Int32.toInt_toInt64, pq_399]
    by_cases c : 0 ≤ x2.toInt ∧ x2.toInt ≤ 399
    · rw [if_pos c]
      by_cases c2 : M 29 j ≤ x2
      · have c3 := ps_leI.mp c2
        rw [if_pos c2, if_pos (show (M 29 j).toInt ≤ x2.toInt ∧ x2.toInt ≤ 399 from ⟨c3, c.2⟩)]
        by_cases c4 : 0 ≤ M 31 j
        · rw [if_pos c4, if_pos c4]; exact gx rfl h0
        · rw [if_neg c4, if_neg c4]
          by_cases c5 : M 33 j = 0
          · rw [if_pos c5, gw_bdS, if_pos rfl, if_pos ((hA.st hj).mpr c5)]
            refine gx rfl (rR.of (hA.setB hj (fun r hr => by rw [gw_upN hr, gw_upN hr]) (fun r hr => by rw [gw_upN (by omega), gw_upN (by omega)]) (fun r h1 h2 b hb => ?_) ?_) hT hY hO hS hI hL (fun r hr => by rw [gw_upN (by omega), gw_upN (by omega)]) (fun r h1 h2 => by rw [gw_upN (by omega), gw_upN (by omega)]))
            · by_cases e : r = 32
              · subst e; rw [gw_upE, gw_ru hb, gw_upN (by omega)]
              · rw [gw_upN e]
                by_cases e : r = 31
                · subst e; rw [gw_upE, gw_ru hb]
                · rw [gw_upN e]
            · unfold rB
              have u : ∀ r, r ≠ 31 → r ≠ 32 → gw_up (gw_up M 31 j x2) 32 j (-1) r = M r := fun r h1 h2 => by rw [gw_upN h2, gw_upN h1]
              rw [u 25 (by omega) (by omega), u 26 (by omega) (by omega), u 27 (by omega) (by omega), u 28 (by omega) (by omega), u 29 (by omega) (by omega), u 30 (by omega) (by omega), u 33 (by omega) (by omega), u 34 (by omega) (by omega), u 35 (by omega) (by omega), gw_upE, gw_upE, gw_rs, gw_upE, gw_rs, gw_upN (show 31 ≠ 32 by omega), gw_upE, gw_rs]
              obtain ⟨q1, q2, q3, ⟨q4, q5⟩, q6⟩ := hb
              exact ⟨q1, Or.inr ⟨c, rfl⟩, ⟨rfl, Or.inl rfl⟩, ⟨q4, Or.inl c5⟩, q6⟩
          · rw [if_neg c5, gw_bdS, if_neg pn_10, if_neg (fun q => c5 ((hA.st hj).mp q))]; exact gx rfl h0
      · rw [if_neg c2, if_neg (show ¬ ((M 29 j).toInt ≤ x2.toInt ∧ x2.toInt ≤ 399) from fun q => c2 (ps_leI.mpr q.1))]; exact gx rfl h0
    · rw [if_neg c, if_neg (show ¬ ((M 29 j).toInt ≤ x2.toInt ∧ x2.toInt ≤ 399) from fun q => c ⟨by have := hm.1; omega, q.2⟩)]; exact gx rfl h0
  · rw [e1, e2, gw_bdS, gw_bdS, if_pos rfl, if_pos rfl]; exact gx rfl h0
end RRB
section RRC
variable {w np nb t i j a f : Nat} {S M S' M' : gw_S} {x k x1 x2 x3 x4 x5 x6 u z : Int32}
theorem rA.mono (h : rA w np nb S M) : rA (w + 1) np nb S M := by
  refine ⟨h.1, fun i hi => ?_, h.2.2⟩
  obtain ⟨q1, q2, q3, q4, q5, q6, q7⟩ := h.p hi
  exact ⟨q1, q2, q3, q4, q5, ⟨q6.1, by have := q6.2; omega⟩, q7⟩
theorem rR.mono (h : rR w S M) : rR (w + 1) S M := by
  obtain ⟨np, nb, t, hA, h⟩ := h
  exact ⟨np, nb, t, hA.mono, h⟩
theorem so_out (h : rR w S M) : gw_ex w (f_X8_out x1 x2 S) (f_X9_out x1 x2 M) := by
  have h0 := h
  obtain ⟨np, nb, t, hA, hT, hY, hO, hS, hI, hL⟩ := h
  unfold f_X8_out f_X9_out
  rcases hA.1.booking x1 with ⟨j, hj, rfl, e1, e2⟩ | ⟨e1, e2⟩
  · have hb := hA.b hj
    rw [e1, e2, gw_bdS, gw_bdS, if_neg (hA.nb1 hj), if_neg pn_10, ps_isIn, ps_br, ps_in, ps_br, pz_0, pz_4095, pq_0, pq_4095, gw_gdT (hA.gb hj), gw_gdT (hA.inb hj), hA.out hj, gw_bdS, hA.cb hj, hb.2.2.1.1]
    by_cases c : 0 ≤ x2.toInt ∧ x2.toInt ≤ 4095
    · rw [if_pos c, if_pos c]
      rcases hb.2.2.1.2 with q | ⟨i, hi, q⟩
      · rw [if_pos q, if_pos ((hA.had hj).2.mpr q)]; exact gx rfl h0
      · have hn : ¬ M 32 j = -1 := by rw [q]; exact hA.np1 hi
        rw [if_neg hn, if_neg (fun q => hn ((hA.had hj).2.mp q))]
        by_cases c5 : M 33 j = 0
        · rw [if_pos c5, if_pos rfl, if_pos ((hA.st hj).mpr c5), q]
          unfold f_X2_depositOn f_X0_goOut
          have gb : ∀ S1 : gw_S, S1 29 = S 29 → (nI j).toNatClampNeg < gw_nb S1 := fun S1 e => by
            have := hA.gb hj
            unfold gw_nb at this ⊢
            rw [e]; exact this
          have gb' : ∀ S1 : gw_S, S1 29 = S 29 → j < gw_nb S1 := fun S1 e => by have := gb S1 e; rw [hA.cb hj] at this; exact this
          have hp := hA.p hi
          rw [gw_gdT (hA.np1 hi), gw_gdT (hA.gp hi), hT.t3, gw_bdS, gw_bdS, gw_gdT (hA.gb hj), gw_letS, gw_gdT (gb _ (gw_upN (by omega))), gw_letS, gw_gdT (gb _ (by rw [gw_upN (by omega), gw_upN (by omega)])), gw_letS, gw_bdS, hA.cp hi, hA.cb hj, hp.1.2.2.2.2.2.1, gw_gdT (gb' _ (by rw [gw_upN (by omega), gw_upN (by omega), gw_upN (by omega)])), gw_letS, gw_letS]
          have e32 : ∀ v, gw_up (gw_up M 33 j 1) 34 j v 32 j = nI i := fun v => by rw [gw_upN (by omega), gw_upN (by omega), q]
          rw [e32, gw_gdT (hA.inp hi), gw_letS, hA.cp hi]
          refine gx ?_ (rR.of (hA.setB hj (fun r hr => by rw [gw_upN hr, gw_upN hr, gw_upN hr]) (fun r hr => by rw [gw_upN (by omega), gw_upN (by omega), gw_upN (by omega)]) (fun r h1 h2 b hb => ?_) ?_) hT hY hO hS hI hL (fun r hr => by rw [gw_upN (by omega), gw_upN (by omega), gw_upN (by omega)]) (fun r h1 h2 => by rw [gw_upN (by omega), gw_upN (by omega), gw_upN (by omega)]))
          · rw [gw_upE, gw_rs, gw_upE, gw_rs]; rfl
          · by_cases e : r = 35
            · subst e; rw [gw_upE, gw_ru hb, gw_upN (by omega), gw_upN (by omega)]
            · rw [gw_upN e]
              by_cases e : r = 34
              · subst e; rw [gw_upE, gw_ru hb, gw_upN (by omega)]
              · rw [gw_upN e]
                by_cases e : r = 33
                · subst e; rw [gw_upE, gw_ru hb]
                · rw [gw_upN e]
          · unfold rB
            have u : ∀ (v1 v2 : Int32) (r : Nat), r < 33 → gw_up (gw_up (gw_up M 33 j 1) 34 j v1) 35 j v2 r = M r := fun v1 v2 r h1 => by rw [gw_upN (by omega), gw_upN (by omega), gw_upN (by omega)]
            rw [u _ _ 25 (by omega), u _ _ 26 (by omega), u _ _ 27 (by omega), u _ _ 28 (by omega), u _ _ 29 (by omega), u _ _ 30 (by omega), u _ _ 31 (by omega), u _ _ 32 (by omega), gw_upE, gw_upE, gw_upE, gw_upE, gw_rs, gw_rs, gw_upN (show 33 ≠ 35 by omega), gw_upN (show 33 ≠ 34 by omega), gw_upE, gw_rs, gw_upN (show 34 ≠ 35 by omega), gw_upE, gw_rs]
            obtain ⟨q1, q2, q3, ⟨q4, q5⟩, q6⟩ := hb
            refine ⟨q1, q2, q3, ⟨rfl, Or.inr ⟨Or.inl rfl, hn⟩⟩, ⟨rfl, rfl⟩, q6.2⟩
        · rw [if_neg c5, if_neg pn_10, if_neg (fun q => c5 ((hA.st hj).mp q))]; exact gx rfl h0
    · rw [if_neg c, if_neg c]; exact gx rfl h0
  · rw [e1, e2, gw_bdS, gw_bdS, if_pos rfl, if_pos rfl]; exact gx rfl h0
end RRC
section RRD
variable {w np nb t i j a f : Nat} {S M S' M' : gw_S} {x k x1 x2 x3 x4 x5 x6 u z : Int32}
/-- ones of a look -/
def aOn (k : Nat) : Int32 := (f_X9_ones (nI k) (fun _ _ => 0)).getD 0
theorem on_ind (M M' : gw_S) : ∀ (n : Nat) (a b : Int32), f_X9_ones_b4 M n a b = f_X9_ones_b4 M' n a b
  | 0, _, _ => rfl
  | n + 1, a, b => by
    rw [f_X9_ones_b4, f_X9_ones_b4]
    simp only [gw_letS, on_ind M M' n]
set_option maxRecDepth 100000 in
theorem on_all : ∀ k, k < 256 → f_X9_ones (nI k) (fun _ _ => 0) = some (aOn k) ∧ f_J6_bitCount_0f7a4 (nI k) (fun _ _ => 0) = some (aOn k) ∧ 0 ≤ (aOn k).toInt ∧ (aOn k).toInt ≤ 8 := by decide +kernel
theorem on_m {k : Nat} (h : k < 256) : f_X9_ones (nI k) M = some (aOn k) := by
  rw [← (on_all k h).1]; exact on_ind _ _ _ _ _
theorem on_c {k : Nat} (h : k < 256) : f_J6_bitCount_0f7a4 (nI k) S = some (aOn k) := (on_all k h).2.1
/-- what is more on one look than on the other: its low and its high part are small -/
theorem on_and {x y : Int32} (hx : 0 ≤ x.toInt ∧ x.toInt ≤ 4095) : (∃ k, k < 256 ∧ (x &&& y) &&& 255 = nI k) ∧ ∃ k, k < 256 ∧ (x &&& y) >>> ((8 : Int32) &&& 31) = nI k := by
  obtain ⟨n, hn, rfl⟩ := ps_nI (n := 4095) hx (by omega)
  have e : nI n &&& y = nI ((n &&& y.toBitVec.toNat)) := by
    apply Int32.toBitVec_inj.mp
    apply BitVec.eq_of_toNat_eq
    show (BitVec.ofNat 32 n &&& y.toBitVec).toNat = (BitVec.ofNat 32 (n &&& y.toBitVec.toNat)).toNat
    rw [BitVec.toNat_and, BitVec.toNat_ofNat, BitVec.toNat_ofNat, Nat.mod_eq_of_lt (by omega), Nat.mod_eq_of_lt (Nat.lt_of_le_of_lt Nat.and_le_left (by omega))]
  have hm : n &&& y.toBitVec.toNat ≤ 4095 := Nat.le_trans Nat.and_le_left hn
  rw [e]
  generalize n &&& y.toBitVec.toNat = m at hm
  have h1 : nI m &&& 255 = nI (m &&& 255) := by
    apply Int32.toBitVec_inj.mp
    apply BitVec.eq_of_toNat_eq
    show (BitVec.ofNat 32 m &&& 255#32).toNat = (BitVec.ofNat 32 (m &&& 255)).toNat
    rw [BitVec.toNat_and, show (255#32).toNat = 255 from rfl, BitVec.toNat_ofNat, BitVec.toNat_ofNat, Nat.mod_eq_of_lt (show m < 2 ^ 32 by omega), Nat.mod_eq_of_lt (Nat.lt_of_le_of_lt Nat.and_le_left (show m < 2 ^ 32 by omega))]
  have h2 : nI m >>> ((8 : Int32) &&& 31) = nI (m / 256) := by
    apply Int32.toBitVec_inj.mp
    apply BitVec.eq_of_toNat_eq
    show ((BitVec.ofNat 32 m).sshiftRight (((8 : Int32) &&& 31).toBitVec.smod 32).toNat).toNat = (BitVec.ofNat 32 (m / 256)).toNat
    have e2 : (((8 : Int32) &&& 31).toBitVec.smod 32).toNat = 8 := by decide
    have e3 : (BitVec.ofNat 32 m).msb = false := by rw [BitVec.msb_eq_false_iff_two_mul_lt, BitVec.toNat_ofNat, Nat.mod_eq_of_lt (by omega)]; omega
    rw [e2, BitVec.sshiftRight_eq_of_msb_false e3, BitVec.toNat_ushiftRight, BitVec.toNat_ofNat, BitVec.toNat_ofNat, Nat.mod_eq_of_lt (by omega), Nat.mod_eq_of_lt (by omega), Nat.shiftRight_eq_div_pow]
  exact ⟨⟨m &&& 255, Nat.lt_of_le_of_lt Nat.and_le_right (by omega), h1⟩, m / 256, by omega, h2⟩
/-- what the look at home owes -/
def aHm (M : gw_S) (j : Nat) (x : Int32) : Int32 := if x = -1 then -4 else ((f_X9_ones ((x &&& (M 34 j ^^^ -1)) &&& 255) (fun _ _ => 0)).getD 0) * M 3 5 + ((f_X9_ones ((x &&& (M 34 j ^^^ -1)) >>> ((8 : Int32) &&& 31)) (fun _ _ => 0)).getD 0) * M 3 6
theorem hm_late {d y : Int32} (hd : 0 ≤ d.toInt ∧ d.toInt ≤ 399) (hy : 0 ≤ y.toInt ∧ y.toInt ≤ 1000) : (if 0 < d - y then d - y else 0) = if d ≤ y then 0 else d - y := by
  have e : (d - y).toInt = d.toInt - y.toInt := by rw [Int32.toInt_sub, Int.bmod_eq_of_le] <;> omega
  by_cases c : d ≤ y
  · rw [if_pos c, if_neg]
    rw [ps_leI] at c; rw [ps_ltI, e, Int32.toInt_zero]; omega
  · rw [if_neg c, if_pos]
    rw [ps_leI] at c; rw [ps_ltI, e, Int32.toInt_zero]; omega
theorem hm_model (hA : rA w np nb S M) (hO : rO S M) (hi : i < np) (hj : j < nb) (h3 : -1 ≤ x3.toInt ∧ x3.toInt ≤ 4095) {M2 : gw_S} (L : Int32) (e34 : M2 34 = M 34) (e3 : M2 3 = M 3) (e35 : M2 35 = M 35) : f_X9_home_b133 (nI j) x3 L (nI j) M2 = some ((M 3 2 * L + if x3 = -1 then 0 else aHm M j x3) - M 35 j, gw_up (gw_up (gw_up M2 36 j L) 37 j (aHm M j x3)) 38 j (M 3 2 * L + if x3 = -1 then 0 else aHm M j x3)) := by
  have hc := hA.cb hj
  have hg := hA.inb hj
  unfold f_X9_home_b133 f_X9_home_b152 f_X9_home_b201 f_X9_home_b234
  simp only [gw_gdT hg, gw_letS, hc]
  have e35' : ∀ v1 v2 v3 : Int32, gw_up (gw_up (gw_up M2 36 j v1) 37 j v2) 38 j v3 35 j = M 35 j := fun v1 v2 v3 => by rw [gw_upN (show 35 ≠ 38 by omega), gw_upN (show 35 ≠ 37 by omega), gw_upN (show 35 ≠ 36 by omega), e35]
  have e3' : ∀ (v1 v2 : Int32) (k : Nat), gw_up (gw_up M2 36 j v1) 37 j v2 3 k = M 3 k := fun v1 v2 k => by rw [gw_upN (show 3 ≠ 37 by omega), gw_upN (show 3 ≠ 36 by omega), e3]
  have e3'' : ∀ (v1 : Int32) (k : Nat), gw_up M2 36 j v1 3 k = M 3 k := fun v1 k => by rw [gw_upN (show 3 ≠ 36 by omega), e3]
  have e36' : ∀ v1 v2 : Int32, gw_up (gw_up M2 36 j v1) 37 j v2 36 j = v1 := fun v1 v2 => by rw [gw_upN (show 36 ≠ 37 by omega), gw_upE, gw_rs]
  have e37' : ∀ v1 v2 : Int32, gw_up (gw_up M2 36 j v1) 37 j v2 37 j = v2 := fun v1 v2 => by rw [gw_upE, gw_rs]
  have e38' : ∀ v1 v2 v3 : Int32, gw_up (gw_up (gw_up M2 36 j v1) 37 j v2) 38 j v3 38 j = v3 := fun v1 v2 v3 => by rw [gw_upE, gw_rs]
  have e34' : ∀ v1 : Int32, gw_up M2 36 j v1 34 j = M 34 j := fun v1 => by rw [gw_upN (show 34 ≠ 36 by omega), e34]
  have t2 : (2 : Int32).toNatClampNeg = 2 ∧ (5 : Int32).toNatClampNeg = 5 ∧ (6 : Int32).toNatClampNeg = 6 := by decide
  simp only [e3', e3'', e36', e37', e38', e34', e35', t2.1, t2.2.1, t2.2.2]
  by_cases c : x3 = -1
  · subst c
    unfold aHm
    rw [if_neg (by decide), if_neg (by decide), if_neg (by decide), if_pos rfl, if_pos rfl]
  · have h0 : 0 ≤ x3 := by
      rw [ps_leI, Int32.toInt_zero]
      have : ¬ x3.toInt = -1 := fun e => c (Int32.toInt_inj.mp (by rw [e, pz_m1]))
      omega
    rw [if_pos h0, if_pos h0, if_neg c]
    have h0i := h0
    rw [ps_leI, Int32.toInt_zero] at h0i
    obtain ⟨⟨k1, q1, d1⟩, k2, q2, d2⟩ := on_and (x := x3) (y := M 34 j ^^^ -1) ⟨h0i, h3.2⟩
    unfold aHm
    rw [d1, d2, on_m q1, gw_bdS, on_m q2, gw_bdS, if_pos h0, if_neg c, (on_all k1 q1).1, (on_all k2 q2).1]
    rfl
theorem on_nI {k : Nat} (h : k < 256) : ∃ a, a ≤ 8 ∧ aOn k = nI a := ps_nI (n := 8) (on_all k h).2.2 (by omega)
theorem hm_no (hT : rT S M) {k1 k2 : Nat} (q1 : k1 < 256) (q2 : k2 < 256) : ¬ aOn k1 * M 3 5 + aOn k2 * M 3 6 = -4 := by
  obtain ⟨a, ha, ea⟩ := on_nI q1
  obtain ⟨b, hb, eb⟩ := on_nI q2
  obtain ⟨c, hc, ec⟩ := ps_nI (x := M 3 5) (n := 999) (hT 5 (by omega)).2.1 (by omega)
  obtain ⟨d, hd, ed⟩ := ps_nI (x := M 3 6) (n := 999) (hT 6 (by omega)).2.1 (by omega)
  have m : ∀ x y : Nat, nI x * nI y = nI (x * y) := fun x y => (Int32.ofNat_mul x y).symm
  have h1 : a * c ≤ 8 * 999 := Nat.mul_le_mul ha hc
  have h2 : b * d ≤ 8 * 999 := Nat.mul_le_mul hb hd
  rw [ea, eb, ec, ed, m, m, nI_add]
  intro e
  have e2 := congrArg Int32.toInt e
  rw [nI_toInt (by omega), show (-4 : Int32).toInt = -4 by decide] at e2
  omega
theorem hm_class (hA : rA w np nb S M) (hT : rT S M) (hO : rO S M) (hi : i < np) (hj : j < nb) (h8 : S (2 * j + 31) 8 = nI i) (h12 : S (2 * j + 31) 12 = x3) (h13 : S (2 * j + 31) 13 = x2) (h3 : -1 ≤ x3.toInt ∧ x3.toInt ≤ 4095) (h2 : 0 ≤ x2.toInt ∧ x2.toInt ≤ 399) : f_X2_owedFor (nI j) S = some (M 3 2 * (if x2 ≤ M 27 j + aPo M i j then 0 else x2 - (M 27 j + aPo M i j)) + if x3 = -1 then 0 else aHm M j x3) := by
  have hb := hA.b hj
  obtain ⟨p1, p2, p3⟩ := hA.po hO hi hj
  have hl : f_X2_daysLate (nI j) S = some (if x2 ≤ M 27 j + aPo M i j then 0 else x2 - (M 27 j + aPo M i j)) := by
    unfold f_X2_daysLate
    have h27 : rg 20 380 (M 27 j) := hb.2.2.2.2.2.2.2.1
    have ey : (M 27 j + aPo M i j).toInt = (M 27 j).toInt + (aPo M i j).toInt := by
      have := h27.1; have := h27.2; have := p3.1; have := p3.2
      rw [Int32.toInt_add, Int.bmod_eq_of_le] <;> omega
    have e1 : aLa M i j - M 3 1 = M 27 j + aPo M i j := by
      unfold aLa
      rw [Int32.add_sub_cancel]
    rw [gw_gdT (hA.nb1 hj), gw_gdT (hA.gb hj), hA.cb hj, h8, if_neg (hA.np1 hi), (hA.la hT hO hi hj).1, gw_bdS, hT.t1, gw_bdS, gw_letS, h13, e1, hm_late h2 (by have := h27.1; have := h27.2; have := p3.1; have := p3.2; omega)]
  unfold f_X2_owedFor f_X2_harmOf
  rw [hl, hT.t2, hT.t5, hT.t6, gw_gdT (hA.nb1 hj), gw_gdT (hA.gb hj), hA.cb hj, h12, hb.2.2.2.2.1.2]
  simp only [gw_bdS]
  by_cases c : x3 = -1
  · rw [if_pos c, gw_bdS, if_pos rfl, if_pos c]
  · have h0i : 0 ≤ x3.toInt := by
      have : ¬ x3.toInt = -1 := fun e => c (Int32.toInt_inj.mp (by rw [e, pz_m1]))
      omega
    obtain ⟨⟨k1, q1, d1⟩, k2, q2, d2⟩ := on_and (x := x3) (y := M 34 j ^^^ -1) ⟨h0i, h3.2⟩
    unfold aHm
    rw [if_neg c, if_neg c, if_neg c, gw_letS, d1, d2, on_c q1, on_c q2, gw_bdS, gw_bdS, gw_bdS, (on_all k1 q1).1, (on_all k2 q2).1, if_neg (hm_no hT q1 q2)]
    rfl
theorem hm_rel (hA : rA w np nb S M) (hi : i < np) (hj : j < nb) (hq : M 32 j = nI i) (hw : w ≤ 2000) (L H O : Int32) : rA (w + 1) np nb (gw_up (gw_up (gw_up (gw_up S (2 * j + 31) 9 2) (2 * j + 31) 13 x2) (2 * j + 31) 12 x3) (2 * i + 30) 9 (M 15 i + 1)) (gw_up (gw_up (gw_up (gw_up (gw_up M 33 j 2) 15 i (M 15 i + 1)) 36 j L) 37 j H) 38 j O) := by
  have hp := hA.mono.p hi
  have hb := hA.b hj
  have h15 := (hA.p hi).2.2.2.2.2.1
  have e15 : (M 15 i + 1).toInt = (M 15 i).toInt + 1 := by
    have e1 : (1 : Int32).toInt = 1 := pz_1
    have := h15.1; have := h15.2
    rw [Int32.toInt_add, e1, Int.bmod_eq_of_le] <;> omega
  have h1 : rA (w + 1) np nb (gw_up S (2 * i + 30) 9 (M 15 i + 1)) (gw_up M 15 i (M 15 i + 1)) := by
    refine hA.mono.setP hi (fun r hr => gw_upN hr) (fun r hr => gw_upN (by omega)) (fun r h1 h2 b hb => ?_) ?_
    · by_cases e : r = 15
      · subst e; rw [gw_upE, gw_ru hb]
      · rw [gw_upN e]
    · unfold rP
      rw [gw_upE, gw_upN (show 7 ≠ 15 by omega), gw_upN (show 8 ≠ 15 by omega), gw_upN (show 9 ≠ 15 by omega), gw_upN (show 10 ≠ 15 by omega), gw_upN (show 11 ≠ 15 by omega), gw_upN (show 12 ≠ 15 by omega), gw_upN (show 13 ≠ 15 by omega), gw_upN (show 16 ≠ 15 by omega), gw_upN (show 14 ≠ 15 by omega), gw_upN (show 17 ≠ 15 by omega), gw_upN (show 18 ≠ 15 by omega), gw_upE, gw_rs, gw_rs]
      obtain ⟨q1, ⟨q2, q3, q4, q5⟩, q6, q7, q8, q9, q10⟩ := hp
      exact ⟨q1, ⟨q2, q3, rfl, q5⟩, q6, q7, q8, ⟨by have := h15.1; omega, by have := h15.2; omega⟩, q10⟩
  refine h1.setB hj (fun r hr => ?_) (fun r hr => ?_) (fun r q1 q2 b hb => ?_) ?_
  · by_cases e : r = 2 * i + 30
    · subst e; rw [gw_upE, gw_upE, gw_upN hr, gw_upN hr, gw_upN hr]
    · rw [gw_upN e, gw_upN e, gw_upN hr, gw_upN hr, gw_upN hr]
  · rw [gw_upN (by omega), gw_upN (by omega), gw_upN (by omega)]
    by_cases e : r = 15
    · subst e; rw [gw_upE, gw_upE, gw_upN (by omega)]
    · rw [gw_upN e, gw_upN e, gw_upN (by omega)]
  · rw [gw_upN (by omega), gw_upN (by omega), gw_upN (by omega), gw_upN (by omega), gw_upN (show r ≠ 15 by omega)]
    by_cases e : r = 33
    · subst e; rw [gw_upE, gw_ru hb]
    · rw [gw_upN e]
  · unfold rB
    have u : ∀ r, r ≠ 33 → r ≠ 15 → r < 36 → gw_up (gw_up (gw_up (gw_up (gw_up M 33 j 2) 15 i (M 15 i + 1)) 36 j L) 37 j H) 38 j O r = M r := fun r h1 h2 h3 => by rw [gw_upN (by omega), gw_upN (by omega), gw_upN (by omega), gw_upN h2, gw_upN h1]
    rw [u 25 (by omega) (by omega) (by omega), u 26 (by omega) (by omega) (by omega), u 27 (by omega) (by omega) (by omega), u 28 (by omega) (by omega) (by omega), u 29 (by omega) (by omega) (by omega), u 30 (by omega) (by omega) (by omega), u 31 (by omega) (by omega) (by omega), u 32 (by omega) (by omega) (by omega), u 34 (by omega) (by omega) (by omega), u 35 (by omega) (by omega) (by omega), gw_upN (show 33 ≠ 38 by omega), gw_upN (show 33 ≠ 37 by omega), gw_upN (show 33 ≠ 36 by omega), gw_upN (show 33 ≠ 15 by omega), gw_upE, gw_rs, gw_upN (show 2 * j + 31 ≠ 2 * i + 30 by omega), gw_upE, gw_upE, gw_upE]
    obtain ⟨q1, q2, q3, ⟨q4, q5⟩, q6⟩ := hb
    exact ⟨q1, q2, q3, ⟨rfl, Or.inr ⟨Or.inr rfl, by rw [hq]; exact hA.np1 hi⟩⟩, q6⟩
theorem so_home (hw : w ≤ 2000) (h : rR w S M) : gw_ex (w + 1) (f_X8_home x1 x2 x3 S) (f_X9_home x1 x2 x3 M) := by
  have h0 := h.mono
  obtain ⟨np, nb, t, hA, hT, hY, hO, hS, hI, hL⟩ := h
  unfold f_X8_home f_X9_home
  rcases hA.1.booking x1 with ⟨j, hj, rfl, e1, e2⟩ | ⟨e1, e2⟩
  · have hb := hA.b hj
    rw [e1, e2, gw_bdS, gw_bdS, if_neg (hA.nb1 hj), if_neg pn_10, ps_isDay, ps_br, ps_in, ps_br, ps_isIn, ps_br, ps_in, ps_br, pz_m1, pz_4095, pq_0, pq_399, pq_m1, pq_4095, gw_gdT (hA.gb hj), gw_gdT (hA.inb hj), gw_letS, gw_letS, hA.cb hj, hb.2.2.1.1]
    by_cases c : 0 ≤ x2.toInt ∧ x2.toInt ≤ 399
    · rw [if_pos c, if_pos c]
      by_cases c3 : -1 ≤ x3.toInt ∧ x3.toInt ≤ 4095
      · rw [if_pos c3, if_pos c3]
        rcases hb.2.2.1.2 with q | ⟨i, hi, q⟩
        · have hs : ¬ M 33 j = 1 := by
            rcases hb.2.2.2.1.2 with e | ⟨-, e⟩
            · rw [e]; decide
            · exact absurd q e
          unfold f_X9_home_b66
          rw [if_pos q, if_pos ((hA.had hj).2.mpr q), gw_gdT (hA.inb hj), hA.cb hj, if_neg hs]; exact gx rfl h0
        · have hn : ¬ M 32 j = -1 := by rw [q]; exact hA.np1 hi
          rw [if_neg hn, if_neg (fun q => hn ((hA.had hj).2.mp q)), q, (hA.fa hT hO hi hj).1, (hA.fa hT hO hi hj).2, gw_bdS, gw_bdS, hb.2.2.2.1.1]
          by_cases c4 : aFa M i j ≤ x2
          · rw [if_pos c4, if_pos c4]
            unfold f_X9_home_b66
            rw [gw_gdT (hA.inb hj), hA.cb hj]
            by_cases c5 : M 33 j = 1
            · rw [if_pos c5, if_pos c5]
              have hp := hA.p hi
              obtain ⟨p1, p2, p3⟩ := hA.po hO hi hj
              have e15 : gw_up M 33 j 2 15 i = M 15 i := rfl
              have ep : f_X9_postOf (nI i) (nI j) (gw_up (gw_up M 33 j 2) 15 i (M 15 i + 1)) = some (aPo M i j) := p2
              have e27 : gw_up (gw_up M 33 j 2) 15 i (M 15 i + 1) 27 j = M 27 j := rfl
              rw [gw_letS, gw_gdT (hA.inp hi), gw_letS, hA.cp hi, e15, ep, gw_bdS, gw_letS, e27]
              have el : (if x2 ≤ M 27 j + aPo M i j then f_X9_home_b133 (nI j) x3 0 (nI j) (gw_up (gw_up M 33 j 2) 15 i (M 15 i + 1)) else f_X9_home_b133 (nI j) x3 (x2 - (M 27 j + aPo M i j)) (nI j) (gw_up (gw_up M 33 j 2) 15 i (M 15 i + 1))) = f_X9_home_b133 (nI j) x3 (if x2 ≤ M 27 j + aPo M i j then 0 else x2 - (M 27 j + aPo M i j)) (nI j) (gw_up (gw_up M 33 j 2) 15 i (M 15 i + 1)) := by split <;> rfl
              rw [el, hm_model (M2 := gw_up (gw_up M 33 j 2) 15 i (M 15 i + 1)) hA hO hi hj c3 _ rfl rfl rfl]
              generalize hLd : (if x2 ≤ M 27 j + aPo M i j then 0 else x2 - (M 27 j + aPo M i j)) = L
              generalize hOd : (M 3 2 * L + if x3 = -1 then 0 else aHm M j x3) = O
              have hR := hm_rel (x2 := x2) (x3 := x3) hA hi hj q hw L (aHm M j x3) O
              have gb : ∀ S1 : gw_S, S1 29 = S 29 → (nI j).toNatClampNeg < gw_nb S1 := fun S1 e => by
                have := hA.gb hj
                unfold gw_nb at this ⊢
                rw [e]; exact this
              have gp : ∀ S1 : gw_S, S1 29 = S 29 → i < gw_np S1 := fun S1 e => by
                have := hA.gp hi
                unfold gw_np at this ⊢
                rw [e, ← hA.cp hi]; exact this
              have e9 : gw_up (gw_up (gw_up S (2 * j + 31) 9 2) (2 * j + 31) 13 x2) (2 * j + 31) 12 x3 (2 * i + 30) 9 = M 15 i := by rw [gw_upN (by omega), gw_upN (by omega), gw_upN (by omega)]; exact hp.2.1.2.2.1
              unfold f_X0_comeHome
              rw [gw_gdT (hA.gb hj), gw_letS, gw_gdT (gb _ (gw_upN (by omega))), gw_letS, gw_gdT (gb _ (by rw [gw_upN (by omega), gw_upN (by omega)])), gw_letS, gw_bdS, hA.cb hj, gw_gdT (gp _ (by rw [gw_upN (by omega), gw_upN (by omega), gw_upN (by omega)])), gw_letS, e9]
              have hz : rR (w + 1) (gw_up (gw_up (gw_up (gw_up S (2 * j + 31) 9 2) (2 * j + 31) 13 x2) (2 * j + 31) 12 x3) (2 * i + 30) 9 (M 15 i + 1)) (gw_up (gw_up (gw_up (gw_up (gw_up M 33 j 2) 15 i (M 15 i + 1)) 36 j L) 37 j (aHm M j x3)) 38 j O) := rR.of hR hT hY hO hS hI hL (fun r hr => by rw [gw_upN (by omega), gw_upN (by omega), gw_upN (by omega), gw_upN (by omega)]) (fun r h1 h2 => by rw [gw_upN (by omega), gw_upN (by omega), gw_upN (by omega), gw_upN (by omega), gw_upN (by omega)])
              have hT' : rT (gw_up (gw_up (gw_up (gw_up S (2 * j + 31) 9 2) (2 * j + 31) 13 x2) (2 * j + 31) 12 x3) (2 * i + 30) 9 (M 15 i + 1)) (gw_up (gw_up (gw_up (gw_up (gw_up M 33 j 2) 15 i (M 15 i + 1)) 36 j L) 37 j (aHm M j x3)) 38 j O) := hT.fr (by rw [gw_upN (by omega), gw_upN (by omega), gw_upN (by omega), gw_upN (by omega)]) rfl rfl rfl
              have hO' : rO (gw_up (gw_up (gw_up (gw_up S (2 * j + 31) 9 2) (2 * j + 31) 13 x2) (2 * j + 31) 12 x3) (2 * i + 30) 9 (M 15 i + 1)) (gw_up (gw_up (gw_up (gw_up (gw_up M 33 j 2) 15 i (M 15 i + 1)) 36 j L) 37 j (aHm M j x3)) 38 j O) := hO.fr (by rw [gw_upN (by omega), gw_upN (by omega), gw_upN (by omega), gw_upN (by omega)]) rfl
              have hoc := hm_class (x2 := x2) (x3 := x3) hR hT' hO' hi hj (by rw [gw_upN (by omega), gw_upE, gw_ru (by omega), gw_upE, gw_ru (by omega), gw_upE, gw_ru (by omega)]; rw [hb.2.2.1.1]; exact q) (by rw [gw_upN (by omega), gw_upE, gw_rs]) (by rw [gw_upN (by omega), gw_upE, gw_ru (by omega), gw_upE, gw_rs]) c3 c
              have hj29 : j < gw_nb (gw_up (gw_up (gw_up (gw_up S (2 * j + 31) 9 2) (2 * j + 31) 13 x2) (2 * j + 31) 12 x3) (2 * i + 30) 9 (M 15 i + 1)) := by have := hR.gb hj; rw [hA.cb hj] at this; exact this
              rw [hoc, gw_bdS, gw_gdT hj29]
              refine gx ?_ hz
              have e10 : gw_up (gw_up (gw_up (gw_up S (2 * j + 31) 9 2) (2 * j + 31) 13 x2) (2 * j + 31) 12 x3) (2 * i + 30) 9 (M 15 i + 1) (2 * j + 31) 10 = M 35 j := by rw [gw_upN (by omega), gw_upE, gw_ru (by omega), gw_upE, gw_ru (by omega), gw_upE, gw_ru (by omega)]; exact hb.2.2.2.2.1.1
              rw [e10, ← hOd, ← hLd]
              rfl
            · rw [if_neg c5, if_neg c5]; exact gx rfl h0
          · rw [if_neg c4, if_neg c4]; exact gx rfl h0
      · rw [if_neg c3, if_neg c3]; exact gx rfl h0
    · rw [if_neg c, if_neg c]; exact gx rfl h0
  · rw [e1, e2, gw_bdS, gw_bdS, if_pos rfl, if_pos rfl]; exact gx rfl h0
end RRD
section RRE
variable {w np nb t i j a f : Nat} {S M S' M' : gw_S} {x k x1 x2 x3 x4 x5 x6 u z : Int32}
/-- loops over all BOOKINGS -/
theorem pn_ge {a n : Nat} (h : a < n) (hn : n < 2 ^ 31) : ¬ nI n ≤ nI a := pn_le h hn
theorem pn_sb {n k : Nat} (h : k + 1 ≤ n) : nI (n - (k + 1)) + (1 : Int32) = nI (n - k) := pn_s h
abbrev aKn (M : gw_S) (j : Nat) (d : Int32) : Prop := M 29 j ≤ d ∧ (¬ 0 ≤ M 31 j ∨ d < M 31 j)
theorem rA.known (h : rA w np nb S M) (hj : j < nb) : f_X0_isKnownOn (nI j) x1 S = some (if aKn M j x1 then 1 else 0) := by
  have hb := h.b hj
  unfold f_X0_isKnownOn
  rw [gw_gdT (h.gb hj), h.off hj, h.cb hj, hb.1.2.2.2.2.2.1]
  by_cases c1 : x1 < M 29 j
  · rw [if_pos c1, if_neg (fun q => by have := q.1; rw [ps_leI] at this; rw [ps_ltI] at c1; omega)]
  · have c1' : M 29 j ≤ x1 := by rw [ps_leI]; rw [ps_ltI] at c1; omega
    rw [if_neg c1]
    by_cases c2 : 0 ≤ M 31 j
    · have e7 : S (2 * j + 31) 7 = M 31 j := by
        rcases hb.2.1 with ⟨q1, q2⟩ | ⟨q1, q2⟩
        · rw [q1] at c2; exact absurd c2 (by decide)
        · exact q2
      rw [if_pos c2, gw_bdS, if_neg pn_10, e7]
      by_cases c3 : M 31 j ≤ x1
      · rw [if_pos c3, if_neg (fun q => by rcases q.2 with q | q; exact q c2; rw [ps_leI] at c3; rw [ps_ltI] at q; omega)]
      · rw [if_neg c3, if_pos ⟨c1', Or.inr (by rw [ps_leI] at c3; rw [ps_ltI]; omega)⟩]
    · rw [if_neg c2, gw_bdS, if_pos rfl, if_pos ⟨c1', Or.inl c2⟩]
theorem kn_c (hA : rA w np nb S M) (hj : j < nb) (n : Nat) (p q v : Int32) : f_X2_knownOn_b6 S (n + 1) x1 p q v (nI j) = f_X2_knownOn_b6 S n x1 p q (if aKn M j x1 ∧ (p.toInt ≤ (M 27 j).toInt ∧ (M 27 j).toInt ≤ q.toInt) then v + 1 else v) (nI (j + 1)) := by
  have hnb := hA.1.1.2
  have hb := hA.b hj
  rw [f_X2_knownOn_b6, hA.1.2.1.2.1, if_neg (pn_le hj (by omega)), hA.1.bookingAt hj, gw_bdS, if_neg (hA.nb1 hj), gw_gdT (hA.gb hj), hA.known hj, ps_br, hA.cb hj, hb.1.2.2.2.1, ps_isIn, ps_br]
  unfold f_X2_knownOn_b53
  rw [gw_letS, gw_letS, gw_letS, pn_a1]
  by_cases c : aKn M j x1
  · rw [if_pos c]
    by_cases c2 : p.toInt ≤ (M 27 j).toInt ∧ (M 27 j).toInt ≤ q.toInt
    · rw [if_pos c2, if_pos ⟨c, c2⟩]
    · rw [if_neg c2, if_neg (fun q => c2 q.2)]
  · rw [if_neg c, if_neg (fun q => c q.1)]
theorem kn_m (hA : rA w np nb S M) (hj : j < nb) (n : Nat) (v : Int32) : f_X9_asOf_b30 M (n + 1) x1 x2 x3 x4 v (nI j) = f_X9_asOf_b30 M n x1 x2 x3 x4 (if aKn M j x1 ∧ (x2 = 0 ∨ (x3.toInt ≤ (M 27 j).toInt ∧ (M 27 j).toInt ≤ x4.toInt)) then v + 1 else v) (nI (j + 1)) := by
  have hnb := hA.1.1.2
  have z : v + 0 = v := Int32.add_zero v
  have e76 : ∀ t0 : Int32, t0 = 0 ∨ t0 = 1 → f_X9_asOf_b76 M (f_X9_asOf_b30 M n) x1 x2 x3 x4 v (nI j) t0 = f_X9_asOf_b30 M n x1 x2 x3 x4 (if t0 = 1 ∧ (x2 = 0 ∨ (x3.toInt ≤ (M 27 j).toInt ∧ (M 27 j).toInt ≤ x4.toInt)) then v + 1 else v) (nI (j + 1)) := by
    intro t0 ht
    unfold f_X9_asOf_b76 f_X9_asOf_b112 f_X9_asOf_b108 f_X9_asOf_b113
    simp only [gw_letS, z, pn_a1]
    rw [gw_gdT (hA.inb hj), hA.cb hj, ps_in64, ps_br, Int32.toInt_toInt64, Int32.toInt_toInt64, Int32.toInt_toInt64]
    rcases ht with rfl | rfl
    · rw [if_pos rfl, if_neg (fun q => absurd q.1 (by decide))]
    · rw [if_neg pn_10]
      by_cases c : x2 = 0
      · rw [if_pos c, if_pos ⟨rfl, Or.inl c⟩]
      · rw [if_neg c]
        by_cases c2 : x3.toInt ≤ (M 27 j).toInt ∧ (M 27 j).toInt ≤ x4.toInt
        · rw [if_pos c2, if_pos ⟨rfl, Or.inr c2⟩]
        · rw [if_neg c2, if_neg (fun q => by rcases q.2 with q | q; exact c q; exact c2 q)]
  rw [f_X9_asOf_b30, hA.1.2.2.1.2, if_neg (pn_le hj (by omega)), gw_gdT (hA.inb hj), hA.cb hj]
  unfold f_X9_asOf_b75 f_X9_asOf_b71
  rw [e76 0 (Or.inl rfl), e76 1 (Or.inr rfl)]
  have d0 : ∀ X : Prop, ¬ ((0 : Int32) = 1 ∧ X) := fun X q => absurd q.1 (by decide)
  by_cases c1 : x1 < M 29 j
  · rw [if_pos c1, if_neg (d0 _), if_neg (fun q => by have := q.1.1; rw [ps_leI] at this; rw [ps_ltI] at c1; omega)]
  · have c1' : M 29 j ≤ x1 := by rw [ps_leI]; rw [ps_ltI] at c1; omega
    rw [if_neg c1]
    have h31 : M 31 j < 0 ↔ ¬ 0 ≤ M 31 j := by rw [ps_ltI, ps_leI]; omega
    by_cases c2 : 0 ≤ M 31 j
    · rw [if_neg (fun q => h31.mp q c2)]
      by_cases c3 : M 31 j ≤ x1
      · rw [if_pos c3, if_neg (d0 _), if_neg (fun q => by rcases q.1.2 with q | q; exact q c2; rw [ps_leI] at c3; rw [ps_ltI] at q; omega)]
      · have ha : aKn M j x1 := ⟨c1', Or.inr (by rw [ps_leI] at c3; rw [ps_ltI]; omega)⟩
        rw [if_neg c3]
        congr 1
        by_cases c4 : x2 = 0 ∨ (x3.toInt ≤ (M 27 j).toInt ∧ (M 27 j).toInt ≤ x4.toInt)
        · rw [if_pos ⟨rfl, c4⟩, if_pos ⟨ha, c4⟩]
        · rw [if_neg (fun q => c4 q.2), if_neg (fun q => c4 q.2)]
    · have ha : aKn M j x1 := ⟨c1', Or.inl c2⟩
      rw [if_pos (h31.mpr c2)]
      congr 1
      by_cases c4 : x2 = 0 ∨ (x3.toInt ≤ (M 27 j).toInt ∧ (M 27 j).toInt ≤ x4.toInt)
      · rw [if_pos ⟨rfl, c4⟩, if_pos ⟨ha, c4⟩]
      · rw [if_neg (fun q => c4 q.2), if_neg (fun q => c4 q.2)]
theorem kn_l (hA : rA w np nb S M) (p q : Int32) (hpq : ∀ j, j < nb → ((p.toInt ≤ (M 27 j).toInt ∧ (M 27 j).toInt ≤ q.toInt) ↔ (x2 = 0 ∨ (x3.toInt ≤ (M 27 j).toInt ∧ (M 27 j).toInt ≤ x4.toInt)))) : ∀ (k n n' : Nat) (v : Int32), k ≤ nb → k < n → k < n' → ∃ r, f_X2_knownOn_b6 S n x1 p q v (nI (nb - k)) = some r ∧ f_X9_asOf_b30 M n' x1 x2 x3 x4 v (nI (nb - k)) = some r
  | 0, n + 1, n' + 1, v, _, _, _ => by
    have hnb := hA.1.1.2
    rw [f_X2_knownOn_b6, f_X9_asOf_b30, hA.1.2.1.2.1, hA.1.2.2.1.2, if_pos (nI_le (by omega) (by omega)), if_pos (nI_le (by omega) (by omega))]
    exact ⟨_, rfl, rfl⟩
  | k + 1, n + 1, n' + 1, v, hk, hn, hn' => by
    have hj : nb - (k + 1) < nb := by omega
    rw [kn_c hA hj, kn_m hA hj, show nb - (k + 1) + 1 = nb - k by omega]
    have e : (if aKn M (nb - (k + 1)) x1 ∧ (p.toInt ≤ (M 27 (nb - (k + 1))).toInt ∧ (M 27 (nb - (k + 1))).toInt ≤ q.toInt) then v + 1 else v) = if aKn M (nb - (k + 1)) x1 ∧ (x2 = 0 ∨ (x3.toInt ≤ (M 27 (nb - (k + 1))).toInt ∧ (M 27 (nb - (k + 1))).toInt ≤ x4.toInt)) then v + 1 else v := by
      have := hpq _ hj
      by_cases c : aKn M (nb - (k + 1)) x1 ∧ (p.toInt ≤ (M 27 (nb - (k + 1))).toInt ∧ (M 27 (nb - (k + 1))).toInt ≤ q.toInt)
      · rw [if_pos c, if_pos ⟨c.1, this.mp c.2⟩]
      · rw [if_neg c, if_neg (fun q => c ⟨q.1, this.mpr q.2⟩)]
    rw [e]
    exact kn_l hA p q hpq k n n' _ (by omega) (by omega) (by omega)
theorem so_asOf (h : rR w S M) : gw_rd (f_X8_asOf x1 x2 x3 x4 S) (f_X9_asOf x1 x2 x3 x4 M) := by
  obtain ⟨np, nb, t, hA, hT, hY, hO, hS, hI, hL⟩ := h
  have hnb := hA.1.1.2
  have hF : nb < gw_F := Nat.lt_of_le_of_lt hnb (by decide)
  unfold f_X8_asOf f_X9_asOf f_X2_knownOn
  rw [ps_isDay, ps_br, ps_in, ps_br, ps_isIn, ps_br, ps_in, ps_br, pz_0, pz_1, pq_0, pq_1, pq_399]
  by_cases c : 0 ≤ x1.toInt ∧ x1.toInt ≤ 399
  · rw [if_pos c, if_pos c]
    by_cases c2 : 0 ≤ x2.toInt ∧ x2.toInt ≤ 1
    · rw [if_pos c2, if_pos c2]
      by_cases c3 : x2 = 0
      · obtain ⟨r, k1, k2⟩ := kn_l (x1 := x1) (x2 := x2) (x3 := x3) (x4 := x4) hA 20 380 (fun j hj => ⟨fun _ => Or.inl c3, fun _ => by rw [pz_20, pz_380]; exact (hA.b hj).2.2.2.2.2.2.2.1⟩) nb gw_F gw_F 0 (Nat.le_refl nb) hF hF
        rw [Nat.sub_self, show nI 0 = (0 : Int32) from rfl] at k1 k2
        rw [if_pos c3, k1, k2]; exact gr rfl
      · obtain ⟨r, k1, k2⟩ := kn_l (x1 := x1) (x2 := x2) (x3 := x3) (x4 := x4) hA x3 x4 (fun j hj => ⟨fun q => Or.inr q, fun q => by rcases q with q | q; exact absurd q c3; exact q⟩) nb gw_F gw_F 0 (Nat.le_refl nb) hF hF
        rw [Nat.sub_self, show nI 0 = (0 : Int32) from rfl] at k1 k2
        rw [if_neg c3, k1, k2]; exact gr rfl
    · rw [if_neg c2, if_neg c2]; exact gr rfl
  · rw [if_neg c, if_neg c]; exact gr rfl
end RRE
section RRF
variable {w np nb t i j a f : Nat} {S M S' M' : gw_S} {x k x1 x2 x3 x4 x5 x6 u z : Int32}
/-- counts over PIECES -/
def aTP (M : gw_S) (i : Nat) (what : Int32) : Int32 := if what = 1 then (if aRet M i then 1 else 0) else if what = 2 then (if M 17 i = 0 then 0 else 1) else M 15 i
theorem rA.torn (h : rA w np nb S M) (hi : i < np) : f_X4_isTorn (nI i) S = some (if M 17 i = 0 then 0 else 1) := by
  have hp := h.p hi
  unfold f_X4_isTorn
  rw [gw_gdT (h.gp hi), h.cp hi]
  rcases hp.2.2.1 with ⟨q1, q2⟩ | ⟨q1, q2⟩
  · rw [q2, if_pos rfl, if_pos q1]
  · have hz : ¬ S (2 * i + 30) 10 = -4 := fun e => by
      have := hp.2.2.2.2.2.2.2.1
      rw [q2] at e; rw [e] at this; exact absurd this (by decide)
    rw [if_neg hz, if_neg (by rw [q1]; decide)]
theorem p_21 : ¬ (2 : Int32) = 1 := by decide
theorem p_71 : ¬ (7 : Int32) = 1 := by decide
theorem p_72 : ¬ (7 : Int32) = 2 := by decide
theorem p_17 : ¬ (1 : Int32) = 7 := by decide
theorem p_27 : ¬ (2 : Int32) = 7 := by decide
theorem p_65 : ¬ (6 : Int32) = 5 := by decide
theorem br2 {c : Prop} [Decidable c] : (if (if c then (1 : Int32) else 0) = 0 then some (0 : Int32) else some 1) = some (if c then 1 else 0) := by
  by_cases e : c
  · simp [e]
  · simp [e]
theorem br3 {c : Prop} [Decidable c] : (if (if c then (0 : Int32) else 1) = 0 then some (0 : Int32) else some 1) = some (if c then 0 else 1) := by
  by_cases e : c
  · simp [e]
  · simp [e]
theorem tp_c (hA : rA w np nb S M) (hi : i < np) (hw : x1 = 1 ∨ x1 = 2 ∨ x1 = 7) (n : Nat) (v : Int32) : f_X2_tallyPieces_b4 S (n + 1) x1 v (nI i) = f_X2_tallyPieces_b4 S n x1 (v + aTP M i x1) (nI (i + 1)) := by
  have hnp := hA.1.1.1
  have hp := hA.p hi
  have e : f_X4_tally (nI i) x1 S = some (aTP M i x1) := by
    unfold f_X4_tally aTP
    rw [gw_gdT (hA.gp hi), gw_gdT (hA.gp hi), gw_gdT (hA.gp hi), (hA.ret hi).1, hA.torn hi, hA.cp hi, gw_bdS, gw_bdS, br2, br3, hp.2.1.2.2.1]
    rcases hw with rfl | rfl | rfl
    · rw [if_pos rfl, if_pos rfl]
    · rw [if_neg p_21, if_pos rfl, if_neg p_21, if_pos rfl]
    · rw [if_neg p_71, if_neg p_72, if_pos rfl, if_neg p_71, if_neg p_72]
  rw [f_X2_tallyPieces_b4, hA.1.2.1.1, if_neg (pn_le hi (by omega)), hA.1.pieceAt hi, gw_bdS, if_neg (hA.np1 hi), gw_gdT (hA.gp hi), e, gw_bdS, gw_letS]
  unfold f_X2_tallyPieces_b33
  rw [gw_letS, pn_a1]
theorem tp_m (hA : rA w np nb S M) (hi : i < np) (hw : x1 = 1 ∨ x1 = 2 ∨ x1 = 7) (n : Nat) (v : Int32) : f_X9_count_b55 M (n + 1) x1 v (nI i) = f_X9_count_b55 M n x1 (v + aTP M i x1) (nI (i + 1)) := by
  have hnp := hA.1.1.1
  rw [f_X9_count_b55, hA.1.2.2.1.1, if_neg (pn_le hi (by omega)), (hA.ret hi).2, gw_bdS]
  unfold f_X9_count_b108 f_X9_count_b104 f_X9_count_b109 aTP
  simp only [gw_letS, pn_a1]
  rw [gw_gdT (hA.inp hi), gw_gdT (hA.inp hi), hA.cp hi]
  rcases hw with rfl | rfl | rfl
  · rw [if_neg p_17, if_pos rfl, if_pos rfl]
    by_cases c : aRet M i
    · rw [if_pos c, if_neg pn_10]
    · rw [if_neg c, if_pos rfl]
  · rw [if_neg p_27, if_neg p_21, if_neg p_21, if_pos rfl]
    by_cases c : M 17 i = 0
    · rw [if_pos c, if_pos c]
    · rw [if_neg c, if_neg c]
  · rw [if_pos rfl, if_neg p_71, if_neg p_72]
theorem tp_l (hA : rA w np nb S M) (hw : x1 = 1 ∨ x1 = 2 ∨ x1 = 7) : ∀ (k n n' : Nat) (v : Int32), k ≤ np → k < n → k < n' → ∃ r, f_X2_tallyPieces_b4 S n x1 v (nI (np - k)) = some r ∧ f_X9_count_b55 M n' x1 v (nI (np - k)) = some r
  | 0, n + 1, n' + 1, v, _, _, _ => by
    have hnp := hA.1.1.1
    rw [f_X2_tallyPieces_b4, f_X9_count_b55, hA.1.2.1.1, hA.1.2.2.1.1, if_pos (nI_le (by omega) (by omega)), if_pos (nI_le (by omega) (by omega))]
    exact ⟨_, rfl, rfl⟩
  | k + 1, n + 1, n' + 1, v, hk, hn, hn' => by
    have hj : np - (k + 1) < np := by omega
    rw [tp_c hA hj hw, tp_m hA hj hw, show np - (k + 1) + 1 = np - k by omega]
    exact tp_l hA hw k n n' _ (by omega) (by omega) (by omega)
/-- counts over BOOKINGS -/
def aTB (M : gw_S) (j : Nat) (what : Int32) : Int32 := if what = 5 then (if 0 ≤ M 31 j then 1 else 0) else (if M 32 j = -1 then 0 else 1)
theorem tb_c (hA : rA w np nb S M) (hj : j < nb) (hw : x1 = 5 ∨ x1 = 6) (n : Nat) (v : Int32) : f_X2_tallyBookings_b4 S (n + 1) x1 v (nI j) = f_X2_tallyBookings_b4 S n x1 (v + aTB M j x1) (nI (j + 1)) := by
  have hnb := hA.1.1.2
  have hb := hA.b hj
  have e : f_X0_tally (nI j) x1 S = some (aTB M j x1) := by
    unfold f_X0_tally aTB
    rw [gw_gdT (hA.gb hj), gw_gdT (hA.gb hj), hA.off hj, hA.cb hj, gw_bdS, br2, hb.2.2.1.1]
    rcases hw with rfl | rfl
    · rw [if_pos rfl, if_pos rfl]
    · rw [if_neg p_65, if_pos rfl, if_neg p_65]
      split <;> rfl
  rw [f_X2_tallyBookings_b4, hA.1.2.1.2.1, if_neg (pn_le hj (by omega)), hA.1.bookingAt hj, gw_bdS, if_neg (hA.nb1 hj), gw_gdT (hA.gb hj), e, gw_bdS, gw_letS]
  unfold f_X2_tallyBookings_b33
  rw [gw_letS, pn_a1]
theorem tb_m (hA : rA w np nb S M) (hj : j < nb) (hw : x1 = 5 ∨ x1 = 6) (n : Nat) (v : Int32) : f_X9_count_b131 M (n + 1) x1 v (nI j) = f_X9_count_b131 M n x1 (v + aTB M j x1) (nI (j + 1)) := by
  have hnb := hA.1.1.2
  have h31 : M 31 j < 0 ↔ ¬ 0 ≤ M 31 j := by rw [ps_ltI, ps_leI]; omega
  have h32 := (hA.had hj).2
  rw [f_X9_count_b131, hA.1.2.2.1.2, if_neg (pn_le hj (by omega))]
  unfold f_X9_count_b170 f_X9_count_b166 f_X9_count_b171 aTB
  simp only [gw_letS, pn_a1]
  rw [gw_gdT (hA.inb hj), gw_gdT (hA.inb hj), hA.cb hj]
  rcases hw with rfl | rfl
  · rw [if_pos rfl, if_pos rfl]
    by_cases c : 0 ≤ M 31 j
    · rw [if_neg (fun q => h31.mp q c), if_pos c]
    · rw [if_pos (h31.mpr c), if_neg c]
  · rw [if_neg p_65, if_neg p_65]
    by_cases c : M 32 j = -1
    · rw [if_pos (h32.mpr c), if_pos c]
    · rw [if_neg (fun q => c (h32.mp q)), if_neg c]
theorem tb_l (hA : rA w np nb S M) (hw : x1 = 5 ∨ x1 = 6) : ∀ (k n n' : Nat) (v : Int32), k ≤ nb → k < n → k < n' → ∃ r, f_X2_tallyBookings_b4 S n x1 v (nI (nb - k)) = some r ∧ f_X9_count_b131 M n' x1 v (nI (nb - k)) = some r
  | 0, n + 1, n' + 1, v, _, _, _ => by
    have hnb := hA.1.1.2
    rw [f_X2_tallyBookings_b4, f_X9_count_b131, hA.1.2.1.2.1, hA.1.2.2.1.2, if_pos (nI_le (by omega) (by omega)), if_pos (nI_le (by omega) (by omega))]
    exact ⟨_, rfl, rfl⟩
  | k + 1, n + 1, n' + 1, v, hk, hn, hn' => by
    have hj : nb - (k + 1) < nb := by omega
    rw [tb_c hA hj hw, tb_m hA hj hw, show nb - (k + 1) + 1 = nb - k by omega]
    exact tb_l hA hw k n n' _ (by omega) (by omega) (by omega)
theorem so_count (h : rR w S M) : gw_rd (f_X8_count x1 S) (f_X9_count x1 M) := by
  obtain ⟨np, nb, t, hA, hT, hY, hO, hS, hI, ⟨nd, hL⟩⟩ := h
  have hnb := hA.1.1.2
  have hnp := hA.1.1.1
  have hF : nb < gw_F := Nat.lt_of_le_of_lt hnb (by decide)
  have hF' : np < gw_F := Nat.lt_of_le_of_lt hnp (by decide)
  have gp : ∀ x1 : Int32, x1 = 1 ∨ x1 = 2 ∨ x1 = 7 → gw_rd (f_X8_count_b56 S x1) (f_X9_count_b53 M x1 0) := fun x1 hw => by
    unfold f_X8_count_b56 f_X9_count_b53 f_X2_tallyPieces
    obtain ⟨r, k1, k2⟩ := tp_l hA hw np gw_F gw_F 0 (Nat.le_refl np) hF' hF'
    rw [Nat.sub_self, show nI 0 = (0 : Int32) from rfl] at k1 k2
    rw [k1, k2]; exact gr rfl
  have gb : ∀ x1 : Int32, x1 = 5 ∨ x1 = 6 → gw_rd (f_X8_count_b84 S x1) (f_X9_count_b129 M x1 0) := fun x1 hw => by
    unfold f_X8_count_b84 f_X9_count_b129 f_X2_tallyBookings
    obtain ⟨r, k1, k2⟩ := tb_l hA hw nb gw_F gw_F 0 (Nat.le_refl nb) hF hF
    rw [Nat.sub_self, show nI 0 = (0 : Int32) from rfl] at k1 k2
    rw [k1, k2]; exact gr rfl
  unfold f_X8_count f_X9_count
  have gi : ∀ {c : Prop} [Decidable c] {A B C D : Option Int32}, (c → gw_rd A C) → gw_rd B D → gw_rd (if c then A else B) (if c then C else D) := fun {c} _ {A B C D} h1 h2 => by
    by_cases e : c
    · rw [if_pos e, if_pos e]; exact h1 e
    · rw [if_neg e, if_neg e]; exact h2
  rw [hA.1.2.1.1, hA.1.2.2.1.1, hL.1.2.1, hL.1.2.2, hA.1.2.1.2.1, hA.1.2.2.1.2]
  exact gi (fun _ => gr rfl) (gi (fun e => gp _ (Or.inl e)) (gi (fun e => gp _ (Or.inr (Or.inl e))) (gi (fun _ => gr rfl) (gi (fun _ => gr rfl) (gi (fun e => gb _ (Or.inl e)) (gi (fun e => gb _ (Or.inr e)) (gi (fun e => gp _ (Or.inr (Or.inr e))) (gr rfl))))))))
end RRF
section RRG
variable {w np nb t i j a f : Nat} {S M S' M' : gw_S} {x k x1 x2 x3 x4 x5 x6 u z : Int32}
def rC (t : Nat) (S M : gw_S) : Prop := rT S M ∧ rY t S M ∧ rO S M ∧ rS S M ∧ rI S ∧ rL S M
theorem rC.of (h : rC t S M) (q : ∀ r, r < 29 → S' r = S r) (p : ∀ r, ¬ (7 ≤ r ∧ r ≤ 18) → ¬ (25 ≤ r ∧ r ≤ 38) → M' r = M r) : rC t S' M' := by
  obtain ⟨hT, hY, hO, hS, hI, hL⟩ := h
  exact ⟨hT.fr (q 5 (by omega)) (p 1 (by omega) (by omega)) (p 2 (by omega) (by omega)) (p 3 (by omega) (by omega)), hY.fr (by rw [q 1 (by omega)]) (q 2 (by omega)) (by rw [p 0 (by omega) (by omega)]) (p 5 (by omega) (by omega)), hO.fr (q 11 (by omega)) (p 6 (by omega) (by omega)), hS.fr (fun k h1 h2 => q k (by omega)) (p 43 (by omega) (by omega)) (p 44 (by omega) (by omega)) (p 45 (by omega) (by omega)), hI.fr (q 14 (by omega)),
    hL.fr (q 7 (by omega)) (q 8 (by omega)) (q 9 (by omega)) (q 10 (by omega)) (by rw [p 0 (by omega) (by omega)]) (p 19 (by omega) (by omega)) (p 20 (by omega) (by omega)) (p 21 (by omega) (by omega)) (p 22 (by omega) (by omega))⟩
theorem rC.rR (h : rC t S M) (hA : rA w np nb S M) : rR w S M := ⟨np, nb, t, hA, h.1, h.2.1, h.2.2.1, h.2.2.2.1, h.2.2.2.2.1, h.2.2.2.2.2⟩
/-- a BOOKING is given a PIECE, or loses it -/
theorem rA.give (h : rA w np nb S M) (hj : j < nb) (hv : z = -1 ∧ M 33 j = 0 ∨ ∃ i, i < np ∧ z = nI i) : rA w np nb (gw_up S (2 * j + 31) 8 z) (gw_up M 32 j z) := by
  have hb := h.b hj
  refine h.setB hj (fun r hr => gw_upN hr) (fun r hr => gw_upN (by omega)) (fun r h1 h2 b hb => ?_) ?_
  · by_cases e : r = 32
    · subst e; rw [gw_upE, gw_ru hb]
    · rw [gw_upN e]
  · unfold rB
    rw [gw_upE, gw_upN (show 25 ≠ 32 by omega), gw_upN (show 26 ≠ 32 by omega), gw_upN (show 27 ≠ 32 by omega), gw_upN (show 28 ≠ 32 by omega), gw_upN (show 29 ≠ 32 by omega), gw_upN (show 30 ≠ 32 by omega), gw_upN (show 31 ≠ 32 by omega), gw_upN (show 33 ≠ 32 by omega), gw_upN (show 34 ≠ 32 by omega), gw_upN (show 35 ≠ 32 by omega), gw_upE, gw_rs, gw_rs]
    obtain ⟨q1, q2, q3, ⟨q4, q5⟩, q6⟩ := hb
    refine ⟨q1, q2, ⟨rfl, ?_⟩, ⟨q4, ?_⟩, q6⟩
    · rcases hv with ⟨q, -⟩ | q
      · exact Or.inl q
      · exact Or.inr q
    · rcases hv with ⟨-, q⟩ | ⟨i, hi, q⟩
      · exact Or.inl q
      · rcases q5 with q5 | ⟨q5, -⟩
        · exact Or.inl q5
        · exact Or.inr ⟨q5, by rw [q]; exact h.np1 hi⟩
theorem rC.give (h : rC t S M) : rC t (gw_up S (2 * j + 31) 8 z) (gw_up M 32 j z) := h.of (fun r hr => gw_upN (by omega)) (fun r h1 h2 => gw_upN (by omega))
theorem ok_np (h : rA w np nb S M) (hv : z = -1 ∨ ∃ i, i < np ∧ z = nI i) : gw_ok (gw_np S) z := by
  rcases hv with rfl | ⟨i, hi, rfl⟩
  · exact Or.inl rfl
  · exact Or.inr ⟨pn_p0 (by have := h.ip hi; omega), h.gp hi⟩
theorem ok_nb (h : rA w np nb S M) (hv : z = -1 ∨ ∃ i, i < nb ∧ z = nI i) : gw_ok (gw_nb S) z := by
  rcases hv with rfl | ⟨i, hi, rfl⟩
  · exact Or.inl rfl
  · exact Or.inr ⟨pn_p0 (by have := h.ib hi; omega), h.gb hi⟩
theorem te_l (hi : i < np) : ∀ (k n n' : Nat) (v : Int32) (S M : gw_S), k ≤ nb → k < n → k < n' → rA w np nb S M → rC t S M → gw_ex w (f_X2_takeFromNights_b5 n (nI i) x2 v (nI (nb - k)) S) (f_X9_tear_b63 n' (nI i) x2 v (nI (nb - k)) M)
  | 0, n + 1, n' + 1, v, S, M, _, _, _, hA, hC => by
    have hnb := hA.1.1.2
    rw [f_X2_takeFromNights_b5, f_X9_tear_b63, hA.1.2.1.2.1, hA.1.2.2.1.2, if_pos (nI_le (by omega) (by omega)), if_pos (nI_le (by omega) (by omega))]
    exact gx rfl (hC.rR hA)
  | k + 1, n + 1, n' + 1, v, S, M, hk, hn, hn', hA, hC => by
    have hnb := hA.1.1.2
    have hj : nb - (k + 1) < nb := by omega
    obtain ⟨j, ej⟩ : ∃ j, nb - (k + 1) = j := ⟨_, rfl⟩
    have e1 : nI j + (1 : Int32) = nI (nb - k) := by rw [← ej]; exact pn_s hk
    rw [ej] at hj ⊢
    have hb := hA.b hj
    have step : ∀ (v : Int32) (S M : gw_S), rA w np nb S M → rC t S M → gw_ex w (f_X2_takeFromNights_b62 (f_X2_takeFromNights_b5 n) (nI i) x2 v (nI j) S) (f_X9_tear_b115 (f_X9_tear_b63 n') (nI i) x2 v (nI j) M) := fun v S M hA hC => by
      unfold f_X2_takeFromNights_b62 f_X9_tear_b115
      rw [gw_letS, gw_letS, e1]
      exact te_l hi k n n' v S M (by omega) (by omega) (by omega) hA hC
    rw [f_X2_takeFromNights_b5, f_X9_tear_b63, hA.1.2.1.2.1, hA.1.2.2.1.2, if_neg (pn_le hj (by omega)), if_neg (pn_le hj (by omega)), hA.1.bookingAt hj, gw_bdS, if_neg (hA.nb1 hj), gw_gdT (hA.gb hj), gw_gdT (ok_np hA (Or.inr ⟨i, hi, rfl⟩)), gw_gdT (by rw [hA.cb hj, hb.2.2.1.1]; exact ok_np hA hb.2.2.1.2), gw_gdT (hA.inb hj), hA.out hj, hA.cb hj, hb.2.2.1.1, hb.1.2.2.2.1, gw_letS, gw_letS, gw_letS, gw_letS, gw_bdS]
    by_cases c1 : M 32 j = nI i
    · rw [if_pos c1, if_pos c1]
      by_cases c2 : M 27 j < x2
      · rw [if_pos c2, if_pos c2]; exact step v S M hA hC
      · rw [if_neg c2, if_neg c2]
        by_cases c3 : M 33 j = 0
        · rw [if_pos c3, if_pos rfl, if_pos c3]; exact step _ _ _ (hA.give hj (Or.inl ⟨rfl, c3⟩)) hC.give
        · rw [if_neg c3, if_neg pn_10, if_neg c3]; exact step v S M hA hC
    · rw [if_neg c1, if_neg c1]; exact step v S M hA hC
theorem so_tear (h : rR w S M) : gw_ex w (f_X8_tear x1 x2 S) (f_X9_tear x1 x2 M) := by
  have h0 := h
  obtain ⟨np, nb, t, hA, hT, hY, hO, hS, hI, hL⟩ := h
  have hC : rC t S M := ⟨hT, hY, hO, hS, hI, hL⟩
  unfold f_X8_tear f_X9_tear
  rcases hA.1.piece x1 with ⟨i, hi, rfl, e1, e2⟩ | ⟨e1, e2⟩
  · have hp := hA.p hi
    have hnb := hA.1.1.2
    have hF : nb < gw_F := Nat.lt_of_le_of_lt hnb (by decide)
    rw [e1, e2, gw_bdS, gw_bdS, if_neg (hA.np1 hi), if_neg pn_10, ps_isDay, ps_br, ps_in, ps_br, pq_0, pq_399, gw_gdT (hA.gp hi), gw_gdT (hA.inp hi)]
    by_cases c : 0 ≤ x2.toInt ∧ x2.toInt ≤ 399
    · rw [if_pos c, if_pos c]
      have new : gw_ex w (gw_b2 (f_X2_takeFromNights (nI i) x2 (gw_up S (2 * i + 30) 10 x2)) (fun r13 S14 => some (r13, S14))) (f_X9_tear_b44 (nI i) x2 M) := by
        unfold f_X9_tear_b44 f_X2_takeFromNights
        rw [gw_gdT (hA.inp hi), gw_letS, gw_letS, hA.cp hi, show vp_nar .boolean 1 = 1 by decide +kernel]
        have hA' : rA w np nb (gw_up S (2 * i + 30) 10 x2) (gw_up (gw_up M 17 i 1) 18 i x2) := by
          refine hA.setP hi (fun r hr => gw_upN hr) (fun r hr => by rw [gw_upN (by omega), gw_upN (by omega)]) (fun r h1 h2 b hb => ?_) ?_
          · by_cases e : r = 18
            · subst e; rw [gw_upE, gw_ru hb, gw_upN (by omega)]
            · rw [gw_upN e]
              by_cases e : r = 17
              · subst e; rw [gw_upE, gw_ru hb]
              · rw [gw_upN e]
          · unfold rP
            have u : ∀ r, r < 17 → gw_up (gw_up M 17 i 1) 18 i x2 r = M r := fun r hr => by rw [gw_upN (by omega), gw_upN (by omega)]
            rw [u 7 (by omega), u 8 (by omega), u 9 (by omega), u 10 (by omega), u 11 (by omega), u 12 (by omega), u 13 (by omega), u 14 (by omega), u 15 (by omega), u 16 (by omega), gw_upE, gw_upE, gw_rs, gw_rs, gw_upN (show 17 ≠ 18 by omega), gw_upE, gw_rs]
            obtain ⟨q1, q2, q6, q7, q8, q9, q10, q11⟩ := hp
            exact ⟨q1, q2, Or.inr ⟨rfl, rfl⟩, q7, q8, q9, q10, c⟩
        have hC' : rC t (gw_up S (2 * i + 30) 10 x2) (gw_up (gw_up M 17 i 1) 18 i x2) := hC.of (fun r hr => gw_upN (by omega)) (fun r h1 h2 => by rw [gw_upN (by omega), gw_upN (by omega)])
        have := te_l (x2 := x2) hi nb gw_F gw_F 0 _ _ (Nat.le_refl nb) hF hF hA' hC'
        rw [Nat.sub_self, show nI 0 = (0 : Int32) from rfl] at this
        obtain ⟨r, S1, M1, k1, k2, k3⟩ := this
        rw [k1, k2, gw_b2S]
        exact gx rfl k3
      unfold f_X4_isTornBy
      rw [gw_gdT (hA.gp hi), hA.torn hi, hA.cp hi, gw_letS]
      rcases hp.2.2.1 with ⟨q1, q2⟩ | ⟨q1, q2⟩
      · rw [if_pos q1, gw_bdS, if_pos rfl, gw_bdS, if_pos rfl, if_pos q1]; exact new
      · have n17 : ¬ M 17 i = 0 := by rw [q1]; decide
        rw [if_neg n17, gw_bdS, if_neg pn_10, if_neg n17, q2]
        by_cases c2 : x2 < M 18 i
        · rw [if_pos c2, gw_bdS, if_pos rfl, if_pos c2]; exact new
        · rw [if_neg c2, gw_bdS, if_neg pn_10, if_neg c2]; exact gx rfl h0
    · rw [if_neg c, if_neg c]; exact gx rfl h0
  · rw [e1, e2, gw_bdS, gw_bdS, if_pos rfl, if_pos rfl]; exact gx rfl h0
end RRG
section RRH
variable {w np nb t i j c a f : Nat} {S M S' M' : gw_S} {x k x1 x2 x3 x4 x5 x6 u z : Int32}
theorem so_term (h : rR w S M) : gw_rd (f_X8_term x1 S) (f_X9_term x1 M) := by
  obtain ⟨np, nb, t, hA, hT, hY, hO, hS, hI, hL⟩ := h
  unfold f_X8_term f_X9_term f_X7_placeOf f_X9_termOf
  obtain ⟨r, h1, h2, h3⟩ := ze_place (S := S) (M := M) (fun i hi => (hT i hi).2.2.1.symm) x1 8 (Nat.le_refl 8) gw_F (by decide)
  rw [show nI (8 - 8) = (0 : Int32) from rfl] at h1 h2
  rw [h1, h2, gw_bdS, gw_bdS]
  rcases h3 with rfl | ⟨j, hj, rfl⟩
  · rw [if_neg (by decide), if_neg (by decide)]; exact gr rfl
  · rw [if_pos (pn_p0 (by omega)), if_pos (pn_p0 (by omega)), hT.at hj, gw_bdS, gw_gdT (pi_in hj (by omega)), nI_clamp (by omega)]; exact gr rfl
/-- the days AWAY of two BOOKINGS meet -/
abbrev aMe (M : gw_S) (i j c : Nat) : Prop := (M 27 j).toInt - (M 27 c).toInt ≤ (aPo M i j).toInt + (aPo M i c).toInt + (M 3 0).toInt + (M 3 1).toInt ∧ (M 27 c).toInt - (M 27 j).toInt ≤ (aPo M i j).toInt + (aPo M i c).toInt + (M 3 0).toInt + (M 3 1).toInt
theorem pn_add {x y : Int32} (h : -1000000 ≤ x.toInt ∧ x.toInt ≤ 1000000) (h2 : -1000000 ≤ y.toInt ∧ y.toInt ≤ 1000000) : (x + y).toInt = x.toInt + y.toInt := by
  rw [Int32.toInt_add, Int.bmod_eq_of_le] <;> omega
theorem pn_sbi {x y : Int32} (h : -1000000 ≤ x.toInt ∧ x.toInt ≤ 1000000) (h2 : -1000000 ≤ y.toInt ∧ y.toInt ≤ 1000000) : (x - y).toInt = x.toInt - y.toInt := by
  rw [Int32.toInt_sub, Int.bmod_eq_of_le] <;> omega
theorem rT.r0 (h : rT S M) : rg 0 9 (M 3 0) := (h 0 (by omega)).2.1
theorem rT.r1 (h : rT S M) : rg 0 9 (M 3 1) := (h 1 (by omega)).2.1
theorem rT.r4 (h : rT S M) : rg 0 9 (M 3 4) := (h 4 (by omega)).2.1
theorem rA.ni (h : rA w np nb S M) (hj : j < nb) : rg 20 380 (M 27 j) := (h.b hj).2.2.2.2.2.2.2.1
theorem rA.share (h : rA w np nb S M) (hT : rT S M) (hO : rO S M) (hi : i < np) (hj : j < nb) (hc : c < nb) : f_X2_shareDays (nI i) (nI j) (nI c) S = some (if aMe M i j c then 1 else 0) ∧ f_X9_meet (nI i) (nI j) (nI c) M = some (if aMe M i j c then 1 else 0) := by
  have hp := h.p hi
  have hb := h.b hj
  have hb' := h.b hc
  obtain ⟨p1, p2, p3⟩ := h.po hO hi hj
  obtain ⟨q1, q2, q3⟩ := h.po hO hi hc
  have r0 := hT.r0
  have r1 := hT.r1
  have n1 := h.ni hj
  have n2 := h.ni hc
  unfold rg at p3 q3 r0 r1 n1 n2
  constructor
  · unfold f_X2_shareDays
    simp only [gw_gdT (h.np1 hi), gw_gdT (h.gp hi), gw_gdT (h.nb1 hj), gw_gdT (h.gb hj), gw_gdT (h.nb1 hc), gw_gdT (h.gb hc)]
    simp only [h.cp hi, h.cb hj, h.cb hc, hp.1.2.2.2.2.1, hb.1.2.2.2.2.1, hb'.1.2.2.2.2.1, p1, q1, gw_bdS, gw_letS, hT.t0, hT.t1, hb.1.2.2.2.1, hb'.1.2.2.2.1]
    have e1 : (M 27 j - M 27 c).toInt = (M 27 j).toInt - (M 27 c).toInt := pn_sbi (by omega) (by omega)
    have e2 : (((aPo M i j + aPo M i c) + M 3 0) + M 3 1).toInt = (aPo M i j).toInt + (aPo M i c).toInt + (M 3 0).toInt + (M 3 1).toInt := by
      have a1 := pn_add (x := aPo M i j) (y := aPo M i c) (by omega) (by omega)
      have a2 := pn_add (x := aPo M i j + aPo M i c) (y := M 3 0) (by omega) (by omega)
      rw [pn_add (by omega) (by omega)]; omega
    have e3 : (if 0 ≤ M 27 j - M 27 c then M 27 j - M 27 c else 0 - (M 27 j - M 27 c)).toInt = if 0 ≤ (M 27 j).toInt - (M 27 c).toInt then (M 27 j).toInt - (M 27 c).toInt else (M 27 c).toInt - (M 27 j).toInt := by
      by_cases c0 : 0 ≤ M 27 j - M 27 c
      · rw [if_pos c0]; rw [ps_leI, e1, Int32.toInt_zero] at c0; rw [if_pos c0, e1]
      · rw [if_neg c0]; rw [ps_leI, e1, Int32.toInt_zero] at c0; rw [if_neg c0, pn_sbi (by rw [Int32.toInt_zero]; omega) (by omega), e1, Int32.toInt_zero]; omega
    by_cases c1 : aMe M i j c
    · rw [if_pos c1, if_neg]
      rw [ps_ltI, e2, e3]
      split <;> omega
    · rw [if_neg c1, if_pos]
      rw [ps_ltI, e2, e3]
      split <;> omega
  · unfold f_X9_meet
    rw [(h.fa hT hO hi hj).2, (h.fa hT hO hi hc).2, (h.la hT hO hi hj).2, (h.la hT hO hi hc).2, gw_bdS, gw_bdS, gw_bdS, gw_bdS]
    have fa : ∀ j, rg 20 380 (M 27 j) → rg 0 9 (aPo M i j) → (aFa M i j).toInt = (M 27 j).toInt - (M 3 0).toInt - (aPo M i j).toInt := fun j n1 p3 => by
      unfold aFa rg at *
      have a1 := pn_sbi (x := M 27 j) (y := M 3 0) (by omega) (by omega)
      rw [pn_sbi (by omega) (by omega), a1]
    have la : ∀ j, rg 20 380 (M 27 j) → rg 0 9 (aPo M i j) → (aLa M i j).toInt = (M 27 j).toInt + (aPo M i j).toInt + (M 3 1).toInt := fun j n1 p3 => by
      unfold aLa rg at *
      have a1 := pn_add (x := M 27 j) (y := aPo M i j) (by omega) (by omega)
      rw [pn_add (by omega) (by omega), a1]
    have f1 := fa j n1 p3
    have f2 := fa c n2 q3
    have l1 := la j n1 p3
    have l2 := la c n2 q3
    by_cases c1 : aLa M i c < aFa M i j
    · rw [if_pos c1, if_neg]
      rw [ps_ltI] at c1; omega
    · rw [if_neg c1]
      by_cases c2 : aLa M i j < aFa M i c
      · rw [if_pos c2, if_neg]
        rw [ps_ltI] at c2; omega
      · rw [if_neg c2, if_pos]
        rw [ps_ltI] at c1 c2; omega
end RRH
section RRI
variable {w np nb t i j c a f : Nat} {S M S' M' : gw_S} {x k x1 x2 x3 x4 x5 x6 u z : Int32}
/-- whether a PIECE can be worn -/
abbrev aWe (M : gw_S) (i j : Nat) : Prop := ¬ aRet M i ∧ (M 17 i = 0 ∨ M 27 j < M 18 i)
theorem rA.well (h : rA w np nb S M) (hi : i < np) (hj : j < nb) : f_X4_canBeWornOn (nI i) (M 27 j) S = some (if aWe M i j then 1 else 0) ∧ f_X9_isWell (nI i) (nI j) M = some (if aWe M i j then 1 else 0) := by
  have hp := h.p hi
  unfold f_X4_canBeWornOn f_X9_isWell f_X4_isTornBy
  rw [gw_gdT (h.gp hi), gw_gdT (h.gp hi), gw_gdT (h.inp hi), gw_gdT (h.inb hj), (h.ret hi).1, (h.ret hi).2, h.torn hi, gw_bdS, gw_bdS, gw_bdS, h.cp hi, h.cb hj]
  by_cases c1 : aRet M i
  · rw [if_pos c1, if_neg pn_10, if_neg pn_10, if_neg (fun q => q.1 c1)]; exact ⟨rfl, rfl⟩
  · rw [if_neg c1, if_pos rfl, if_pos rfl]
    rcases hp.2.2.1 with ⟨q1, q2⟩ | ⟨q1, q2⟩
    · rw [if_pos q1, if_pos rfl, gw_bdS, if_pos rfl, if_pos q1, if_pos ⟨c1, Or.inl q1⟩]; exact ⟨rfl, rfl⟩
    · have n17 : ¬ M 17 i = 0 := by rw [q1]; decide
      rw [if_neg n17, if_neg pn_10, if_neg n17, q2]
      by_cases c2 : M 27 j < M 18 i
      · rw [if_pos c2, gw_bdS, if_pos rfl, if_neg (show ¬ M 18 i ≤ M 27 j from fun q => by rw [ps_leI] at q; rw [ps_ltI] at c2; omega), if_pos (show aWe M i j from ⟨c1, Or.inr c2⟩)]; exact ⟨rfl, rfl⟩
      · rw [if_neg c2, gw_bdS, if_neg pn_10, if_pos (show M 18 i ≤ M 27 j by rw [ps_leI]; rw [ps_ltI] at c2; omega), if_neg (show ¬ aWe M i j from fun q => by rcases q.2 with q | q; exact n17 q; exact c2 q)]; exact ⟨rfl, rfl⟩
/-- the one that HAS it on days on which another would -/
abbrev aHo (M : gw_S) (i j c : Nat) : Prop := ¬ c = j ∧ M 32 c = nI i ∧ aMe M i j c
theorem ho_c (hA : rA w np nb S M) (hT : rT S M) (hO : rO S M) (hi : i < np) (hj : j < nb) (hc : c < nb) (n : Nat) (v : Int32) : f_X2_holderInTheWay_b5 S (n + 1) (nI i) (nI j) v (nI c) = if aHo M i j c then (if v = -1 then f_X2_holderInTheWay_b5 S n (nI i) (nI j) (nI c) (nI (c + 1)) else some (-2)) else f_X2_holderInTheWay_b5 S n (nI i) (nI j) v (nI (c + 1)) := by
  have hnb := hA.1.1.2
  have hb := hA.b hc
  have hcj : nI c = nI j ↔ c = j := nI_eq (by have := hA.ib hc; omega) (by have := hA.ib hj; omega)
  rw [f_X2_holderInTheWay_b5, hA.1.2.1.2.1, if_neg (pn_le hc (by omega)), hA.1.bookingAt hc, gw_bdS, if_neg (hA.nb1 hc)]
  unfold f_X2_holderInTheWay_b67
  rw [gw_gdT (ok_nb hA (Or.inr ⟨c, hc, rfl⟩)), gw_gdT (ok_nb hA (Or.inr ⟨j, hj, rfl⟩)), gw_gdT (hA.gb hc), gw_gdT (by rw [hA.cb hc, hb.2.2.1.1]; exact ok_np hA hb.2.2.1.2), gw_gdT (ok_np hA (Or.inr ⟨i, hi, rfl⟩)), hA.cb hc, hb.2.2.1.1, (hA.share hT hO hi hj hc).1, ps_br]
  simp only [gw_letS, pn_a1]
  by_cases c1 : c = j
  · rw [if_pos (hcj.mpr c1), if_neg (fun q => q.1 c1)]
  · rw [if_neg (fun q => c1 (hcj.mp q))]
    by_cases c2 : M 32 c = nI i
    · rw [if_pos c2]
      by_cases c3 : aMe M i j c
      · rw [if_pos c3, if_pos (show aHo M i j c from ⟨c1, c2, c3⟩)]
      · rw [if_neg c3, if_neg (fun q => c3 q.2.2)]
    · rw [if_neg c2, if_neg (fun q => c2 q.2.1)]
theorem ho_m (hA : rA w np nb S M) (hT : rT S M) (hO : rO S M) (hi : i < np) (hj : j < nb) (hc : c < nb) (n : Nat) (v : Int32) : f_X9_holderOf_b5 M (n + 1) (nI i) (nI j) v (nI c) = f_X9_holderOf_b5 M n (nI i) (nI j) (if aHo M i j c then (if v = -1 then nI c else -2) else v) (nI (c + 1)) := by
  have hnb := hA.1.1.2
  have hcj : nI c = nI j ↔ c = j := nI_eq (by have := hA.ib hc; omega) (by have := hA.ib hj; omega)
  rw [f_X9_holderOf_b5, hA.1.2.2.1.2, if_neg (pn_le hc (by omega)), gw_gdT (hA.inb hc), hA.cb hc, (hA.share hT hO hi hj hc).2, ps_br]
  unfold f_X9_holderOf_b54 f_X9_holderOf_b55
  simp only [gw_letS, pn_a1]
  by_cases c1 : c = j
  · rw [if_pos (hcj.mpr c1), if_neg (fun q => q.1 c1)]
  · rw [if_neg (fun q => c1 (hcj.mp q))]
    by_cases c2 : M 32 c = nI i
    · rw [if_pos c2]
      by_cases c3 : aMe M i j c
      · rw [if_pos c3, if_pos (show aHo M i j c from ⟨c1, c2, c3⟩)]
        by_cases c4 : v = -1
        · rw [if_pos c4, if_pos c4]
        · rw [if_neg c4, if_neg c4]
      · rw [if_neg c3, if_neg (show ¬ aHo M i j c from fun q => c3 q.2.2)]
    · rw [if_neg c2, if_neg (show ¬ aHo M i j c from fun q => c2 q.2.1)]
theorem ho_2 (hA : rA w np nb S M) (hT : rT S M) (hO : rO S M) (hi : i < np) (hj : j < nb) : ∀ (k n : Nat), k ≤ nb → k < n → f_X9_holderOf_b5 M n (nI i) (nI j) (-2) (nI (nb - k)) = some (-2)
  | 0, n + 1, _, _ => by
    have hnb := hA.1.1.2
    rw [f_X9_holderOf_b5, hA.1.2.2.1.2, if_pos (nI_le (by omega) (by omega))]
  | k + 1, n + 1, hk, hn => by
    have hnb := hA.1.1.2
    have hc : nb - (k + 1) < nb := by omega
    rw [ho_m hA hT hO hi hj hc, show nb - (k + 1) + 1 = nb - k by omega, if_neg (show ¬ (-2 : Int32) = -1 by decide)]
    have e : (if aHo M i j (nb - (k + 1)) then (-2 : Int32) else -2) = -2 := by split <;> rfl
    rw [e]
    exact ho_2 hA hT hO hi hj k n (by omega) (by omega)
def aHp (M : gw_S) (nb i j : Nat) (r : Int32) : Prop := r = -1 ∨ r = -2 ∨ ∃ c, c < nb ∧ r = nI c ∧ aHo M i j c
theorem ho_l (hA : rA w np nb S M) (hT : rT S M) (hO : rO S M) (hi : i < np) (hj : j < nb) : ∀ (k n n' : Nat) (v : Int32), k ≤ nb → k < n → k < n' → (v = -1 ∨ ∃ c, c < nb ∧ v = nI c ∧ aHo M i j c) → ∃ r, f_X2_holderInTheWay_b5 S n (nI i) (nI j) v (nI (nb - k)) = some r ∧ f_X9_holderOf_b5 M n' (nI i) (nI j) v (nI (nb - k)) = some r ∧ aHp M nb i j r
  | 0, n + 1, n' + 1, v, _, _, _, hv => by
    have hnb := hA.1.1.2
    rw [f_X2_holderInTheWay_b5, f_X9_holderOf_b5, hA.1.2.1.2.1, hA.1.2.2.1.2, if_pos (nI_le (by omega) (by omega)), if_pos (nI_le (by omega) (by omega))]
    refine ⟨_, rfl, rfl, ?_⟩
    rcases hv with q | q
    · exact Or.inl q
    · exact Or.inr (Or.inr q)
  | k + 1, n + 1, n' + 1, v, hk, hn, hn', hv => by
    have hnb := hA.1.1.2
    have hc : nb - (k + 1) < nb := by omega
    rw [ho_c hA hT hO hi hj hc, ho_m hA hT hO hi hj hc, show nb - (k + 1) + 1 = nb - k by omega]
    by_cases c1 : aHo M i j (nb - (k + 1))
    · rw [if_pos c1, if_pos c1]
      by_cases c2 : v = -1
      · rw [if_pos c2, if_pos c2]
        exact ho_l hA hT hO hi hj k n n' _ (by omega) (by omega) (by omega) (Or.inr ⟨_, hc, rfl, c1⟩)
      · rw [if_neg c2, if_neg c2, ho_2 hA hT hO hi hj k n' (by omega) (by omega)]
        exact ⟨_, rfl, rfl, Or.inr (Or.inl rfl)⟩
    · rw [if_neg c1, if_neg c1]
      exact ho_l hA hT hO hi hj k n n' _ (by omega) (by omega) (by omega) hv
theorem rA.holder (h : rA w np nb S M) (hT : rT S M) (hO : rO S M) (hi : i < np) (hj : j < nb) : ∃ r, f_X2_holderInTheWay (nI i) (nI j) S = some r ∧ f_X9_holderOf (nI i) (nI j) M = some r ∧ aHp M nb i j r := by
  have hF : nb < gw_F := Nat.lt_of_le_of_lt h.1.1.2 (by decide)
  have := ho_l h hT hO hi hj nb gw_F gw_F (-1) (Nat.le_refl nb) hF hF (Or.inl rfl)
  rw [Nat.sub_self, show nI 0 = (0 : Int32) from rfl] at this
  exact this
/-- whether a PIECE is FREE for a BOOKING -/
theorem rA.free (h : rA w np nb S M) (hT : rT S M) (hO : rO S M) (hi : i < np) (hj : j < nb) : ∃ r, (r = 0 ∨ r = 1) ∧ f_X2_isFree (nI i) (nI j) S = some r ∧ f_X9_isFree (nI i) (nI j) M = some r := by
  obtain ⟨r, q1, q2, -⟩ := h.holder hT hO hi hj
  unfold f_X2_isFree f_X9_isFree
  rw [gw_gdT (h.nb1 hj), gw_gdT (h.gb hj), gw_gdT (h.np1 hi), gw_gdT (h.gp hi), h.cb hj, (h.b hj).1.2.2.2.1, (h.well hi hj).1, (h.well hi hj).2, q1, q2, ps_br, gw_bdS]
  by_cases c1 : aWe M i j
  · rw [if_pos c1]
    by_cases c2 : r = -1
    · rw [if_pos c2]; exact ⟨1, Or.inr rfl, rfl, rfl⟩
    · rw [if_neg c2]; exact ⟨0, Or.inl rfl, rfl, rfl⟩
  · rw [if_neg c1]; exact ⟨0, Or.inl rfl, rfl, rfl⟩
theorem so_free (h : rR w S M) : gw_rd (f_X8_free x1 x2 S) (f_X9_free x1 x2 M) := by
  obtain ⟨np, nb, t, hA, hT, hY, hO, hS, hI, hL⟩ := h
  unfold f_X8_free f_X9_free
  rcases hA.1.piece x1 with ⟨i, hi, rfl, e1, e2⟩ | ⟨e1, e2⟩
  · rcases hA.1.booking x2 with ⟨j, hj, rfl, d1, d2⟩ | ⟨d1, d2⟩
    · obtain ⟨r, -, q1, q2⟩ := hA.free hT hO hi hj
      rw [e1, e2, gw_bdS, gw_bdS, d1, d2, gw_bdS, gw_bdS, if_neg (hA.np1 hi), if_neg (hA.nb1 hj), if_neg pn_10, if_neg pn_10, q1, q2, gw_bdS]
      by_cases c : r = 0
      · rw [if_pos c]; exact gr rfl
      · rw [if_neg c]; exact gr rfl
    · rw [e1, e2, gw_bdS, gw_bdS, d1, d2, gw_bdS, gw_bdS, if_neg (hA.np1 hi), if_pos rfl, if_neg pn_10, if_pos rfl]; exact gr rfl
  · rcases hA.1.booking x2 with ⟨j, hj, rfl, d1, d2⟩ | ⟨d1, d2⟩
    · rw [e1, e2, gw_bdS, gw_bdS, d1, gw_bdS, if_pos rfl, if_pos rfl]; exact gr rfl
    · rw [e1, e2, gw_bdS, gw_bdS, d1, gw_bdS, if_pos rfl, if_pos rfl]; exact gr rfl
end RRI
section RRJ
variable {w np nb t i j c a f : Nat} {S M S' M' : gw_S} {x k x1 x2 x3 x4 x5 x6 u z : Int32}
theorem ab_bits : ∃ r, f_J6_bitCount_0f7a4 x S = some r := ⟨_, rfl⟩
theorem rA.harm (h : rA w np nb S M) (hT : rT S M) (hj : j < nb) : ∃ r, f_X2_harmOf (nI j) S = some r := by
  unfold f_X2_harmOf
  rw [gw_gdT (h.nb1 hj), gw_gdT (h.gb hj), hT.t5, hT.t6]
  split
  · exact ⟨_, rfl⟩
  · rw [gw_letS]
    obtain ⟨r1, e1⟩ := ab_bits (S := S) (x := (S (2 * (nI j).toNatClampNeg + 31) 12 &&& (S (2 * (nI j).toNatClampNeg + 31) 11 ^^^ -1)) &&& 255)
    obtain ⟨r2, e2⟩ := ab_bits (S := S) (x := (S (2 * (nI j).toNatClampNeg + 31) 12 &&& (S (2 * (nI j).toNatClampNeg + 31) 11 ^^^ -1)) >>> ((8 : Int32) &&& 31))
    rw [e1, e2]
    exact ⟨_, rfl⟩
theorem rA.late (h : rA w np nb S M) (hT : rT S M) (hO : rO S M) (hj : j < nb) : ∃ r, f_X2_daysLate (nI j) S = some r := by
  have hb := h.b hj
  unfold f_X2_daysLate
  rw [gw_gdT (h.nb1 hj), gw_gdT (h.gb hj), h.cb hj, hb.2.2.1.1]
  rcases hb.2.2.1.2 with q | ⟨i, hi, q⟩
  · rw [if_pos q]; exact ⟨_, rfl⟩
  · rw [q, if_neg (h.np1 hi), (h.la hT hO hi hj).1, hT.t1]; exact ⟨_, rfl⟩
theorem rA.owed (h : rA w np nb S M) (hT : rT S M) (hO : rO S M) (hj : j < nb) : ∃ r, f_X2_owedFor (nI j) S = some r := by
  obtain ⟨r1, e1⟩ := h.harm hT hj
  obtain ⟨r2, e2⟩ := h.late hT hO hj
  unfold f_X2_owedFor
  rw [e1, e2, hT.t2, gw_bdS, gw_bdS, gw_bdS]
  split <;> exact ⟨_, rfl⟩
/-- about: it answers -/
theorem so_about (h : rR w S M) : (∃ r, f_X8_about x1 x2 S = some r) ∧ ∃ r, f_X9_about x1 x2 M = some r := by
  obtain ⟨np, nb, t, hA, hT, hY, hO, hS, hI, hL⟩ := h
  unfold f_X8_about f_X9_about
  rcases hA.1.booking x1 with ⟨j, hj, rfl, e1, e2⟩ | ⟨e1, e2⟩
  · obtain ⟨r1, h1⟩ := hA.harm hT hj
    obtain ⟨r2, h2⟩ := hA.late hT hO hj
    obtain ⟨r3, h3⟩ := hA.owed hT hO hj
    have g51 : ∃ r, f_X8_about_b51 S x2 (nI j) = some r := by
      unfold f_X8_about_b51
      rw [h1, h2, h3, gw_gdT (hA.nb1 hj), gw_gdT (hA.gb hj), gw_gdT (hA.nb1 hj), gw_gdT (hA.gb hj)]
      repeat' split
      all_goals exact ⟨_, rfl⟩
    have g36 : ∃ r, f_X8_about_b36 S x2 (nI j) = some r := by
      unfold f_X8_about_b36
      rw [gw_gdT (hA.nb1 hj), gw_gdT (hA.gb hj)]
      repeat' split
      all_goals first | exact g51 | exact ⟨_, rfl⟩
    have m50 : ∃ r, f_X9_about_b50 M (nI j) x2 = some r := by
      unfold f_X9_about_b50
      simp only [gw_gdT (hA.inb hj)]
      repeat' split
      all_goals exact ⟨_, rfl⟩
    have m33 : ∃ r, f_X9_about_b33 M (nI j) x2 = some r := by
      unfold f_X9_about_b33
      simp only [gw_gdT (hA.inb hj)]
      repeat' split
      all_goals first | exact m50 | exact ⟨_, rfl⟩
    constructor
    · rw [e1, gw_bdS, if_neg (hA.nb1 hj), ps_isIn, ps_br, gw_gdT (hA.gb hj), hA.out hj, gw_bdS]
      repeat' split
      all_goals first | exact g36 | exact ⟨_, rfl⟩
    · rw [e2, gw_bdS, if_neg pn_10, ps_in, ps_br]
      simp only [gw_gdT (hA.inb hj)]
      repeat' split
      all_goals first | exact m33 | exact ⟨_, rfl⟩
  · rw [e1, e2, gw_bdS, gw_bdS, if_pos rfl, if_pos rfl]; exact ⟨⟨_, rfl⟩, ⟨_, rfl⟩⟩
end RRJ
section RRK
variable {w np nb t i j c a b f nd : Nat} {S M S' M' : gw_S} {x k x1 x2 x3 x4 x5 x6 u z d : Int32}
/-- LIES cleared -/
theorem cl_l : ∀ (k n : Nat) (M : gw_S), k ≤ 6 → k < n → ∃ M1, f_X9_clearLies_b2 n (nI (6 - k)) M = some M1 ∧ (∀ m, 6 - k ≤ m → m < 6 → M1 23 m = (if m = 0 then 0 else -9) ∧ M1 24 m = (if m = 0 then 0 else 9)) ∧ (∀ m, m < 6 - k → M1 23 m = M 23 m ∧ M1 24 m = M 24 m) ∧ ∀ r, r ≠ 23 → r ≠ 24 → M1 r = M r
  | 0, n + 1, M, _, _ => by
    rw [f_X9_clearLies_b2, if_pos (by decide)]
    exact ⟨M, rfl, fun m h1 h2 => absurd h2 (by omega), fun m _ => ⟨rfl, rfl⟩, fun _ _ _ => rfl⟩
  | k + 1, n + 1, M, hk, hn => by
    have hm : 6 - (k + 1) < 6 := by omega
    have hg : gw_in (nI (6 - (k + 1))) 6 := pi_in hm (by omega)
    have h0 : nI (6 - (k + 1)) = 0 ↔ 6 - (k + 1) = 0 := nI_eq (b := 0) (by omega) (by omega)
    have gen : ∀ v1 v2 : Int32, ∃ M1, f_X9_clearLies_b2 n (nI (6 - k)) (gw_up (gw_up M 23 (6 - (k + 1)) v1) 24 (6 - (k + 1)) v2) = some M1 ∧ (∀ m, 6 - (k + 1) ≤ m → m < 6 → (m = 6 - (k + 1) → M1 23 m = v1 ∧ M1 24 m = v2) ∧ (¬ m = 6 - (k + 1) → M1 23 m = (if m = 0 then 0 else -9) ∧ M1 24 m = (if m = 0 then 0 else 9))) ∧ (∀ m, m < 6 - (k + 1) → M1 23 m = M 23 m ∧ M1 24 m = M 24 m) ∧ ∀ r, r ≠ 23 → r ≠ 24 → M1 r = M r := fun v1 v2 => by
      obtain ⟨M1, e, q1, q2, q3⟩ := cl_l k n (gw_up (gw_up M 23 (6 - (k + 1)) v1) 24 (6 - (k + 1)) v2) (by omega) (by omega)
      refine ⟨M1, e, fun m h1 h2 => ⟨fun em => ?_, fun em => q1 m (by omega) h2⟩, fun m hm => ?_, fun r h1 h2 => by rw [q3 r h1 h2, gw_upN h2, gw_upN h1]⟩
      · have := q2 m (by omega)
        rw [this.1, this.2, gw_upN (show 23 ≠ 24 by omega), gw_upE, gw_upE, em, gw_rs, gw_rs]; exact ⟨rfl, rfl⟩
      · have := q2 m (by omega)
        rw [this.1, this.2, gw_upN (show 23 ≠ 24 by omega), gw_upE, gw_upE, gw_ru (by omega), gw_ru (by omega), gw_upN (show 24 ≠ 23 by omega)]; exact ⟨rfl, rfl⟩
    have fin : ∀ v1 v2 : Int32, v1 = (if 6 - (k + 1) = 0 then 0 else -9) → v2 = (if 6 - (k + 1) = 0 then 0 else 9) → ∃ M1, f_X9_clearLies_b2 n (nI (6 - k)) (gw_up (gw_up M 23 (6 - (k + 1)) v1) 24 (6 - (k + 1)) v2) = some M1 ∧ (∀ m, 6 - (k + 1) ≤ m → m < 6 → M1 23 m = (if m = 0 then 0 else -9) ∧ M1 24 m = (if m = 0 then 0 else 9)) ∧ (∀ m, m < 6 - (k + 1) → M1 23 m = M 23 m ∧ M1 24 m = M 24 m) ∧ ∀ r, r ≠ 23 → r ≠ 24 → M1 r = M r := fun v1 v2 e1 e2 => by
      obtain ⟨M1, e, q1, q2, q3⟩ := gen v1 v2
      refine ⟨M1, e, fun m h1 h2 => ?_, q2, q3⟩
      by_cases em : m = 6 - (k + 1)
      · obtain ⟨g1, g2⟩ := (q1 m h1 h2).1 em
        rw [g1, g2, e1, e2, em]; exact ⟨rfl, rfl⟩
      · exact (q1 m h1 h2).2 em
    rw [f_X9_clearLies_b2, if_neg (show ¬ (6 : Int32) ≤ nI (6 - (k + 1)) from pn_le (n := 6) hm (by omega))]
    unfold f_X9_clearLies_b23 f_X9_clearLies_b39
    simp only [gw_gdT hg, gw_letS, pn_s hk, nI_clamp (show 6 - (k + 1) < 2 ^ 31 by omega)]
    by_cases c0 : 6 - (k + 1) = 0
    · rw [if_pos (h0.mpr c0), if_pos (h0.mpr c0)]
      exact fin 0 0 (by rw [if_pos c0]) (by rw [if_pos c0])
    · rw [if_neg (fun q => c0 (h0.mp q)), if_neg (fun q => c0 (h0.mp q))]
      exact fin (-9) 9 (by rw [if_neg c0]) (by rw [if_neg c0])
def lLo (M : gw_S) (m : Nat) : Int := (M 23 m).toInt
def lHi (M : gw_S) (m : Nat) : Int := (M 24 m).toInt
theorem clearLies (M : gw_S) : ∃ M1, f_X9_clearLies M = some M1 ∧ (∀ m, m < 6 → M1 23 m = (if m = 0 then 0 else -9) ∧ M1 24 m = (if m = 0 then 0 else 9)) ∧ ∀ r, r ≠ 23 → r ≠ 24 → M1 r = M r := by
  obtain ⟨M1, e, q1, q2, q3⟩ := cl_l 6 gw_F M (Nat.le_refl 6) (by decide)
  rw [show nI (6 - 6) = (0 : Int32) from rfl] at e
  exact ⟨M1, e, fun m hm => q1 m (by omega) hm, q3⟩
/-- one MAKER is bound by another -/
theorem bind_s (ha : a < 6) (hb : b < 6) (hd : -40 ≤ d.toInt ∧ d.toInt ≤ 40) (hB : ∀ m, m < 6 → -100000 ≤ lLo M m ∧ lLo M m ≤ 100000 ∧ -100000 ≤ lHi M m ∧ lHi M m ≤ 100000) : ∃ r M1, f_X9_bind (nI a) (nI b) d M = some (r, M1) ∧ (∀ m, m < 6 → ¬ m = a → lLo M1 m = lLo M m ∧ lHi M1 m = lHi M m) ∧ lLo M1 a = (if lLo M a < lLo M b + d.toInt - 1 then lLo M b + d.toInt - 1 else lLo M a) ∧ lHi M1 a = (if lHi M b + d.toInt + 1 < lHi M a then lHi M b + d.toInt + 1 else lHi M a) ∧ ((r = 0 ∧ ¬ lLo M a < lLo M b + d.toInt - 1 ∧ ¬ lHi M b + d.toInt + 1 < lHi M a) ∨ (r = 1 ∧ (lLo M a < lLo M b + d.toInt - 1 ∨ lHi M b + d.toInt + 1 < lHi M a))) ∧ ∀ r, r ≠ 23 → r ≠ 24 → M1 r = M r := by
  have hBa := hB a ha
  have hBb := hB b hb
  unfold lLo lHi at *
  have e1 : ((M 23 b + d) - 1).toInt = (M 23 b).toInt + d.toInt - 1 := by
    have := pn_add (x := M 23 b) (y := d) (by omega) (by omega)
    rw [pn_sbi (by omega) (by rw [pz_1]; omega), this, pz_1]
  have e2 : ((M 24 b + d) + 1).toInt = (M 24 b).toInt + d.toInt + 1 := by
    have := pn_add (x := M 24 b) (y := d) (by omega) (by omega)
    rw [pn_add (by omega) (by rw [pz_1]; omega), this, pz_1]
  have h41 : ∀ (v : Int32) (M2 : gw_S), (v = 0 ∨ v = 1) → M2 24 = M 24 → ∃ r M1, f_X9_bind_b41 (nI a) (nI b) d v M2 = some (r, M1) ∧ M1 23 = M2 23 ∧ (∀ m, m < 6 → ¬ m = a → M1 24 m = M 24 m) ∧ (M1 24 a).toInt = (if (M 24 b).toInt + d.toInt + 1 < (M 24 a).toInt then (M 24 b).toInt + d.toInt + 1 else (M 24 a).toInt) ∧ ((¬ (M 24 b).toInt + d.toInt + 1 < (M 24 a).toInt ∧ r = v) ∨ ((M 24 b).toInt + d.toInt + 1 < (M 24 a).toInt ∧ r = 1)) ∧ ∀ r, r ≠ 23 → r ≠ 24 → M1 r = M2 r := by
    intro v M2 hv e24
    unfold f_X9_bind_b41
    rw [gw_gdT (pi_in hb (by omega)), gw_gdT (pi_in ha (by omega)), nI_clamp (by omega), nI_clamp (by omega), e24, gw_gdT hv, gw_letS]
    by_cases c : (M 24 b).toInt + d.toInt + 1 < (M 24 a).toInt
    · rw [if_neg (by rw [ps_leI, e2]; omega)]
      refine ⟨1, _, rfl, gw_upN (by omega), fun m hm hma => by rw [gw_upE, e24, gw_ru hma], by rw [gw_upE, gw_rs, e2, if_pos c], Or.inr ⟨c, rfl⟩, fun r h1 h2 => gw_upN h2⟩
    · rw [if_pos (by rw [ps_leI, e2]; omega)]
      exact ⟨v, M2, rfl, rfl, fun m hm hma => by rw [e24], by rw [e24, if_neg c], Or.inl ⟨c, rfl⟩, fun _ _ _ => rfl⟩
  unfold f_X9_bind
  rw [gw_gdT (pi_in hb (by omega)), gw_gdT (pi_in ha (by omega)), nI_clamp (by omega), nI_clamp (by omega), gw_letS]
  by_cases c : (M 23 a).toInt < (M 23 b).toInt + d.toInt - 1
  · rw [if_neg (by rw [ps_leI, e1]; omega)]
    obtain ⟨r, M1, k1, k2, k3, k4, k5, k6⟩ := h41 1 (gw_up M 23 a ((M 23 b + d) - 1)) (Or.inr rfl) (gw_upN (by omega))
    refine ⟨r, M1, k1, fun m hm hma => ⟨by rw [k2, gw_upE, gw_ru hma], by rw [k3 m hm hma]⟩, by rw [k2, gw_upE, gw_rs, e1, if_pos c], k4, Or.inr ⟨?_, Or.inl c⟩, fun r h1 h2 => by rw [k6 r h1 h2, gw_upN h1]⟩
    rcases k5 with ⟨-, q⟩ | ⟨-, q⟩ <;> exact q
  · rw [if_pos (by rw [ps_leI, e1]; omega)]
    obtain ⟨r, M1, k1, k2, k3, k4, k5, k6⟩ := h41 0 M (Or.inl rfl) rfl
    refine ⟨r, M1, k1, fun m hm hma => ⟨by rw [k2], by rw [k3 m hm hma]⟩, by rw [k2, if_neg c], k4, ?_, k6⟩
    rcases k5 with ⟨q1, q⟩ | ⟨q1, q⟩
    · exact Or.inl ⟨q, c, q1⟩
    · exact Or.inr ⟨q, Or.inr q1⟩
end RRK
