section RPD
variable {w np nb t i j p q c a b f n k nd pl ms : Nat} {S S0 S1 M M0 S' M' : gw_S} {x x1 x2 x3 x4 x5 x6 u z d v r : Int32} {T : List Nat} {l : List (Nat × Nat)}
theorem vS.rfl' : vS S S M M := ⟨⟨rfl, rfl, rfl, rfl, fun _ _ _ => rfl⟩, fun _ _ _ _ => rfl⟩
/-- what is kept, seen from elsewhere -/
theorem iI.fr (hb : nb ≤ 30) (hp : np ≤ 24) (h : iI np nb S M) (v : vS S S' M M') (h17 : M' 17 = M 17) (h18 : M' 18 = M 18) (h32 : M' 32 = M 32) : iI np nb S' M' := by
  obtain ⟨h1, h2, h3⟩ := h
  obtain ⟨⟨v29, v5, v9, v10, vf⟩, vm⟩ := v
  have m := fun r (a : r ≠ 17) (b : r ≠ 18) (c : r ≠ 32) => vm r a b c
  refine ⟨fun x q hx hq e => ?_, fun x y q hx hy hxy hq ex ey => ?_, fun x hx => by rw [m 33 (by omega) (by omega) (by omega)]; exact h3 x hx⟩
  · rw [h32] at e
    rw [m 25 (by omega) (by omega) (by omega), m 26 (by omega) (by omega) (by omega), m 27 (by omega) (by omega) (by omega), h17, h18, fit_fr (by omega) (by rw [v29]) v5 v9 v10 (fun f hf => vf q f hf)]
    exact h1 x q hx hq e
  · rw [h32] at ex ey
    rw [aMe_e (m 6 (by omega) (by omega) (by omega)) (m 3 (by omega) (by omega) (by omega)) (m 11 (by omega) (by omega) (by omega)) (m 28 (by omega) (by omega) (by omega)) (m 27 (by omega) (by omega) (by omega))]
    exact h2 x y q hx hy hxy hq ex ey
theorem vS.scr (q : ∀ r, ¬ (15 ≤ r ∧ r ≤ 19) → S' r = S r) : vS S S' M M := ⟨⟨q 29 (by omega), q 5 (by omega), q 9 (by omega), q 10 (by omega), fun i f _ => by rw [q _ (by omega)]⟩, fun _ _ _ _ => rfl⟩
/-- what is GIVEN, FITS and is FREE -/
theorem gw_gvs (h : cC w np nb S M) (hi : i < np) (hj : j < nb) {K9 : Int32 → Int32 → Int32 → Int32 → Int32 → Option Int32} {l : Int32} : ∃ v2 l2, f_X9_givenOf_b33 M K9 (nI j) (-1) v l (nI i) = f_X9_givenOf_b134 M K9 (nI j) (-1) v2 l2 (nI i) ∧ (v2 = v ∨ (v2 = nI i ∧ aSrc M i j = -1)) := by
  obtain ⟨fv, hv, -, a2, -, a4, -, -⟩ := h.src hi hj
  have e := h.last hi hj
  have hA := h.1
  obtain ⟨fr, g0, -, g2⟩ := hA.free h.2.1 h.2.2.1 hi hj
  obtain ⟨m, sz, hm, em, s1, s2⟩ := hA.offM h.2.2.2 hi hj
  obtain ⟨-, p2, p3⟩ := hA.po h.2.2.1 hi hj
  rw [a2, gw_bdS, g2, gw_bdS] at e
  unfold f_X9_givenOf_b33 f_X9_givenOf_b127
  rw [gw_gdT (hA.inb hj)]
  simp only [hA.cb hj]
  rw [a2, gw_bdS, g2, gw_bdS, gw_gdT (hA.inp hi), hA.cp hi, em, gw_gdT (pi_in hm (by omega)), nI_clamp (by omega), s1, gw_bdS, p2, gw_bdS, gw_letS]
  by_cases c1 : fv = 2
  · rw [if_pos c1] at e
    rw [if_pos c1]
    by_cases c2 : fr = 0
    · rw [if_pos c2]; exact ⟨v, l, rfl, Or.inl rfl⟩
    · rw [if_neg c2] at e
      rw [if_neg c2]
      have es : aSrc M i j = -1 := by
        by_cases q : aSrc M i j = -1
        · exact q
        · rw [if_neg q] at e; exact absurd e (by decide)
      by_cases c3 : v < 0
      · rw [if_pos c3]; exact ⟨_, _, rfl, Or.inr ⟨rfl, es⟩⟩
      · rw [if_neg c3]
        split
        · exact ⟨_, _, rfl, Or.inl rfl⟩
        · exact ⟨_, _, rfl, Or.inr ⟨rfl, es⟩⟩
  · rw [if_neg c1]; exact ⟨v, l, rfl, Or.inl rfl⟩
theorem gw_gvl (h : cC w np nb S M) (hj : j < nb) : ∀ (q n : Nat) (v l : Int32), q ≤ np → q < n → (v = -4 ∨ ∃ p, p < np ∧ v = nI p ∧ aSrc M p j = -1) → ∃ r, f_X9_givenOf_b9 M n (nI j) (-1) v l (nI (np - q)) = some r ∧ (r = -4 ∨ ∃ p, p < np ∧ r = nI p ∧ aSrc M p j = -1)
  | 0, n + 1, v, l, _, _, hv => by
    have hnp := h.1.1.1.1
    rw [f_X9_givenOf_b9, h.1.1.2.2.1.1, if_pos (nI_le (by omega) (by omega))]
    exact ⟨v, rfl, hv⟩
  | q + 1, n + 1, v, l, hq, hn, hv => by
    have hnp := h.1.1.1.1
    obtain ⟨i, ei⟩ : ∃ i, np - (q + 1) = i := ⟨_, rfl⟩
    have hi : i < np := by omega
    have e1 : nI i + (1 : Int32) = nI (np - q) := by rw [← ei]; exact pn_s hq
    obtain ⟨v2, l2, a1, a2⟩ := gw_gvs (v := v) (l := l) (K9 := f_X9_givenOf_b9 M n) h hi hj
    rw [ei, f_X9_givenOf_b9, h.1.1.2.2.1.1, if_neg (pn_le hi (by omega)), if_pos (show (-1 : Int32) < 0 by decide), a1]
    unfold f_X9_givenOf_b134
    rw [gw_letS, e1]
    refine gw_gvl h hj q n v2 l2 (by omega) (by omega) ?_
    rcases a2 with e | ⟨e, es⟩
    · rw [e]; exact hv
    · exact Or.inr ⟨i, hi, e, es⟩
theorem cC.best (h : cC w np nb S M) (hj : j < nb) : (f_X2_bestFor (nI j) (-1) S = some (-1) ∧ ∀ i, i < np → ¬ aSrc M i j = -1) ∨ ∃ p, p < np ∧ f_X2_bestFor (nI j) (-1) S = some (nI p) ∧ aSrc M p j = -1 := by
  have hnp := h.1.1.1.1
  have hF : np < gw_F := Nat.lt_of_le_of_lt hnp (by decide)
  obtain ⟨r, r', b1, b2, b3⟩ := h.1.best h.2.1 h.2.2.1 h.2.2.2 hj (x2 := -1) (Or.inl rfl)
  obtain ⟨q, g1, g2⟩ := gv_l h hj np gw_F (-4) 0 (Nat.le_refl np) hF
  obtain ⟨q2, g3, g4⟩ := gw_gvl h hj np gw_F (-4) 0 (Nat.le_refl np) hF (Or.inl rfl)
  rw [Nat.sub_self, show nI 0 = (0 : Int32) from rfl] at g1 g3
  rw [Nat.sub_self] at g2
  unfold f_X9_givenOf at b2
  rw [b2] at g1 g3
  obtain rfl := Option.some.inj g1
  obtain rfl := Option.some.inj g3
  rcases b3 with ⟨e1, e2⟩ | ⟨p, hp, e1, e2⟩
  · exact Or.inl ⟨by rw [b1, e1], fun i hi => (g2 (by rw [e2]; decide)).2 i (Nat.zero_le i) hi⟩
  · rcases g4 with e | ⟨p', hp', e, es⟩
    · rw [e2] at e
      have := congrArg Int32.toInt e; rw [nI_toInt (by omega), show ((-4 : Int32)).toInt = -4 by decide] at this; omega
    · rw [e2] at e
      have ep := (nI_eq (by omega) (by omega)).mp e
      exact Or.inr ⟨p', hp', by rw [b1, e1, ep], es⟩
/-- give -/
theorem kg_give (h : gK np nb S M) (hI : iI np nb S M) (hb : b < nb) : ∃ r S' M', f_X8_give (nI b) S = some (r, S') ∧ gK np nb S' M' ∧ iI np nb S' M' ∧ vS S S' M M' ∧ cHad (M' 32) nb = cHad (M 32) nb + (if 0 ≤ r then 1 else 0) ∧ (r = -4 → ∀ i, i < np → f_X2_isFree (nI i) (nI b) S' = some 1 → f_X2_fitOf (nI i) (M 25 b) (M 26 b) S' = some 2 → False) := by
  have hA := h.1
  have hnp := hA.1.1.1
  have hnb := hA.1.1.2
  have hc := h.cC
  unfold f_X8_give
  rw [hA.1.bookingAt hb, gw_bdS, if_neg (hA.nb1 hb), gw_gdT (hA.gb hb), (hA.waits hb).1, gw_bdS]
  by_cases c1 : M 32 b = -1 ∧ ¬ 0 ≤ M 31 b
  · have g29 : ∀ z, gw_nb (gw_up S (2 * b + 31) 8 z) = gw_nb S := fun z => by unfold gw_nb; rw [gw_upN (by omega)]
    have gb : ∀ z, (nI b).toNatClampNeg < gw_nb (gw_up S (2 * (nI b).toNatClampNeg + 31) 8 z) := fun z => by
      have := hA.gb hb
      rw [hA.cb hb] at this ⊢
      rw [g29]; exact this
    have s0 := hI.2.2 b hb
    have view : ∀ z, vS S (gw_up S (2 * b + 31) 8 z) M (gw_up M 32 b z) := fun z => ⟨⟨gw_upN (by omega), gw_upN (by omega), gw_upN (by omega), gw_upN (by omega), fun i f _ => by rw [gw_upN (by omega)]⟩, fun r _ _ h => gw_upN h⟩
    have cnt := fun z => cHad_u (H := M 32) (v := z) nb hb
    rw [if_pos c1, if_neg pn_10]
    rcases hc.best hb with ⟨e1, e2⟩ | ⟨p, hp, e1, e2⟩
    · rw [e1, gw_bdS, gw_letS]
      unfold f_X0_pieceNumber
      rw [gw_gdT (gb _), gw_gdT (gb _), hA.cb hb, gw_upE, gw_rs, if_pos rfl, gw_bdS]
      have id : ∀ x, upd (M 32) b (-1) x = M 32 x := fun x => by
        by_cases e : x = b
        · subst e; rw [gw_rs]; exact c1.1.symm
        · rw [gw_ru e]
      have idf : gw_up M 32 b (-1) 32 = M 32 := by rw [gw_upE]; funext x; exact id x
      have hG := h.give hb (Or.inl ⟨rfl, s0⟩)
      have hI' : iI np nb (gw_up S (2 * b + 31) 8 (-1)) (gw_up M 32 b (-1)) := hI.fr hnb hnp (view _) (gw_upN (by omega)) (gw_upN (by omega)) idf
      refine ⟨-4, _, _, rfl, hG, hI', view _, by rw [idf, if_neg (by decide)]; rfl, fun _ i hi hf hs => ?_⟩
      have hc' := hG.cC
      obtain ⟨w1, w2⟩ := hc'.free1 hi hb hf
      refine e2 i hi ?_
      rcases hc.srcq hi hb with q | ⟨-, ⟨q, -⟩ | ⟨c, hc1, q, q1, -⟩⟩
      · exfalso
        have v := view (-1)
        rw [fit_fr (S := S) (by omega) (by rw [v.1.1]) v.1.2.1 v.1.2.2.1 v.1.2.2.2.1 (fun f hf => v.1.2.2.2.2 i f hf)] at hs
        have w1' : aWe M i b := w1
        obtain ⟨fv, hv, a1, -, a3, -, -, e⟩ := hc.src hi hb
        rw [hs] at a1
        obtain rfl := Option.some.inj a1
        rw [if_pos ⟨rfl, w1'⟩] at e
        obtain ⟨r2, d1, d2⟩ := hA.holdq hc.2.1 hc.2.2.1 hi hb
        rw [a3] at d1
        obtain rfl := Option.some.inj d1
        have nh : ∀ c, c < nb → ¬ aHo M i b c := fun c hc1 hh => w2 c hc1 ⟨hh.1, by rw [gw_upE]; rw [id]; exact hh.2.1, hh.2.2⟩
        rcases d2 with ⟨d, -⟩ | ⟨-, c, hc1, d⟩ | ⟨c, hc1, -, d, -⟩
        · rw [d, if_pos (by decide)] at e; rw [e] at q; exact absurd q (by decide)
        · exact nh c hc1 d
        · exact nh c hc1 d
      · exact q
      · exfalso
        exact w2 c hc1 ⟨q1.1, by rw [gw_upE, id]; exact q1.2.1, q1.2.2⟩
    · have gp : (nI p).toNatClampNeg < gw_np (gw_up S (2 * b + 31) 8 (nI p)) := by
        have := hA.gp hp
        unfold gw_np at this ⊢
        rw [gw_upN (by omega)]; exact this
      rw [e1, gw_bdS, gw_letS]
      unfold f_X0_pieceNumber
      rw [gw_gdT (gb _), gw_gdT (gb _), hA.cb hb, gw_upE, gw_rs, if_neg (hA.np1 hp), gw_gdT gp, hA.cp hp, gw_upN (show 2 * p + 30 ≠ 2 * b + 31 by omega), (hA.p hp).2.1.1, gw_bdS]
      have hG := h.give hb (Or.inr ⟨p, hp, rfl⟩)
      have inj : ∀ q, q < np → nI q = nI p → q = p := fun q hq e => (nI_eq (by omega) (by omega)).mp e
      have v := view (nI p)
      have src : (f_X2_fitOf (nI p) (M 25 b) (M 26 b) S = some 2 ∧ aWe M p b) ∧ ∀ c, c < nb → ¬ aHo M p b c := by
        rcases hc.srcq hp hb with q | ⟨q1, ⟨-, q2⟩ | ⟨c, hc1, q, -⟩⟩
        · rw [e2] at q; exact absurd q (by decide)
        · exact ⟨q1, q2⟩
        · rw [e2] at q; exact absurd q.symm (pn_m1 (by omega))
      have m32 : gw_up M 32 b (nI p) 32 = upd (M 32) b (nI p) := gw_upE
      refine ⟨nI p, _, _, rfl, hG, ⟨fun x q hx hq e => ?_, fun x y q hx hy hxy hq ex ey => ?_, fun x hx => hI.2.2 x hx⟩, v, ?_, fun e => ?_⟩
      · rw [fit_fr (S := S) (by omega) (by rw [v.1.1]) v.1.2.1 v.1.2.2.1 v.1.2.2.2.1 (fun f hf => v.1.2.2.2.2 q f hf), gw_upN (show 25 ≠ 32 by omega), gw_upN (show 26 ≠ 32 by omega), gw_upN (show 27 ≠ 32 by omega), gw_upN (show 17 ≠ 32 by omega), gw_upN (show 18 ≠ 32 by omega)]
        rw [m32] at e
        by_cases ex : x = b
        · subst ex
          rw [gw_rs] at e
          rw [inj q hq e.symm]
          exact ⟨src.1.1, src.1.2.2⟩
        · rw [gw_ru ex] at e; exact hI.1 x q hx hq e
      · rw [m32] at ex ey
        rw [aMe_e (M := M) (gw_upN (by omega)) (gw_upN (by omega)) (gw_upN (by omega)) (gw_upN (by omega)) (gw_upN (by omega))]
        by_cases d1 : x = b
        · subst d1
          rw [gw_rs] at ex
          rw [gw_ru (fun h => hxy h.symm)] at ey
          rw [inj q hq ex.symm] at ey ⊢
          exact fun hm => src.2 y hy ⟨fun h => hxy h.symm, ey, hm⟩
        · rw [gw_ru d1] at ex
          by_cases d2 : y = b
          · subst d2
            rw [gw_rs] at ey
            rw [inj q hq ey.symm] at ex ⊢
            exact fun hm => src.2 x hx ⟨hxy, ex, aMe_s.mp hm⟩
          · rw [gw_ru d2] at ey
            exact hI.2.1 x y q hx hy hxy hq ex ey
      · have := cnt (nI p)
        rw [if_pos c1.1, if_neg (hA.np1 hp)] at this
        rw [m32, if_pos (pn_p0 (by omega))]; exact this
      · have := congrArg Int32.toInt e; rw [nI_toInt (by omega), show ((-4 : Int32)).toInt = -4 by decide] at this; omega
  · rw [if_neg c1, if_pos rfl]
    exact ⟨-2, S, M, rfl, h, hI, vS.rfl', by rw [if_neg (by decide)]; rfl, fun e => absurd e (by decide)⟩
/-- chain, then swap -/
theorem kg_swap (h : gK np nb S M) (hI : iI np nb S M) (hb : b < nb) : ∃ r S1 S2 M2, f_X8_chain (nI b) S = some (r, S1) ∧ f_X8_swap (nI b) S1 = some (r, S2) ∧ gK np nb S2 M2 ∧ iI np nb S2 M2 ∧ vS S S2 M M2 ∧ cHad (M2 32) nb = cHad (M 32) nb + (if 0 < r then 1 else 0) ∧ (0 < r → ¬ M2 32 b = -1) ∧ r.toInt ≤ (M 3 7).toInt + 1 := by
  have hA := h.1
  have hnp := hA.1.1.1
  have hnb := hA.1.1.2
  have r7 : rg 0 3 (M 3 7) := (h.cC.2.1 7 (by omega)).2.1
  unfold rg at r7
  by_cases c1 : M 32 b = -1 ∧ ¬ 0 ≤ M 31 b
  · have ch : ∀ S, gK np nb S M → f_X8_chain (nI b) S = gw_b2 (f_X1_find (nI b) S) (fun r8 S9 => some (r8, S9)) := fun S h => by
      unfold f_X8_chain
      rw [h.1.1.bookingAt hb, gw_bdS, if_neg (h.1.nb1 hb), gw_gdT (h.1.gb hb), (h.1.waits hb).1, gw_bdS, if_pos c1, if_neg pn_10]
    obtain ⟨ms, r, S1, hms, e7, a1, a2, a3⟩ := h.cC.cfind hb
    have h1 := h.scr a2
    obtain ⟨ms', r', S1', hms', e7', b1, b2, b3⟩ := h1.cC.cfind hb
    have ems : ms' = ms := (nI_eq (by omega) (by omega)).mp (by rw [← e7', ← e7])
    subst ems
    have sc : ∀ q, ¬ (15 ≤ q ∧ q ≤ 19) → S1' q = S q := fun q hq => by rw [b2 q hq, a2 q hq]
    have h2 : gK np nb S1' M := h.scr sc
    have iI2 : iI np nb S1' M := hI.fr hnb hnp (vS.scr sc) rfl rfl rfl
    have same : r' = r := by
      rcases a3 with ⟨q1, q2⟩ | ⟨s, l, q1, q2, q3, q4, -⟩
      · rcases b3 with ⟨p1, -⟩ | ⟨s', l', p1, -, p3, -⟩
        · rw [p1, q1]
        · rw [q2 s' p1] at p3; exact absurd p3 (by simp)
      · rcases b3 with ⟨-, p2⟩ | ⟨s', l', p1, p2, p3, p4, -⟩
        · rw [p2 s q1] at q3; exact absurd q3 (by simp)
        · have : s' = s := by
            rcases Nat.lt_trichotomy s' s with g | g | g
            · rw [q4 s' g] at p3; exact absurd p3 (by simp)
            · exact g
            · rw [p4 s g] at q3; exact absurd q3 (by simp)
          rw [p2, q2, this]
    subst same
    have E1 : f_X8_chain (nI b) S = some (r', S1) := by rw [ch S h, a1, gw_b2S]
    have E2 : f_X8_chain (nI b) S1 = some (r', S1') := by rw [ch S1 h1, b1, gw_b2S]
    rcases b3 with ⟨p1, -⟩ | ⟨s, l, p1, p2, p3, -, p5, p6⟩
    · rw [p1] at E1 E2
      exact ⟨-4, S1, S1', M, E1, by unfold f_X8_swap; rw [E2, gw_b2S, if_pos (by decide)], h2, iI2, vS.scr sc, by rw [if_neg (by decide)]; rfl, fun e => absurd e (by decide), by rw [show ((-4 : Int32)).toInt = -4 by decide]; omega⟩
    · have hs3 : s ≤ 3 := by omega
      have pos : (0 : Int32) < nI (s + 1) := by rw [ps_ltI, nI_toInt (by omega), Int32.toInt_zero]; omega
      rw [fN_same h.cC hb c1.1 s] at p3
      have lk := fN_lk (show sR (oS M) np nb from h.cC.sR1) s b [] l hb p3
      have len := (fN_ok (show sR (oS M) np nb from h.cC.sR1) s b [] l hb p3).2.1
      obtain ⟨S2, M2, d1, d2, d3, d4, d5, d6, d7, -, d9⟩ := pfc_l h.cC hs3 l 0 gw_F b [] S1' M (by omega) (Nat.lt_of_le_of_lt (show l.length ≤ 4 by omega) (by decide)) hb h2 p5 p6 lk (fun p hp => by simp at hp) (fun _ _ => rfl) (fun y _ => Or.inl rfl) (fun x y q hx hy hxy _ _ hq ex ey => hI.2.1 x y q hx hy hxy hq ex ey) hI.1
      rw [show nI 0 = (0 : Int32) from rfl] at d1
      rw [p2] at E1 E2
      have E3 : f_X8_swap (nI b) S1 = some (nI (s + 1), S2) := by
        unfold f_X8_swap f_X1_perform
        rw [E2, gw_b2S, if_neg (show ¬ nI (s + 1) ≤ 0 by rw [ps_leI, nI_toInt (by omega), Int32.toInt_zero]; omega), d1, gw_bdS]
      have view : vS S S2 M M2 := ⟨⟨by rw [d4 29 (fun j _ => by omega)]; exact sc 29 (by omega), by rw [d4 5 (fun j _ => by omega)]; exact sc 5 (by omega), by rw [d4 9 (fun j _ => by omega)]; exact sc 9 (by omega), by rw [d4 10 (fun j _ => by omega)]; exact sc 10 (by omega), fun i f _ => by rw [d4 _ (fun j _ => by omega), sc _ (by omega)]⟩, fun r _ _ h => d3 r h⟩
      have m : ∀ r, r ≠ 32 → M2 r = M r := d3
      refine ⟨nI (s + 1), S1, S2, M2, E1, E3, d2, ⟨fun x q hx hq e => ?_, fun x y q hx hy hxy hq ex ey => ?_, fun x hx => by rw [m 33 (by omega)]; exact hI.2.2 x hx⟩, view, ?_, fun _ => d9, ?_⟩
      · rw [fit_fr (S := S) (by omega) (by rw [view.1.1]) view.1.2.1 view.1.2.2.1 view.1.2.2.2.1 (fun f hf => view.1.2.2.2.2 q f hf), m 25 (by omega), m 26 (by omega), m 27 (by omega), m 17 (by omega), m 18 (by omega)]
        exact d5 x q hx hq e
      · rw [aMe_e (m 6 (by omega)) (m 3 (by omega)) (m 11 (by omega)) (m 28 (by omega)) (m 27 (by omega))]
        exact d6 x y q hx hy hxy hq ex ey
      · rw [d7, if_pos c1.1, if_pos pos]
      · rw [e7, nI_toInt (by omega), nI_toInt (by omega)]; omega
  · have ch : ∀ S, gK np nb S M → f_X8_chain (nI b) S = some (-2, S) := fun S h => by
      unfold f_X8_chain
      rw [h.1.1.bookingAt hb, gw_bdS, if_neg (h.1.nb1 hb), gw_gdT (h.1.gb hb), (h.1.waits hb).1, gw_bdS, if_neg c1, if_pos rfl]
    exact ⟨-2, S, S, M, ch S h, by unfold f_X8_swap; rw [ch S h, gw_b2S, if_pos (by decide)], h, hI, vS.rfl', by rw [if_neg (by decide)]; rfl, fun e => absurd e (by decide), by rw [show ((-2 : Int32)).toInt = -2 by decide]; omega⟩
end RPD
