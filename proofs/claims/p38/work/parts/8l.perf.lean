section RPC
variable {w np nb t i j p q c a b f n k nd pl ms : Nat} {S S0 S1 M M0 S' M' : gw_S} {x x1 x2 x3 x4 x5 x6 u z d v r : Int32} {T : List Nat} {l : List (Nat × Nat)}
/-- how many HAVE a PIECE -/
def cHad (H : Nat → Int32) : Nat → Nat
  | 0 => 0
  | k + 1 => cHad H k + if H k = -1 then 0 else 1
theorem cHad_o {H : Nat → Int32} : ∀ k, k ≤ b → cHad (upd H b v) k = cHad H k
  | 0, _ => rfl
  | k + 1, hk => by
    unfold cHad
    rw [cHad_o k (by omega), gw_ru (by omega)]
theorem cHad_u {H : Nat → Int32} : ∀ k, b < k → cHad (upd H b v) k + (if H b = -1 then 0 else 1) = cHad H k + if v = -1 then 0 else 1
  | 0, hk => absurd hk (by omega)
  | k + 1, hk => by
    unfold cHad
    by_cases e : b = k
    · subst e
      rw [cHad_o b (Nat.le_refl b), gw_rs]; omega
    · have := cHad_u (H := H) k (show b < k by omega)
      rw [gw_ru (fun q => e q.symm)]; omega
theorem cHad_e {H H' : Nat → Int32} : ∀ k, (∀ j, j < k → H' j = H j) → cHad H' k = cHad H k
  | 0, _ => rfl
  | k + 1, h => by
    unfold cHad
    rw [cHad_e k (fun j hj => h j (by omega)), h k (by omega)]
theorem cHad_b {H : Nat → Int32} : ∀ k, cHad H k ≤ k
  | 0 => Nat.le_refl 0
  | k + 1 => by
    have := cHad_b (H := H) k
    unfold cHad
    split <;> omega
theorem aMe_s : aMe M i j c ↔ aMe M i c j := by unfold aMe; omega
theorem aMe_e (h6 : M' 6 = M 6) (h3 : M' 3 = M 3) (h11 : M' 11 = M 11) (h28 : M' 28 = M 28) (h27 : M' 27 = M 27) : aMe M' i j c ↔ aMe M i j c := by unfold aMe aPo; rw [h6, h3, h11, h28, h27]
/-- whether it FITS looks at these alone -/
theorem fit_fr (hi : i < 24) (h29 : S' 29 0 = S 29 0) (h5 : S' 5 = S 5) (h9 : S' 9 = S 9) (h10 : S' 10 = S 10) (hf : ∀ f, f ≠ 10 → S' (2 * i + 30) f = S (2 * i + 30) f) : f_X2_fitOf (nI i) x1 x2 S' = f_X2_fitOf (nI i) x1 x2 S := by
  unfold f_X2_fitOf f_X4_isWanted f_X7_at f_X3_low f_X3_high f_X2_fitOf_b87 gw_np
  simp only [nI_clamp (show i < 2 ^ 31 by omega), h29, h5, h9, h10, hf 0 (by omega), hf 1 (by omega), hf 2 (by omega), hf 8 (by omega)]
/-- the state, with a view of it -/
def gK (np nb : Nat) (S M : gw_S) : Prop := rA 0 np nb S M ∧ (∃ t, rC t S M) ∧ lFd S M
theorem gK.cC (h : gK np nb S M) : cC 0 np nb S M := by
  obtain ⟨h1, ⟨t, h2⟩, h3⟩ := h
  exact ⟨h1, h2.1, h2.2.2.1, h3⟩
theorem gK.scr (h : gK np nb S M) (q : ∀ r, ¬ (15 ≤ r ∧ r ≤ 19) → S' r = S r) : gK np nb S' M := by
  obtain ⟨h1, ⟨t, h2⟩, h3⟩ := h
  exact ⟨h1.scr q (fun _ _ => rfl), ⟨t, h2.scr q (fun _ _ => rfl)⟩, h3.scr q (fun _ _ => rfl)⟩
theorem gK.give (h : gK np nb S M) (hj : j < nb) (hv : z = -1 ∧ M 33 j = 0 ∨ ∃ i, i < np ∧ z = nI i) : gK np nb (gw_up S (2 * j + 31) 8 z) (gw_up M 32 j z) := by
  obtain ⟨h1, ⟨t, h2⟩, h3⟩ := h
  refine ⟨h1.give hj hv, ⟨t, h2.give⟩, ?_⟩
  unfold lFd lLo lHi at h3 ⊢
  rw [gw_upN (show 9 ≠ 2 * j + 31 by omega), gw_upN (show 10 ≠ 2 * j + 31 by omega), gw_upN (show 23 ≠ 32 by omega), gw_upN (show 24 ≠ 32 by omega)]
  exact h3
/-- what is kept: who HAS a PIECE, it FITS him and is not TORN by his NIGHT; no two meet; none is OUT -/
def iA (np nb : Nat) (S M : gw_S) (H : Nat → Int32) : Prop := ∀ x q, x < nb → q < np → H x = nI q → f_X2_fitOf (nI q) (M 25 x) (M 26 x) S = some 2 ∧ (M 17 q = 0 ∨ M 27 x < M 18 q)
def iB (np nb : Nat) (M : gw_S) (H : Nat → Int32) : Prop := ∀ x y q, x < nb → y < nb → ¬ x = y → q < np → H x = nI q → H y = nI q → ¬ aMe M q x y
def iI (np nb : Nat) (S M : gw_S) : Prop := iA np nb S M (M 32) ∧ iB np nb M (M 32) ∧ ∀ x, x < nb → M 33 x = 0
/-- what a call leaves to be seen -/
def vS (S S' M M' : gw_S) : Prop := (S' 29 = S 29 ∧ S' 5 = S 5 ∧ S' 9 = S 9 ∧ S' 10 = S 10 ∧ ∀ i f, f ≠ 10 → S' (2 * i + 30) f = S (2 * i + 30) f) ∧ ∀ r, r ≠ 17 → r ≠ 18 → r ≠ 32 → M' r = M r
theorem pfc_l (h0 : cC 0 np nb S0 M0) {s : Nat} (hs : s ≤ 3) : ∀ (l : List (Nat × Nat)) (k n b : Nat) (T : List Nat) (S M : gw_S), k + l.length = s + 1 → l.length < n → b < nb → gK np nb S M → S 15 5 = nI (s + 1) → fRw 18 19 S l k → cLk (oS M0) np nb b T l → (∀ p, p ∈ T → p < np) → (∀ r, r ≠ 32 → M r = M0 r) → (∀ y, y < nb → M 32 y = M0 32 y ∨ ∃ p, p ∈ T ∧ M 32 y = nI p) → (∀ x y q, x < nb → y < nb → ¬ x = y → ¬ x = b → ¬ y = b → q < np → M 32 x = nI q → M 32 y = nI q → ¬ aMe M0 q x y) → iA np nb S0 M0 (M 32) → ∃ S' M', f_X1_perform_b2 n (nI k) S = some S' ∧ gK np nb S' M' ∧ (∀ r, r ≠ 32 → M' r = M0 r) ∧ (∀ r, (∀ j, j < nb → r ≠ 2 * j + 31) → S' r = S r) ∧ iA np nb S0 M0 (M' 32) ∧ iB np nb M0 (M' 32) ∧ cHad (M' 32) nb = cHad (M 32) nb + (if M 32 b = -1 then 1 else 0) ∧ (∀ y, y < nb → ¬ M 32 y = -1 → ¬ M' 32 y = -1) ∧ ¬ M' 32 b = -1
  | [], k, n, b, T, S, M, _, _, _, _, _, _, hL, _, _, _, _, _ => absurd hL (by unfold cLk; exact fun q => q)
  | (b', p) :: l, k, n + 1, b, T, S, M, hk, hn, hb, hG, h15, hr, hL, hT, hM, h1, h2, h3 => by
    have hA := hG.1
    have hnp := hA.1.1.1
    have hnb := hA.1.1.2
    obtain ⟨k1, k2, r1⟩ := hr
    obtain ⟨rfl, hp, hpT, hL⟩ := hL
    simp only [List.length_cons] at hk hn
    have hk2 : k < s + 1 := by omega
    have n4 : ¬ (4 : Int32) ≤ nI k := pn_le (n := 4) (by omega) (by omega)
    have g4 : gw_in (nI k) 4 := pi_in (show k < 4 by omega) (by omega)
    have ck : (nI k).toNatClampNeg = k := nI_clamp (by omega)
    have b1 : f_X1_bookingIn (nI k) S = some (nI b') := by
      unfold f_X1_bookingIn
      rw [if_neg (pn_n0 (by omega)), h15, if_neg (pn_le hk2 (by omega)), if_neg n4, gw_gdT g4, ck, k1]
    have b2 : f_X1_pieceIn (nI k) S = some (nI p) := by
      unfold f_X1_pieceIn
      rw [if_neg (pn_n0 (by omega)), h15, if_neg (pn_le hk2 (by omega)), if_neg n4, gw_gdT g4, ck, k2]
    obtain ⟨S1, eS1⟩ : ∃ S1, gw_up S (2 * b' + 31) 8 (nI p) = S1 := ⟨_, rfl⟩
    obtain ⟨M1, eM1⟩ : ∃ M1, gw_up M 32 b' (nI p) = M1 := ⟨_, rfl⟩
    have st : f_X1_perform_b2 (n + 1) (nI k) S = f_X1_perform_b2 n (nI (k + 1)) S1 := by
      rw [f_X1_perform_b2, h15, if_neg (pn_le hk2 (by omega)), b1, gw_bdS, hA.1.bookingAt hb, gw_bdS, b2, gw_bdS, hA.1.pieceAt hp, gw_bdS, if_neg (hA.nb1 hb), if_neg (hA.np1 hp), gw_gdT (hA.gb hb), gw_letS, hA.cb hb, eS1]
      unfold f_X1_perform_b49
      rw [gw_letS, pn_a1]
    have hG1 : gK np nb S1 M1 := by rw [← eS1, ← eM1]; exact hG.give hb (Or.inr ⟨p, hp, rfl⟩)
    have m32 : M1 32 = upd (M 32) b' (nI p) := by rw [← eM1, gw_upE]
    have mo : ∀ r, r ≠ 32 → M1 r = M0 r := fun r hr => by rw [← eM1, gw_upN hr, hM r hr]
    have so : ∀ r, (∀ j, j < nb → r ≠ 2 * j + 31) → S1 r = S r := fun r hr => by rw [← eS1, gw_upN (hr b' hb)]
    have inj : ∀ q, q < np → nI q = nI p → q = p := fun q hq e => (nI_eq (by omega) (by omega)).mp e
    have old : ∀ y, y < nb → M 32 y = nI p → M0 32 y = nI p := fun y hy e => by
      rcases h1 y hy with q | ⟨p', q1, q2⟩
      · rw [← q]; exact e
      · rw [e] at q2
        exact absurd (by rw [← inj p' (hT p' q1) q2.symm]; exact q1) hpT
    have src := h0.srcq hp hb
    unfold oS at hL
    have hsrc : ¬ aSrc M0 p b' = -2 := by
      rcases hL with ⟨-, e⟩ | ⟨c, hc, e, -⟩
      · rw [e]; decide
      · rw [e]; intro q; have := congrArg Int32.toInt q; rw [nI_toInt (by omega), show ((-2 : Int32)).toInt = -2 by decide] at this; omega
    rcases src with src | ⟨⟨fit, well⟩, src⟩
    · exact absurd src hsrc
    have hA1 : iA np nb S0 M0 (M1 32) := fun x q hx hq e => by
      rw [m32] at e
      by_cases ex : x = b'
      · subst ex
        rw [gw_rs] at e
        rw [inj q hq e.symm]
        exact ⟨fit, well.2⟩
      · rw [gw_ru ex] at e; exact h3 x q hx hq e
    have cnt : cHad (M1 32) nb = cHad (M 32) nb + (if M 32 b' = -1 then 1 else 0) := by
      have := cHad_u (H := M 32) (v := nI p) nb hb
      rw [if_neg (hA.np1 hp)] at this
      rw [m32]
      by_cases e0 : M 32 b' = -1
      · rw [if_pos e0] at this ⊢; omega
      · rw [if_neg e0] at this ⊢; omega
    have keep : ∀ y, y < nb → ¬ M 32 y = -1 → ¬ M1 32 y = -1 := fun y hy h => by
      rw [m32]
      by_cases e : y = b'
      · subst e; rw [gw_rs]; exact hA.np1 hp
      · rw [gw_ru e]; exact h
    have new : ¬ M1 32 b' = -1 := by rw [m32, gw_rs]; exact hA.np1 hp
    rcases hL with ⟨rfl, e⟩ | ⟨c, hc, e, hL⟩
    · have hk3 : k + 1 = s + 1 := by simpa using hk
      have h151 : S1 15 5 = nI (s + 1) := by rw [so 15 (fun j _ => by omega)]; exact h15
      have fin : f_X1_perform_b2 n (nI (k + 1)) S1 = some S1 := by
        cases n with
        | zero => omega
        | succ n => rw [f_X1_perform_b2, h151, if_pos (nI_le (by omega) (by omega))]
      have none : ∀ c, c < nb → ¬ aHo M0 p b' c := by
        rcases src with ⟨-, h⟩ | ⟨c, hc, e2, -⟩
        · exact h
        · rw [e] at e2; exact absurd e2.symm (pn_m1 (by omega))
      refine ⟨S1, M1, by rw [st]; exact fin, hG1, mo, so, hA1, fun x y q hx hy hxy hq ex ey => ?_, cnt, keep, new⟩
      rw [m32] at ex ey
      by_cases c1 : x = b'
      · subst c1
        rw [gw_rs] at ex
        rw [gw_ru (fun h => hxy h.symm)] at ey
        have := inj q hq ex.symm
        subst this
        exact fun hm => none y hy ⟨fun h => hxy h.symm, old y hy ey, hm⟩
      · rw [gw_ru c1] at ex
        by_cases c2 : y = b'
        · subst c2
          rw [gw_rs] at ey
          have := inj q hq ey.symm
          subst this
          exact fun hm => none x hx ⟨hxy, old x hx ex, aMe_s.mp hm⟩
        · rw [gw_ru c2] at ey
          exact h2 x y q hx hy hxy c1 c2 hq ex ey
    · rcases src with ⟨e2, -⟩ | ⟨c', hc', e2, -, -, uniq⟩
      · rw [e] at e2; exact absurd e2 (pn_m1 (by omega))
      rw [e] at e2
      obtain rfl := (nI_eq (by omega) (by omega)).mp e2
      have hc0 : M0 32 c = nI p := by
        rcases h0.srcR hp hb with q | q | ⟨c', hc', q, q2, -⟩
        · exact absurd q hsrc
        · rw [e] at q; exact absurd q (pn_m1 (by omega))
        · rw [e] at q
          rw [(nI_eq (by omega) (by omega)).mp q]; exact q2
      obtain ⟨S', M', d1, d2, d3, d4, d5, d6, d7, d8, d9⟩ := pfc_l h0 hs l (k + 1) n c (p :: T) S1 M1 (by omega) (by omega) hc hG1 (by rw [so 15 (fun j _ => by omega)]; exact h15) (fRw_fr l (k + 1) (fun i _ => ⟨by rw [so 18 (fun j _ => by omega)], by rw [so 19 (fun j _ => by omega)]⟩) r1) hL (fun p' hp' => by
        rw [List.mem_cons] at hp'
        rcases hp' with rfl | hp'
        · exact hp
        · exact hT p' hp') mo (fun y hy => by
        rw [m32]
        by_cases ey : y = b'
        · subst ey; rw [gw_rs]; exact Or.inr ⟨p, List.mem_cons_self, rfl⟩
        · rw [gw_ru ey]
          rcases h1 y hy with q | ⟨p', q1, q2⟩
          · exact Or.inl q
          · exact Or.inr ⟨p', List.mem_cons_of_mem _ q1, q2⟩) (fun x y q hx hy hxy hxc hyc hq ex ey => by
        rw [m32] at ex ey
        by_cases c1 : x = b'
        · subst c1
          rw [gw_rs] at ex
          rw [gw_ru (fun h => hxy h.symm)] at ey
          have := inj q hq ex.symm
          subst this
          exact fun hm => uniq y hy hyc ⟨fun h => hxy h.symm, old y hy ey, hm⟩
        · rw [gw_ru c1] at ex
          by_cases c2 : y = b'
          · subst c2
            rw [gw_rs] at ey
            have := inj q hq ey.symm
            subst this
            exact fun hm => uniq x hx hxc ⟨hxy, old x hx ex, aMe_s.mp hm⟩
          · rw [gw_ru c2] at ey
            exact h2 x y q hx hy hxy c1 c2 hq ex ey) hA1
      have hcn : ¬ M1 32 c = -1 := by
        rcases h1 c hc with q | ⟨p', q1, q2⟩
        · exact keep c hc (by rw [q, hc0]; exact hA.np1 hp)
        · exact keep c hc (by rw [q2]; exact hA.np1 (hT p' q1))
      rw [if_neg hcn] at d7
      exact ⟨S', M', by rw [st]; exact d1, d2, d3, fun r hr => by rw [d4 r hr, so r hr], d5, d6, by rw [d7, cnt]; omega, fun y hy h => d8 y hy (keep y hy h), d8 b' hb new⟩
end RPC
