section RRL
variable {w np nb t i j c a b f nd : Nat} {S M S' M' : gw_S} {x k x1 x2 x3 x4 x5 x6 u z d : Int32}
def lW (M : gw_S) : Int := (lHi M 0 - lLo M 0) + (lHi M 1 - lLo M 1) + (lHi M 2 - lLo M 2) + (lHi M 3 - lLo M 3) + (lHi M 4 - lLo M 4) + (lHi M 5 - lLo M 5)
def lIn (M : gw_S) (l : Nat → Int) : Prop := ∀ m, m < 6 → lLo M m ≤ l m ∧ l m ≤ lHi M m
def lBd (B : Int) (M : gw_S) : Prop := ∀ m, m < 6 → -B ≤ lLo M m ∧ lLo M m ≤ B ∧ -B ≤ lHi M m ∧ lHi M m ≤ B
/-- what a bind does -/
def lMv (B : Int) (r : Int32) (M M1 : gw_S) : Prop := (r = 0 ∨ r = 1) ∧ lBd (B + 41) M1 ∧ (∀ m, m < 6 → lLo M m ≤ lLo M1 m ∧ lHi M1 m ≤ lHi M m) ∧ (r = 0 → ∀ m, m < 6 → lLo M1 m = lLo M m ∧ lHi M1 m = lHi M m) ∧ (r = 1 → lW M1 < lW M) ∧ ∀ r, r ≠ 23 → r ≠ 24 → M1 r = M r
theorem bind_t {B : Int} (ha : a < 6) (hb : b < 6) (hd : -40 ≤ d.toInt ∧ d.toInt ≤ 40) (hB : lBd B M) (hB0 : 0 ≤ B ∧ B ≤ 90000) : ∃ r M1, f_X9_bind (nI a) (nI b) d M = some (r, M1) ∧ lMv B r M M1 ∧ (r = 0 → lLo M b + d.toInt - 1 ≤ lLo M a ∧ lHi M a ≤ lHi M b + d.toInt + 1) ∧ ∀ l : Nat → Int, d.toInt - 1 ≤ l a - l b → l a - l b ≤ d.toInt + 1 → lIn M l → lIn M1 l := by
  obtain ⟨r, M1, k1, k2, k3, k4, k5, k6⟩ := bind_s (M := M) ha hb hd (fun m hm => by have := hB m hm; omega)
  have hBa := hB a ha
  have hBb := hB b hb
  have mono : ∀ m, m < 6 → lLo M m ≤ lLo M1 m ∧ lHi M1 m ≤ lHi M m := fun m hm => by
    by_cases e : m = a
    · subst e; rw [k3, k4]; constructor <;> split <;> omega
    · rw [(k2 m hm e).1, (k2 m hm e).2]; exact ⟨Int.le_refl _, Int.le_refl _⟩
  refine ⟨r, M1, k1, ⟨?_, fun m hm => ?_, mono, fun hr m hm => ?_, fun hr => ?_, k6⟩, fun hr => ?_, fun l h1 h2 hl m hm => ?_⟩
  · rcases k5 with ⟨q, -⟩ | ⟨q, -⟩
    · exact Or.inl q
    · exact Or.inr q
  · have := hB m hm
    by_cases e : m = a
    · subst e; rw [k3, k4]; refine ⟨?_, ?_, ?_, ?_⟩ <;> split <;> omega
    · rw [(k2 m hm e).1, (k2 m hm e).2]; omega
  · rcases k5 with ⟨-, q1, q2⟩ | ⟨q, -⟩
    · by_cases e : m = a
      · subst e; rw [k3, k4, if_neg q1, if_neg q2]; exact ⟨rfl, rfl⟩
      · exact k2 m hm e
    · rw [q] at hr; exact absurd hr (by decide)
  · have hs : lHi M1 a - lLo M1 a < lHi M a - lLo M a := by
      rcases k5 with ⟨q, -⟩ | ⟨-, q⟩
      · rw [q] at hr; exact absurd hr (by decide)
      · rw [k3, k4]
        rcases q with q | q
        · rw [if_pos q]; split <;> omega
        · rw [if_pos q]; split <;> omega
    have m0 := mono 0 (by omega); have m1 := mono 1 (by omega); have m2 := mono 2 (by omega); have m3 := mono 3 (by omega); have m4 := mono 4 (by omega); have m5 := mono 5 (by omega)
    unfold lW
    rcases (show a = 0 ∨ a = 1 ∨ a = 2 ∨ a = 3 ∨ a = 4 ∨ a = 5 by omega) with rfl | rfl | rfl | rfl | rfl | rfl <;> omega
  · rcases k5 with ⟨-, q1, q2⟩ | ⟨q, -⟩
    · omega
    · rw [q] at hr; exact absurd hr (by decide)
  · have la := hl a ha
    have lb := hl b hb
    by_cases e : m = a
    · subst e; rw [k3, k4]; constructor <;> split <;> omega
    · rw [(k2 m hm e).1, (k2 m hm e).2]; exact hl m hm
end RRL
section RRM
variable {w np nb t i j c a b f nd : Nat} {S M S' M' : gw_S} {x k x1 x2 x3 x4 x5 x6 u z d : Int32}
theorem pn_neg {x : Int32} (h : -1000000 ≤ x.toInt ∧ x.toInt ≤ 1000000) : (-x).toInt = -x.toInt := by
  have e : -x = 0 - x := (Int32.zero_sub x).symm
  rw [e, pn_sbi (by rw [Int32.toInt_zero]; omega) h, Int32.toInt_zero]; omega
/-- the DOUBLES as told -/
def lDb (nd : Nat) (M : gw_S) : Prop := nd ≤ 20 ∧ M 0 21 = nI nd ∧ ∀ k, k < nd → rg 0 5 (M 19 k) ∧ rg 1 40 (M 20 k) ∧ rg 0 5 (M 21 k) ∧ rg 1 40 (M 22 k)
theorem lDb.fr (h : lDb nd M) (q : ∀ r, r ≠ 23 → r ≠ 24 → M' r = M r) : lDb nd M' := by
  unfold lDb at h ⊢
  rw [q 0 (by omega) (by omega), q 19 (by omega) (by omega), q 20 (by omega) (by omega), q 21 (by omega) (by omega), q 22 (by omega) (by omega)]; exact h
/-- a DOUBLE holds of the ends -/
def lCo (M : gw_S) (k : Nat) : Prop := lLo M (M 21 k).toNatClampNeg + ((M 22 k).toInt - (M 20 k).toInt) - 1 ≤ lLo M (M 19 k).toNatClampNeg ∧ lHi M (M 19 k).toNatClampNeg ≤ lHi M (M 21 k).toNatClampNeg + ((M 22 k).toInt - (M 20 k).toInt) + 1 ∧ lLo M (M 19 k).toNatClampNeg - ((M 22 k).toInt - (M 20 k).toInt) - 1 ≤ lLo M (M 21 k).toNatClampNeg ∧ lHi M (M 21 k).toNatClampNeg ≤ lHi M (M 19 k).toNatClampNeg - ((M 22 k).toInt - (M 20 k).toInt) + 1
/-- a DOUBLE holds of some LIES -/
def lCl (M : gw_S) (l : Nat → Int) (k : Nat) : Prop := (M 22 k).toInt - (M 20 k).toInt - 1 ≤ l (M 19 k).toNatClampNeg - l (M 21 k).toNatClampNeg ∧ l (M 19 k).toNatClampNeg - l (M 21 k).toNatClampNeg ≤ (M 22 k).toInt - (M 20 k).toInt + 1
/-- one DOUBLE, both ways -/
theorem pair_t {B : Int} {k : Nat} (h : lDb nd M) (hk : k < nd) (hB : lBd B M) (hB0 : 0 ≤ B ∧ B ≤ 80000) : ∃ r1 M1 r2 M2, f_X9_bind (M 19 k) (M 21 k) (M 22 k - M 20 k) M = some (r1, M1) ∧ f_X9_bind (M1 21 k) (M1 19 k) (-(M 22 k - M 20 k)) M1 = some (r2, M2) ∧ (r1 = 0 ∨ r1 = 1) ∧ (r2 = 0 ∨ r2 = 1) ∧ lBd (B + 82) M2 ∧ (∀ m, m < 6 → lLo M m ≤ lLo M2 m ∧ lHi M2 m ≤ lHi M m) ∧ (r1 = 0 → r2 = 0 → (∀ m, m < 6 → lLo M2 m = lLo M m ∧ lHi M2 m = lHi M m) ∧ lCo M k) ∧ (¬ (r1 = 0 ∧ r2 = 0) → lW M2 < lW M) ∧ (∀ r, r ≠ 23 → r ≠ 24 → M2 r = M r) ∧ ∀ l, lCl M l k → lIn M l → lIn M2 l := by
  obtain ⟨h1, h2, h3⟩ := h
  obtain ⟨g1, g2, g3, g4⟩ := h3 k hk
  obtain ⟨a, -, ha, ea⟩ := rg_nI (lo := 0) (n := 5) g1 (by omega)
  obtain ⟨b, -, hb, eb⟩ := rg_nI (lo := 0) (n := 5) g3 (by omega)
  unfold rg at g2 g4
  have ed : (M 22 k - M 20 k).toInt = (M 22 k).toInt - (M 20 k).toInt := pn_sbi (by omega) (by omega)
  have en : (-(M 22 k - M 20 k)).toInt = -((M 22 k).toInt - (M 20 k).toInt) := by rw [pn_neg (by omega), ed]
  obtain ⟨r1, M1, k1, ⟨q1, q2, q3, q4, q5, q6⟩, q7, q8⟩ := bind_t (M := M) (a := a) (b := b) (d := M 22 k - M 20 k) (by omega) (by omega) (by omega) hB (by omega)
  obtain ⟨r2, M2, l1, ⟨p1, p2, p3, p4, p5, p6⟩, p7, p8⟩ := bind_t (M := M1) (a := b) (b := a) (d := -(M 22 k - M 20 k)) (by omega) (by omega) (by omega) q2 (by omega)
  refine ⟨r1, M1, r2, M2, by rw [ea, eb]; exact k1, by rw [q6 21 (by omega) (by omega), q6 19 (by omega) (by omega), ea, eb]; exact l1, q1, p1, ?_, fun m hm => ?_, fun z1 z2 => ⟨fun m hm => ?_, ?_⟩, fun hz => ?_, fun r z1 z2 => by rw [p6 r z1 z2, q6 r z1 z2], fun l hl hi => ?_⟩
  · have e : B + 82 = B + 41 + 41 := by omega
    rw [e]; exact p2
  · have := q3 m hm; have := p3 m hm; omega
  · have u1 := q4 z1 m hm; have u2 := p4 z2 m hm
    rw [u2.1, u2.2, u1.1, u1.2]; exact ⟨rfl, rfl⟩
  · have u1 := q7 z1; have u2 := p7 z2
    have va := q4 z1 a (by omega); have vb := q4 z1 b (by omega)
    rw [en, va.1, va.2, vb.1, vb.2] at u2
    rw [ed] at u1
    unfold lCo
    rw [ea, eb, nI_clamp (by omega), nI_clamp (by omega)]
    omega
  · have w1 : lW M1 ≤ lW M := by
      have m0 := q3 0 (by omega); have m1 := q3 1 (by omega); have m2 := q3 2 (by omega); have m3 := q3 3 (by omega); have m4 := q3 4 (by omega); have m5 := q3 5 (by omega)
      unfold lW; omega
    have w2 : lW M2 ≤ lW M1 := by
      have m0 := p3 0 (by omega); have m1 := p3 1 (by omega); have m2 := p3 2 (by omega); have m3 := p3 3 (by omega); have m4 := p3 4 (by omega); have m5 := p3 5 (by omega)
      unfold lW; omega
    rcases q1 with z1 | z1
    · rcases p1 with z2 | z2
      · exact absurd ⟨z1, z2⟩ hz
      · have := p5 z2; omega
    · have := q5 z1; omega
  · unfold lCl at hl
    rw [ea, eb, nI_clamp (by omega), nI_clamp (by omega)] at hl
    exact p8 l (by rw [en]; omega) (by rw [en]; omega) (q8 l (by rw [ed]; omega) (by rw [ed]; omega) hi)
theorem l26 {K11 : Int32 → gw_S → Option gw_S} : ∀ (q n : Nat) (B : Int) (v1 : Int32) (M : gw_S), q ≤ nd → q < n → lDb nd M → lBd B M → 0 ≤ B → B + 82 * q ≤ 80000 → (v1 = 0 ∨ v1 = 1) → ∃ v2 M2, f_X9_findLies_b26 K11 n v1 (nI (nd - q)) M = f_X9_findLies_b115 K11 gw_F v2 0 M2 ∧ (v2 = 0 ∨ v2 = 1) ∧ lBd (B + 82 * q) M2 ∧ (∀ m, m < 6 → lLo M m ≤ lLo M2 m ∧ lHi M2 m ≤ lHi M m) ∧ (∀ r, r ≠ 23 → r ≠ 24 → M2 r = M r) ∧ (v2 = 0 → v1 = 0 ∧ (∀ m, m < 6 → lLo M2 m = lLo M m ∧ lHi M2 m = lHi M m) ∧ ∀ k, nd - q ≤ k → k < nd → lCo M k) ∧ (v1 = 0 → v2 = 1 → lW M2 < lW M) ∧ ∀ l, (∀ k, nd - q ≤ k → k < nd → lCl M l k) → lIn M l → lIn M2 l
  | 0, n + 1, B, v1, M, _, _, h, hB, _, _, hv => by
    rw [f_X9_findLies_b26, h.2.1, if_pos (nI_le (by omega) (by have := h.1; omega))]
    refine ⟨v1, M, rfl, hv, by simpa using hB, fun m hm => ⟨Int.le_refl _, Int.le_refl _⟩, fun _ _ _ => rfl, fun z => ⟨z, fun _ _ => ⟨rfl, rfl⟩, fun k h1 h2 => absurd h2 (by omega)⟩, fun z1 z2 => by rw [z1] at z2; exact absurd z2 (by decide), fun l _ hl => hl⟩
  | q + 1, n + 1, B, v1, M, hq, hn, h, hB, hB0, hB1, hv => by
    have hnd := h.1
    obtain ⟨k, ek⟩ : ∃ k, nd - (q + 1) = k := ⟨_, rfl⟩
    have hk : k < nd := by omega
    have e1 : nI k + (1 : Int32) = nI (nd - q) := by rw [← ek]; exact pn_s hq
    obtain ⟨r1, M1, r2, M2, p1, p2, p3, p4, p5, p6, p7, p8, p9, p10⟩ := pair_t h hk hB (by omega)
    have hz : f_X9_findLies_b26 K11 (n + 1) v1 (nI k) M = f_X9_findLies_b26 K11 n (if v1 = 0 ∧ r1 = 0 ∧ r2 = 0 then 0 else 1) (nI (nd - q)) M2 := by
      rw [f_X9_findLies_b26, h.2.1, if_neg (pn_le hk (by omega)), gw_gdT (pi_in (by omega) (by omega)), gw_letS, nI_clamp (by omega), p1, gw_b2S, p2, gw_b2S]
      unfold f_X9_findLies_b101 f_X9_findLies_b106
      simp only [gw_letS, e1]
      by_cases c1 : v1 = 0
      · rw [if_pos c1]
        by_cases c2 : r1 = 0
        · rw [if_pos c2]
          by_cases c3 : r2 = 0
          · rw [if_pos c3, if_pos ⟨c1, c2, c3⟩]
          · rw [if_neg c3, if_neg (fun q => c3 q.2.2)]
        · rw [if_neg c2, if_neg (fun q => c2 q.2.1)]
      · rw [if_neg c1, if_neg (fun q => c1 q.1)]
    rw [ek, hz]
    obtain ⟨v2, M3, s1, s2, s3, s4, s5, s6, s7, s8⟩ := l26 q n (B + 82) (if v1 = 0 ∧ r1 = 0 ∧ r2 = 0 then 0 else 1) M2 (by omega) (by omega) (h.fr p9) p5 (by omega) (by omega) (by split; exact Or.inl rfl; exact Or.inr rfl)
    have w2 : lW M2 ≤ lW M := by
      have m0 := p6 0 (by omega); have m1 := p6 1 (by omega); have m2 := p6 2 (by omega); have m3 := p6 3 (by omega); have m4 := p6 4 (by omega); have m5 := p6 5 (by omega)
      unfold lW; omega
    have w3 : lW M3 ≤ lW M2 := by
      have m0 := s4 0 (by omega); have m1 := s4 1 (by omega); have m2 := s4 2 (by omega); have m3 := s4 3 (by omega); have m4 := s4 4 (by omega); have m5 := s4 5 (by omega)
      unfold lW; omega
    refine ⟨v2, M3, s1, s2, ?_, fun m hm => ?_, fun r z1 z2 => by rw [s5 r z1 z2, p9 r z1 z2], fun z => ?_, fun z1 z2 => ?_, fun l hl hi => ?_⟩
    · have e : B + 82 * ((q + 1 : Nat) : Int) = B + 82 + 82 * (q : Int) := by omega
      rw [e]; exact s3
    · have := p6 m hm; have := s4 m hm; omega
    · obtain ⟨u1, u2, u3⟩ := s6 z
      have c : v1 = 0 ∧ r1 = 0 ∧ r2 = 0 := by
        by_cases c : v1 = 0 ∧ r1 = 0 ∧ r2 = 0
        · exact c
        · rw [if_neg c] at u1; exact absurd u1 (by decide)
      obtain ⟨t1, t2⟩ := p7 c.2.1 c.2.2
      refine ⟨c.1, fun m hm => ?_, fun k' z1 z2 => ?_⟩
      · rw [(u2 m hm).1, (u2 m hm).2]; exact t1 m hm
      · by_cases e : k' = k
        · subst e; exact t2
        · have := u3 k' (by omega) z2
          obtain ⟨y1, y2, y3, y4⟩ := h.2.2 k' z2
          obtain ⟨a, -, ha, ea⟩ := rg_nI (lo := 0) (n := 5) y1 (by omega)
          obtain ⟨b, -, hb, eb⟩ := rg_nI (lo := 0) (n := 5) y3 (by omega)
          unfold lCo at this ⊢
          rw [p9 19 (by omega) (by omega), p9 20 (by omega) (by omega), p9 21 (by omega) (by omega), p9 22 (by omega) (by omega), ea, eb, nI_clamp (by omega), nI_clamp (by omega), (t1 a (by omega)).1, (t1 a (by omega)).2, (t1 b (by omega)).1, (t1 b (by omega)).2] at this
          rw [ea, eb, nI_clamp (by omega), nI_clamp (by omega)]; exact this
    · by_cases c : r1 = 0 ∧ r2 = 0
      · rw [if_pos ⟨z1, c.1, c.2⟩] at s7
        have := s7 rfl z2; omega
      · have := p8 c; omega
    · refine s8 l (fun k' z1 z2 => ?_) (p10 l (hl k (by omega) hk) hi)
      have := hl k' (by omega) z2
      unfold lCl at this ⊢
      rw [p9 19 (by omega) (by omega), p9 20 (by omega) (by omega), p9 21 (by omega) (by omega), p9 22 (by omega) (by omega)]; exact this
end RRM
section RRN
variable {w np nb t i j c a b f nd : Nat} {S M S' M' : gw_S} {x k x1 x2 x3 x4 x5 x6 u z d : Int32}
theorem l115 {K11 : Int32 → gw_S → Option gw_S} {v1 : Int32} : ∀ (k n : Nat) (M : gw_S), k ≤ 6 → k < n → ((M 0 28 = 0 ∧ ∀ m, m < 6 - k → lLo M m ≤ lHi M m) ∨ (M 0 28 = 1 ∧ ∃ m, m < 6 ∧ lHi M m < lLo M m)) → ∃ M1, f_X9_findLies_b115 K11 n v1 (nI (6 - k)) M = K11 v1 M1 ∧ (∀ r, r ≠ 0 → M1 r = M r) ∧ (∀ i, i ≠ 28 → M1 0 i = M 0 i) ∧ ((M1 0 28 = 0 ∧ ∀ m, m < 6 → lLo M m ≤ lHi M m) ∨ (M1 0 28 = 1 ∧ ∃ m, m < 6 ∧ lHi M m < lLo M m))
  | 0, n + 1, M, _, _, h => by
    rw [f_X9_findLies_b115, if_pos (by decide)]
    exact ⟨M, rfl, fun _ _ => rfl, fun _ _ => rfl, h⟩
  | k + 1, n + 1, M, hk, hn, h => by
    have hm : 6 - (k + 1) < 6 := by omega
    have nx : ∀ v : Int32, ((v = 0 ∧ ∀ m, m < 6 - k → lLo M m ≤ lHi M m) ∨ (v = 1 ∧ ∃ m, m < 6 ∧ lHi M m < lLo M m)) → ∃ M1, f_X9_findLies_b149 K11 (f_X9_findLies_b115 K11 n) v1 (nI (6 - (k + 1))) v M = K11 v1 M1 ∧ (∀ r, r ≠ 0 → M1 r = M r) ∧ (∀ i, i ≠ 28 → M1 0 i = M 0 i) ∧ ((M1 0 28 = 0 ∧ ∀ m, m < 6 → lLo M m ≤ lHi M m) ∨ (M1 0 28 = 1 ∧ ∃ m, m < 6 ∧ lHi M m < lLo M m)) := fun v hv => by
      unfold f_X9_findLies_b149
      rw [gw_gdT (by rcases hv with ⟨q, -⟩ | ⟨q, -⟩; exact Or.inl q; exact Or.inr q), gw_letS, gw_letS, pn_s hk]
      obtain ⟨M1, e1, e2, e3, e4⟩ := l115 k n (gw_up M 0 28 v) (by omega) (by omega) hv
      exact ⟨M1, e1, fun r hr => by rw [e2 r hr, gw_upN hr], fun i hi => by rw [e3 i hi, gw_upE, gw_ru hi], e4⟩
    rw [f_X9_findLies_b115, if_neg (show ¬ (6 : Int32) ≤ nI (6 - (k + 1)) from pn_le (n := 6) hm (by omega)), gw_gdT (pi_in hm (by omega)), nI_clamp (by omega)]
    unfold f_X9_findLies_b144
    rcases h with ⟨h1, h2⟩ | ⟨h1, h2⟩
    · rw [if_pos h1]
      by_cases c : M 23 (6 - (k + 1)) ≤ M 24 (6 - (k + 1))
      · rw [if_pos c]
        refine nx 0 (Or.inl ⟨rfl, fun m hm => ?_⟩)
        by_cases e : m = 6 - (k + 1)
        · subst e; exact ps_leI.mp c
        · exact h2 m (by omega)
      · rw [if_neg c]
        refine nx 1 (Or.inr ⟨rfl, 6 - (k + 1), hm, ?_⟩)
        rw [ps_leI] at c
        show (M 24 _).toInt < (M 23 _).toInt
        omega
    · rw [if_neg (by rw [h1]; decide)]
      exact nx 1 (Or.inr ⟨rfl, h2⟩)
/-- what LIES are found -/
def lFin (nd : Nat) (M M' : gw_S) : Prop := (∀ r, r ≠ 0 → r ≠ 23 → r ≠ 24 → M' r = M r) ∧ (∀ i, i ≠ 28 → M' 0 i = M 0 i) ∧ ((M' 0 28 = 1 ∧ (∀ l, ¬ lF nd M l) ∧ ∀ m, m < 6 → M' 23 m = (if m = 0 then 0 else -9) ∧ M' 24 m = (if m = 0 then 0 else 9)) ∨ (M' 0 28 = 0 ∧ lF nd M (lLo M') ∧ lF nd M (lHi M') ∧ ∀ l, lF nd M l → lIn M' l))
theorem l161 (h1 : M 0 28 = 1) : ∃ M', f_X9_findLies_b161 M = some M' ∧ (∀ r, r ≠ 23 → r ≠ 24 → M' r = M r) ∧ ∀ m, m < 6 → M' 23 m = (if m = 0 then 0 else -9) ∧ M' 24 m = (if m = 0 then 0 else 9) := by
  obtain ⟨M', e1, e2, e3⟩ := clearLies M
  unfold f_X9_findLies_b161
  rw [if_neg (by rw [h1]; decide), e1, gw_bdS]
  exact ⟨M', rfl, e3, e2⟩
theorem l11 : ∀ (N n : Nat) (M : gw_S), N + 1 < n → lW M ≤ N → lDb nd M → M 0 28 = 0 → (∀ m, m < 6 → -9 ≤ lLo M m ∧ lLo M m ≤ lHi M m ∧ lHi M m ≤ 9) → 0 ≤ lLo M 0 → lHi M 0 ≤ 0 → (∀ l, lF nd M l → lIn M l) → ∃ M', f_X9_findLies_b11 n 1 M = some M' ∧ lFin nd M M'
  | N, n + 1, M, hn, hW, hD, hz, hR, h00, h01, hS => by
    have hnd := hD.1
    obtain ⟨v2, M2, s1, s2, s3, s4, s5, s6, s7, s8⟩ := l26 (K11 := f_X9_findLies_b11 n) nd gw_F 9 0 M (Nat.le_refl nd) (Nat.lt_of_le_of_lt hnd (by decide)) hD (fun m hm => by have := hR m hm; omega) (by omega) (by omega) (Or.inl rfl)
    rw [Nat.sub_self, show nI 0 = (0 : Int32) from rfl] at s1
    have z2 : M2 0 28 = 0 := by rw [s5 0 (by omega) (by omega)]; exact hz
    obtain ⟨M3, t1, t2, t3, t4⟩ := l115 (K11 := f_X9_findLies_b11 n) (v1 := v2) 6 gw_F M2 (Nat.le_refl 6) (by decide) (Or.inl ⟨z2, fun m hm => absurd hm (by omega)⟩)
    rw [Nat.sub_self, show nI 0 = (0 : Int32) from rfl] at t1
    have hlo : ∀ m, lLo M3 m = lLo M2 m := fun m => by unfold lLo; rw [t2 23 (by omega)]
    have hhi : ∀ m, lHi M3 m = lHi M2 m := fun m => by unfold lHi; rw [t2 24 (by omega)]
    have fr : ∀ r, r ≠ 0 → r ≠ 23 → r ≠ 24 → M3 r = M r := fun r q1 q2 q3 => by rw [t2 r q1, s5 r q2 q3]
    have fr0 : ∀ i, i ≠ 28 → M3 0 i = M 0 i := fun i q => by rw [t3 i q, s5 0 (by omega) (by omega)]
    have lf : ∀ l, lF nd M3 l ↔ lF nd M l := fun l => by unfold lF; rw [fr 19 (by omega) (by omega) (by omega), fr 20 (by omega) (by omega) (by omega), fr 21 (by omega) (by omega) (by omega), fr 22 (by omega) (by omega) (by omega)]
    have hS2 : ∀ l, lF nd M l → lIn M2 l := fun l hl => s8 l (fun k _ hk => hl.2.2 k hk) (hS l hl)
    rw [f_X9_findLies_b11, if_neg pn_10, if_pos hz, s1, t1]
    obtain ⟨n, rfl⟩ : ∃ n', n = n' + 1 := ⟨n - 1, by omega⟩
    rcases t4 with ⟨f1, f2⟩ | ⟨f1, f2⟩
    · rcases s2 with v | v
      · -- nothing moved
        obtain ⟨-, u2, u3⟩ := s6 v
        rw [f_X9_findLies_b11, if_pos v]
        unfold f_X9_findLies_b161
        rw [if_pos f1]
        refine ⟨M3, rfl, fr, fr0, Or.inr ⟨f1, ?_, ?_, fun l hl m hm => by rw [hlo, hhi]; exact hS2 l hl m hm⟩⟩
        · refine ⟨?_, fun m hm => ?_, fun k hk => ?_⟩
          · have := f2 0 (by omega); have := u2 0 (by omega); have := hR 0 (by omega); rw [hlo]; omega
          · have := u2 m hm; have := hR m hm; rw [hlo]; omega
          · have q := u3 k (by omega) hk
            obtain ⟨y1, y2, y3, y4⟩ := hD.2.2 k hk
            obtain ⟨a, -, ha, ea⟩ := rg_nI (lo := 0) (n := 5) y1 (by omega)
            obtain ⟨b, -, hb, eb⟩ := rg_nI (lo := 0) (n := 5) y3 (by omega)
            unfold lCo at q
            rw [ea, eb, nI_clamp (by omega), nI_clamp (by omega)] at q ⊢
            have qa := u2 a (by omega); have qb := u2 b (by omega)
            rw [hlo, hlo]; omega
        · refine ⟨?_, fun m hm => ?_, fun k hk => ?_⟩
          · have := f2 0 (by omega); have := u2 0 (by omega); have := hR 0 (by omega); rw [hhi]; omega
          · have := u2 m hm; have := hR m hm; rw [hhi]; omega
          · have q := u3 k (by omega) hk
            obtain ⟨y1, y2, y3, y4⟩ := hD.2.2 k hk
            obtain ⟨a, -, ha, ea⟩ := rg_nI (lo := 0) (n := 5) y1 (by omega)
            obtain ⟨b, -, hb, eb⟩ := rg_nI (lo := 0) (n := 5) y3 (by omega)
            unfold lCo at q
            rw [ea, eb, nI_clamp (by omega), nI_clamp (by omega)] at q ⊢
            have qa := u2 a (by omega); have qb := u2 b (by omega)
            rw [hhi, hhi]; omega
      · -- something moved
        have hw := s7 rfl v
        have hw3 : lW M3 = lW M2 := by unfold lW; rw [hlo, hlo, hlo, hlo, hlo, hlo, hhi, hhi, hhi, hhi, hhi, hhi]
        have hw0 : 0 ≤ lW M2 := by
          have m0 := f2 0 (by omega); have m1 := f2 1 (by omega); have m2 := f2 2 (by omega); have m3 := f2 3 (by omega); have m4 := f2 4 (by omega); have m5 := f2 5 (by omega)
          unfold lW; omega
        obtain ⟨N', eN⟩ : ∃ N', N = N' + 1 := ⟨N - 1, by omega⟩
        subst eN
        have hD3 : lDb nd M3 := by
          unfold lDb at hD ⊢
          rw [fr0 21 (by omega), fr 19 (by omega) (by omega) (by omega), fr 20 (by omega) (by omega) (by omega), fr 21 (by omega) (by omega) (by omega), fr 22 (by omega) (by omega) (by omega)]; exact hD
        obtain ⟨M', g1, g2, g3, g4⟩ := l11 N' (n + 1) M3 (by omega) (by omega) hD3 f1 (fun m hm => by
          have := f2 m hm; have := s4 m hm; have := hR m hm; rw [hlo, hhi]; omega) (by have := s4 0 (by omega); rw [hlo]; omega) (by have := s4 0 (by omega); rw [hhi]; omega) (fun l hl m hm => by rw [hlo, hhi]; exact hS2 l ((lf l).mp hl) m hm)
        rw [v]
        refine ⟨M', g1, fun r q1 q2 q3 => by rw [g2 r q1 q2 q3, fr r q1 q2 q3], fun i q => by rw [g3 i q, fr0 i q], ?_⟩
        rcases g4 with ⟨y1, y2, y3⟩ | ⟨y1, y2, y3, y4⟩
        · exact Or.inl ⟨y1, fun l hl => y2 l ((lf l).mpr hl), y3⟩
        · exact Or.inr ⟨y1, (lf _).mp y2, (lf _).mp y3, fun l hl => y4 l ((lf l).mpr hl)⟩
    · -- at odds
      obtain ⟨m, hm, hq⟩ := f2
      have no : ∀ l, ¬ lF nd M l := fun l hl => by have := hS2 l hl m hm; omega
      obtain ⟨M', g1, g2, g3⟩ := l161 f1
      have e : f_X9_findLies_b11 (n + 1) v2 M3 = f_X9_findLies_b161 M3 := by
        rw [f_X9_findLies_b11, if_neg (show ¬ M3 0 28 = 0 by rw [f1]; decide)]
        split <;> rfl
      rw [e, g1]
      exact ⟨M', rfl, fun r q1 q2 q3 => by rw [g2 r q2 q3, fr r q1 q2 q3], fun i q => by rw [g2 0 (by omega) (by omega), fr0 i q], Or.inl ⟨by rw [g2 0 (by omega) (by omega)]; exact f1, no, g3⟩⟩
theorem findLies (hD : lDb nd M) : ∃ M', f_X9_findLies M = some M' ∧ lFin nd M M' := by
  obtain ⟨M1, e1, e2, e3⟩ := clearLies M
  unfold f_X9_findLies
  rw [e1, gw_bdS, gw_letS]
  have u23 : ∀ m, lLo (gw_up M1 0 28 0) m = (M1 23 m).toInt := fun m => rfl
  have u24 : ∀ m, lHi (gw_up M1 0 28 0) m = (M1 24 m).toInt := fun m => rfl
  have lo : ∀ m, m < 6 → lLo (gw_up M1 0 28 0) m = if m = 0 then 0 else -9 := fun m hm => by
    rw [u23, (e2 m hm).1]; split <;> decide
  have hi : ∀ m, m < 6 → lHi (gw_up M1 0 28 0) m = if m = 0 then 0 else 9 := fun m hm => by
    rw [u24, (e2 m hm).2]; split <;> decide
  have fr : ∀ r, r ≠ 0 → r ≠ 23 → r ≠ 24 → gw_up M1 0 28 0 r = M r := fun r q1 q2 q3 => by rw [gw_upN q1, e3 r q2 q3]
  have fr0 : ∀ i, i ≠ 28 → gw_up M1 0 28 0 0 i = M 0 i := fun i q => by rw [gw_upE, gw_ru q, e3 0 (by omega) (by omega)]
  have hD1 : lDb nd (gw_up M1 0 28 0) := by
    unfold lDb at hD ⊢
    rw [fr0 21 (by omega), fr 19 (by omega) (by omega) (by omega), fr 20 (by omega) (by omega) (by omega), fr 21 (by omega) (by omega) (by omega), fr 22 (by omega) (by omega) (by omega)]; exact hD
  have lf : ∀ l, lF nd (gw_up M1 0 28 0) l ↔ lF nd M l := fun l => by unfold lF; rw [fr 19 (by omega) (by omega) (by omega), fr 20 (by omega) (by omega) (by omega), fr 21 (by omega) (by omega) (by omega), fr 22 (by omega) (by omega) (by omega)]
  obtain ⟨M', g1, g2, g3, g4⟩ := l11 (nd := nd) 90 gw_F (gw_up M1 0 28 0) (by decide) (by
    unfold lW; rw [lo 0 (by omega), lo 1 (by omega), lo 2 (by omega), lo 3 (by omega), lo 4 (by omega), lo 5 (by omega), hi 0 (by omega), hi 1 (by omega), hi 2 (by omega), hi 3 (by omega), hi 4 (by omega), hi 5 (by omega)]; decide) hD1 (by rw [gw_upE, gw_rs]) (fun m hm => by rw [lo m hm, hi m hm]; split <;> decide) (by rw [lo 0 (by omega)]; decide) (by rw [hi 0 (by omega)]; decide) (fun l hl m hm => by
    rw [lo m hm, hi m hm]
    have := hl.2.1 m hm
    by_cases e : m = 0
    · rw [if_pos e, if_pos e, e, hl.1]; decide
    · rw [if_neg e, if_neg e]; exact this)
  refine ⟨M', g1, fun r q1 q2 q3 => by rw [g2 r q1 q2 q3, fr r q1 q2 q3], fun i q => by rw [g3 i q, fr0 i q], ?_⟩
  rcases g4 with ⟨y1, y2, y3⟩ | ⟨y1, y2, y3, y4⟩
  · exact Or.inl ⟨y1, fun l hl => y2 l ((lf l).mpr hl), y3⟩
  · exact Or.inr ⟨y1, (lf _).mp y2, (lf _).mp y3, fun l hl => y4 l ((lf l).mpr hl)⟩
end RRN
section RRO
variable {w np nb t i j c a b f nd : Nat} {S M S' M' : gw_S} {x k x1 x2 x3 x4 x5 x6 u z d : Int32}
theorem rLd.db (h : rLd nd S M) : lDb nd M := ⟨h.1.1, h.1.2.2, h.2.1⟩
/-- both find the same LIES -/
theorem rL.find (h : rL S M) : ∃ M', f_X9_findLies M = some M' ∧ (∀ r, r ≠ 0 → r ≠ 23 → r ≠ 24 → M' r = M r) ∧ (∀ i, i ≠ 28 → M' 0 i = M 0 i) ∧ (∀ m, m < 6 → S 9 m = M' 23 m ∧ S 10 m = M' 24 m ∧ -9 ≤ lLo M' m ∧ lLo M' m ≤ lHi M' m ∧ lHi M' m ≤ 9) ∧ ((S 7 4 = 0 ∧ M' 0 28 = 0) ∨ (S 7 4 = 1 ∧ M' 0 28 = 1)) := by
  obtain ⟨nd, h⟩ := h
  obtain ⟨M', e1, e2, e3, e4⟩ := findLies h.db
  obtain ⟨h1, h2, ⟨z9, z10⟩, h4⟩ := h
  refine ⟨M', e1, e2, e3, ?_⟩
  rcases e4 with ⟨f1, f2, f3⟩ | ⟨f1, f2, f3, f4⟩
  · -- a QUARREL
    have odd : S 7 4 = 1 ∧ ∀ m, 1 ≤ m → m < 6 → S 9 m = -9 ∧ S 10 m = 9 := by
      rcases h4 with ⟨g1, g2, g3⟩ | ⟨g1, g2, g3, g4, g5, g6, g7⟩
      · exact ⟨g1, g3⟩
      · refine absurd ?_ (f2 (fun m => lD S 0 m))
        refine ⟨g3 0 (by omega), fun m hm => ?_, fun k hk => ?_⟩
        · have u1 := g5 0 m (by omega) hm
          have u2 := g5 m 0 hm (by omega)
          have u3 := g4 0 0 m (by omega) (by omega) hm
          have u4 := g3 0 (by omega)
          unfold lBox at u1 u2
          by_cases e : m = 0
          · subst e
            show -9 ≤ lD S 0 0 ∧ lD S 0 0 ≤ 9
            omega
          · rw [if_pos rfl, if_neg e] at u1
            rw [if_neg e, if_pos rfl] at u2
            show -9 ≤ lD S 0 m ∧ lD S 0 m ≤ 9
            omega
        · obtain ⟨y1, y2, y3, y4⟩ := h2 k hk
          obtain ⟨a, -, ha, ea⟩ := rg_nI (lo := 0) (n := 5) y1 (by omega)
          obtain ⟨b, -, hb, eb⟩ := rg_nI (lo := 0) (n := 5) y3 (by omega)
          have q := g7 k hk
          rw [ea, eb, nI_clamp (by omega), nI_clamp (by omega)] at q ⊢
          have w1 := g4 0 a b (by omega) (by omega) (by omega)
          have w2 := g4 0 b a (by omega) (by omega) (by omega)
          show _ ≤ lD S 0 a - lD S 0 b ∧ lD S 0 a - lD S 0 b ≤ _
          omega
    refine ⟨fun m hm => ?_, Or.inr ⟨odd.1, f1⟩⟩
    have q := f3 m hm
    unfold lLo lHi
    rw [q.1, q.2]
    by_cases e : m = 0
    · subst e; rw [if_pos rfl, if_pos rfl, z9, z10]; exact ⟨rfl, rfl, by decide, by decide, by decide⟩
    · rw [if_neg e, if_neg e]
      have := odd.2 m (by omega) hm
      exact ⟨this.1, this.2, by decide, by decide, by decide⟩
  · -- none
    rcases h4 with ⟨g1, g2, g3⟩ | ⟨g1, g2, g3, g4, g5, g6, g7⟩
    · exact absurd f2 (g2 _)
    · have hh : lF nd M (fun m => lD S 0 m) := by
        refine ⟨g3 0 (by omega), fun m hm => ?_, fun k hk => ?_⟩
        · have u1 := g5 0 m (by omega) hm
          have u2 := g5 m 0 hm (by omega)
          have u3 := g4 0 0 m (by omega) (by omega) hm
          have u4 := g3 0 (by omega)
          unfold lBox at u1 u2
          by_cases e : m = 0
          · subst e
            show -9 ≤ lD S 0 0 ∧ lD S 0 0 ≤ 9
            omega
          · rw [if_pos rfl, if_neg e] at u1
            rw [if_neg e, if_pos rfl] at u2
            show -9 ≤ lD S 0 m ∧ lD S 0 m ≤ 9
            omega
        · obtain ⟨y1, y2, y3, y4⟩ := h2 k hk
          obtain ⟨a, -, ha, ea⟩ := rg_nI (lo := 0) (n := 5) y1 (by omega)
          obtain ⟨b, -, hb, eb⟩ := rg_nI (lo := 0) (n := 5) y3 (by omega)
          have q := g7 k hk
          rw [ea, eb, nI_clamp (by omega), nI_clamp (by omega)] at q ⊢
          have w1 := g4 0 a b (by omega) (by omega) (by omega)
          have w2 := g4 0 b a (by omega) (by omega) (by omega)
          show _ ≤ lD S 0 a - lD S 0 b ∧ lD S 0 a - lD S 0 b ≤ _
          omega
      have hl : lF nd M (fun m => - lD S m 0) := by
        refine ⟨by have := g3 0 (by omega); show - lD S 0 0 = 0; omega, fun m hm => ?_, fun k hk => ?_⟩
        · have u1 := g5 0 m (by omega) hm
          have u2 := g5 m 0 hm (by omega)
          have u3 := g4 0 0 m (by omega) (by omega) hm
          have u4 := g3 0 (by omega)
          unfold lBox at u1 u2
          by_cases e : m = 0
          · subst e
            show -9 ≤ - lD S 0 0 ∧ - lD S 0 0 ≤ 9
            omega
          · rw [if_pos rfl, if_neg e] at u1
            rw [if_neg e, if_pos rfl] at u2
            show -9 ≤ - lD S m 0 ∧ - lD S m 0 ≤ 9
            omega
        · obtain ⟨y1, y2, y3, y4⟩ := h2 k hk
          obtain ⟨a, -, ha, ea⟩ := rg_nI (lo := 0) (n := 5) y1 (by omega)
          obtain ⟨b, -, hb, eb⟩ := rg_nI (lo := 0) (n := 5) y3 (by omega)
          have q := g7 k hk
          rw [ea, eb, nI_clamp (by omega), nI_clamp (by omega)] at q ⊢
          have w1 := g4 a 0 b (by omega) (by omega) (by omega)
          have w2 := g4 b 0 a (by omega) (by omega) (by omega)
          show _ ≤ - lD S a 0 - - lD S b 0 ∧ - lD S a 0 - - lD S b 0 ≤ _
          omega
      refine ⟨fun m hm => ?_, Or.inl ⟨g1, f1⟩⟩
      have b1 := f4 _ hh m hm
      have b2 := f4 _ hl m hm
      have c1 := g6 _ f2 0 m (by omega) hm
      have c2 := g6 _ f2 m 0 hm (by omega)
      have c3 := g6 _ f3 0 m (by omega) hm
      have c4 := g6 _ f3 m 0 hm (by omega)
      have d1 := f2.1
      have d2 := f3.1
      have r1 := f2.2.1 m hm
      have r2 := f3.2.1 m hm
      have b1 : lLo M' m ≤ lD S 0 m ∧ lD S 0 m ≤ lHi M' m := b1
      have b2 : lLo M' m ≤ - lD S m 0 ∧ - lD S m 0 ≤ lHi M' m := b2
      refine ⟨?_, ?_, r1.1, by omega, r2.2⟩
      · apply Int32.toInt_inj.mp
        by_cases e : m = 0
        · subst e; rw [z9, Int32.toInt_zero]; exact d1.symm
        · rw [(g2 m (by omega) hm).1]
          show - lD S m 0 = lLo M' m
          omega
      · apply Int32.toInt_inj.mp
        by_cases e : m = 0
        · subst e; rw [z10, Int32.toInt_zero]; exact d2.symm
        · rw [(g2 m (by omega) hm).2]
          show lD S 0 m = lHi M' m
          omega
end RRO
section RRP
variable {w np nb t i j c a b f nd : Nat} {S M S' M' : gw_S} {x k x1 x2 x3 x4 x5 x6 u z d : Int32}
theorem rA.lies (h : rA w np nb S M) (q : ∀ r, r ≠ 0 → r ≠ 23 → r ≠ 24 → M' r = M r) (p : ∀ i, i ≠ 28 → M' 0 i = M 0 i) : rA w np nb S M' := h.fr rfl rfl rfl rfl rfl rfl (fun _ => rfl) (fun _ => rfl) (p 8 (by omega)) (p 29 (by omega)) (fun k hk => q k (by omega) (by omega) (by omega))
theorem rC.lies (h : rC t S M) (q : ∀ r, r ≠ 0 → r ≠ 23 → r ≠ 24 → M' r = M r) (p : ∀ i, i ≠ 28 → M' 0 i = M 0 i) : rC t S M' := by
  obtain ⟨hT, hY, hO, hS, hI, hL⟩ := h
  exact ⟨hT.fr rfl (q 1 (by omega) (by omega) (by omega)) (q 2 (by omega) (by omega) (by omega)) (q 3 (by omega) (by omega) (by omega)), hY.fr rfl rfl (p 5 (by omega)) (q 5 (by omega) (by omega) (by omega)), hO.fr rfl (q 6 (by omega) (by omega) (by omega)), hS.fr (fun _ _ _ => rfl) (q 43 (by omega) (by omega) (by omega)) (q 44 (by omega) (by omega) (by omega)) (q 45 (by omega) (by omega) (by omega)), hI, hL.fr rfl rfl rfl rfl (p 21 (by omega)) (q 19 (by omega) (by omega) (by omega)) (q 20 (by omega) (by omega) (by omega)) (q 21 (by omega) (by omega) (by omega)) (q 22 (by omega) (by omega) (by omega))⟩
theorem rR.lies (h : rR w S M) (q : ∀ r, r ≠ 0 → r ≠ 23 → r ≠ 24 → M' r = M r) (p : ∀ i, i ≠ 28 → M' 0 i = M 0 i) : rR w S M' := by
  obtain ⟨np, nb, t, hA, hT, hY, hO, hS, hI, hL⟩ := h
  exact (rC.lies ⟨hT, hY, hO, hS, hI, hL⟩ q p).rR (hA.lies q p)
/-- a call that reads alone here, and finds LIES there -/
def gw_r2 (w : Nat) (S : gw_S) (f1 : Option Int32) (f2 : Option (Int32 × gw_S)) : Prop := ∃ r M', f1 = some r ∧ f2 = some (r, M') ∧ rR w S M'
theorem gr2 {r r' : Int32} (e : r' = r) (h : rR w S M) : gw_r2 w S (some r) (some (r', M)) := ⟨r, M, rfl, by rw [e], h⟩
theorem so_quarrel (h : rR w S M) : gw_r2 w S (f_X8_quarrel S) (f_X9_quarrel M) := by
  have h0 := h
  obtain ⟨np, nb, t, hA, hT, hY, hO, hS, hI, hL⟩ := h
  obtain ⟨M', e1, e2, e3, e4, e5⟩ := hL.find
  unfold f_X8_quarrel f_X9_quarrel
  rw [e1, gw_bdS]
  rcases e5 with ⟨g1, g2⟩ | ⟨g1, g2⟩
  · rw [if_pos g1, if_pos g2]; exact gr2 rfl (h0.lies e2 e3)
  · rw [if_neg (by rw [g1]; decide), if_neg (by rw [g2]; decide)]; exact gr2 rfl (h0.lies e2 e3)
theorem so_lie (h : rR w S M) : gw_r2 w S (f_X8_lie x1 x2 S) (f_X9_lie x1 x2 M) := by
  have h0 := h
  obtain ⟨np, nb, t, hA, hT, hY, hO, hS, hI, hL⟩ := h
  obtain ⟨M', e1, e2, e3, e4, e5⟩ := hL.find
  unfold f_X8_lie f_X9_lie
  rw [ps_isMaker, ps_br, pm_isMaker, ps_br, ps_isIn, ps_br, ps_in, ps_br, e1, gw_bdS, pz_0, pz_1, pq_0, pq_1]
  by_cases h1 : 0 ≤ x1.toInt ∧ x1.toInt ≤ 5
  · rw [if_pos h1, if_pos h1]
    by_cases h2 : 0 ≤ x2.toInt ∧ x2.toInt ≤ 1
    · rw [if_pos h2, if_pos h2]
      obtain ⟨j, hj, rfl⟩ := ps_nI (n := 5) h1 (by omega)
      have hg : gw_in (nI j) 6 := pi_in (by omega) (by omega)
      rw [ps_low (by omega), ps_high (by omega), gw_gdT hg, gw_gdT hg, gw_bdS, gw_bdS, nI_clamp (by omega), (e4 j (by omega)).1, (e4 j (by omega)).2.1]
      by_cases h3 : x2 = 0
      · rw [if_pos h3, if_pos h3]; exact gr2 rfl (h0.lies e2 e3)
      · rw [if_neg h3, if_neg h3]; exact gr2 rfl (h0.lies e2 e3)
    · rw [if_neg h2, if_neg h2]; exact gr2 rfl h0
  · rw [if_neg h1, if_neg h1]; exact gr2 rfl h0
end RRP
section RRQ
variable {w np nb t i j c a b f nd : Nat} {S M S' M' : gw_S} {x k x1 x2 x3 x4 x5 x6 u z d : Int32}
/-- how many lies of those counted so far are near enough -/
def fCnt (lo e c L : Int) : Int := max 0 (min (L - 1) (e - c) - max lo (-e - c) + 1)
theorem pm_size (h : -1000000 ≤ x.toInt ∧ x.toInt ≤ 1000000) : ∃ r, f_X9_size x S = some r ∧ r.toInt = max x.toInt (-x.toInt) := by
  unfold f_X9_size
  by_cases q : 0 ≤ x
  · rw [if_pos q]; rw [ps_leI, Int32.toInt_zero] at q; exact ⟨x, rfl, by omega⟩
  · rw [if_neg q]; rw [ps_leI, Int32.toInt_zero] at q; exact ⟨-x, rfl, by rw [pn_neg h]; omega⟩
theorem fi_l (hi : i < 24) {m : Nat} (hm : m < 6) (hlo : -9 ≤ lLo M m) (hle : lLo M m ≤ lHi M m) (hhi : lHi M m ≤ 9) (h9 : rg 1 40 (M 9 i)) (h14 : rg 0 3 (M 14 i)) (he : rg 0 9 (M 3 4)) (hx : 1 ≤ x2.toInt ∧ x2.toInt ≤ 40) : ∀ (q n : Nat) (v6 v7 : Int32), q < n → v7.toInt = lHi M m + 1 - q → lLo M m ≤ v7.toInt → v6.toInt = fCnt (lLo M m) (M 3 4).toInt ((M 9 i).toInt + (M 14 i).toInt - x2.toInt) v7.toInt → ∃ v, v.toInt = fCnt (lLo M m) (M 3 4).toInt ((M 9 i).toInt + (M 14 i).toInt - x2.toInt) (lHi M m + 1) ∧ f_X9_fitOf_b66 M n (nI i) x2 (nI m) v6 v7 = (if v = (M 24 m - M 23 m) + 1 then some 2 else (if v ≤ 0 then some 0 else some 1))
  | 0, n + 1, v6, v7, _, h7, _, h6 => by
    rw [f_X9_fitOf_b66, gw_gdT (pi_in hm (by omega)), nI_clamp (by omega), if_pos (by rw [ps_ltI]; unfold lHi at h7; omega)]
    refine ⟨v6, ?_, rfl⟩
    rw [h6, h7]; simp
  | q + 1, n + 1, v6, v7, hn, h7, hl, h6 => by
    unfold rg at h9 h14 he
    have h7' : v7.toInt ≤ 9 := by omega
    have e1 : (M 9 i + v7).toInt = (M 9 i).toInt + v7.toInt := pn_add (by omega) (by omega)
    have e2 : (M 9 i + v7 + M 14 i).toInt = (M 9 i).toInt + v7.toInt + (M 14 i).toInt := by rw [pn_add (by omega) (by omega), e1]
    have e3 : (M 9 i + v7 + M 14 i - x2).toInt = (M 9 i).toInt + v7.toInt + (M 14 i).toInt - x2.toInt := by rw [pn_sbi (by omega) (by omega), e2]
    obtain ⟨s, k1, k2⟩ := pm_size (S := M) (x := M 9 i + v7 + M 14 i - x2) (by omega)
    have e7 : (v7 + 1).toInt = v7.toInt + 1 := by rw [pn_add (by omega) (by rw [pz_1]; omega), pz_1]
    have t4 : (4 : Int32).toNatClampNeg = 4 := by decide
    have h6b : 0 ≤ v6.toInt ∧ v6.toInt ≤ 1000 := by rw [h6]; unfold fCnt; omega
    rw [f_X9_fitOf_b66, gw_gdT (pi_in hm (by omega)), nI_clamp (by omega), if_neg (by rw [ps_ltI]; unfold lHi at h7; omega), gw_gdT (pi_in hi (by omega)), nI_clamp (by omega), k1, gw_bdS, t4]
    unfold f_X9_fitOf_b115
    simp only [gw_letS]
    by_cases cc : M 3 4 < s
    · rw [if_pos cc]
      rw [ps_ltI, k2, e3] at cc
      refine fi_l hi hm hlo hle hhi h9 h14 he hx q n _ _ (by omega) (by rw [e7]; omega) (by rw [e7]; omega) ?_
      rw [Int32.add_zero, h6, e7]; unfold fCnt; omega
    · rw [if_neg cc]
      rw [ps_ltI, k2, e3] at cc
      refine fi_l hi hm hlo hle hhi h9 h14 he hx q n _ _ (by omega) (by rw [e7]; omega) (by rw [e7]; omega) ?_
      rw [pn_add (by omega) (by rw [pz_1]; omega), pz_1, h6, e7]; unfold fCnt; omega
end RRQ
section RRR
variable {w np nb t i j c a b f nd : Nat} {S M S' M' : gw_S} {x k x1 x2 x3 x4 x5 x6 u z d : Int32}
/-- LIES are found -/
def lFd (S M : gw_S) : Prop := ∀ m, m < 6 → S 9 m = M 23 m ∧ S 10 m = M 24 m ∧ -9 ≤ lLo M m ∧ lLo M m ≤ lHi M m ∧ lHi M m ≤ 9
theorem rA.wanted (h : rA w np nb S M) (hi : i < np) (h3 : 0 ≤ x3.toInt ∧ x3.toInt ≤ 2) : ∃ c : Bool, f_X4_isWanted (nI i) x3 S = some (if c = true then 1 else 0) ∧ f_X9_fitOf (nI i) x2 x3 M = f_X9_fitOf_b37 M (nI i) x2 (if c = true then 1 else 0) := by
  have hp := h.p hi
  have hk : rg 0 2 (M 7 i) := hp.2.2.2.1.1
  unfold f_X4_isWanted f_X9_fitOf
  rw [gw_gdT (h.gp hi), gw_gdT (h.inp hi), gw_gdT (h.inp hi), h.cp hi, hp.1.1]
  by_cases c0 : x3 = 0
  · rw [if_pos c0, if_pos c0]
    by_cases c1 : M 7 i = x3
    · rw [if_pos c1, if_neg (by rw [c1, c0]; decide)]; exact ⟨true, rfl, rfl⟩
    · rw [if_neg c1]
      by_cases c2 : M 7 i = 1
      · rw [if_pos c2, if_neg (by rw [c2]; decide)]; exact ⟨true, rfl, rfl⟩
      · rw [if_neg c2, if_pos]
        · exact ⟨false, rfl, rfl⟩
        · rw [ps_leI, pz_2]
          have n0 : ¬ (M 7 i).toInt = 0 := fun e => c1 (by rw [c0]; exact Int32.toInt_inj.mp (by rw [e, pz_0]))
          have n1 : ¬ (M 7 i).toInt = 1 := fun e => c2 (Int32.toInt_inj.mp (by rw [e, pz_1]))
          have := hk.1; omega
  · rw [if_neg c0, if_neg c0]
    by_cases c1 : M 7 i = x3
    · rw [if_pos c1, if_pos c1]; exact ⟨true, rfl, rfl⟩
    · rw [if_neg c1, if_neg c1]; exact ⟨false, rfl, rfl⟩
theorem rA.fit (h : rA w np nb S M) (hT : rT S M) (hF : lFd S M) (hi : i < np) (h2 : 1 ≤ x2.toInt ∧ x2.toInt ≤ 40) (h3 : 0 ≤ x3.toInt ∧ x3.toInt ≤ 2) : ∃ v, (v = 0 ∨ v = 1 ∨ v = 2) ∧ f_X2_fitOf (nI i) x2 x3 S = some v ∧ f_X9_fitOf (nI i) x2 x3 M = some v := by
  have hp := h.p hi
  have hi24 := h.ip hi
  obtain ⟨c, w1, w2⟩ := h.wanted (x2 := x2) hi h3
  obtain ⟨m, -, hm, em⟩ := rg_nI (lo := 0) (n := 5) hp.2.2.2.1.2.1 (by omega)
  obtain ⟨f1, f2, f3, f4, f5⟩ := hF m (by omega)
  have h9 : rg 1 40 (M 9 i) := hp.2.2.2.1.2.2.1
  have h14 : rg 0 3 (M 14 i) := hp.2.2.2.2.1
  have he := hT.r4
  obtain ⟨v, v1, v2⟩ := fi_l (M := M) (i := i) (x2 := x2) hi24 (m := m) (by omega) f3 f4 f5 h9 h14 he h2 (lHi M m + 1 - lLo M m).toNat gw_F 0 (M 23 m) (Nat.lt_of_le_of_lt (show (lHi M m + 1 - lLo M m).toNat ≤ 100 by omega) (by decide)) (by show lLo M m = _; omega) (Int.le_refl _) (by
    rw [Int32.toInt_zero]
    show 0 = fCnt (lLo M m) _ _ (lLo M m)
    unfold fCnt; omega)
  unfold rg at h9 h14 he
  have eA : ∀ l : Int32, -9 ≤ l.toInt ∧ l.toInt ≤ 9 → (M 9 i + l + M 14 i - x2).toInt = (M 9 i).toInt + l.toInt + (M 14 i).toInt - x2.toInt := fun l hl => by
    have a1 := pn_add (x := M 9 i) (y := l) (by omega) (by omega)
    have a2 := pn_add (x := M 9 i + l) (y := M 14 i) (by omega) (by omega)
    rw [pn_sbi (by omega) (by omega), a2, a1]
  have eL := eA (M 23 m) (by unfold lLo lHi at *; omega)
  have eH := eA (M 24 m) (by unfold lLo lHi at *; omega)
  have eE : (-(M 3 4)).toInt = -(M 3 4).toInt := pn_neg (by omega)
  have eW : (M 24 m - M 23 m + 1).toInt = lHi M m - lLo M m + 1 := by
    have a1 := pn_sbi (x := M 24 m) (y := M 23 m) (by unfold lLo lHi at *; omega) (by unfold lLo lHi at *; omega)
    rw [pn_add (by unfold lLo lHi at *; omega) (by rw [pz_1]; omega), pz_1, a1]; rfl
  have model : f_X9_fitOf (nI i) x2 x3 M = if c = true then (if v = M 24 m - M 23 m + 1 then some 2 else if v ≤ 0 then some 0 else some 1) else some 0 := by
    rw [w2]
    unfold f_X9_fitOf_b37
    cases c with
    | false => rfl
    | true =>
      have z : ¬ (if True then (1 : Int32) else 0) = 0 := by decide
      rw [if_pos rfl, if_neg pn_10, gw_gdT (h.inp hi), gw_letS, h.cp hi, em, gw_gdT (pi_in (by omega) (by omega)), gw_letS, nI_clamp (by omega), v2]
      rfl
  have cls : f_X2_fitOf (nI i) x2 x3 S = if c = true then (if M 9 i + M 23 m + M 14 i - x2 < -(M 3 4) then f_X2_fitOf_b87 S (M 3 4) (M 9 i + M 23 m + M 14 i - x2) (M 9 i + M 24 m + M 14 i - x2) else if M 3 4 < M 9 i + M 24 m + M 14 i - x2 then f_X2_fitOf_b87 S (M 3 4) (M 9 i + M 23 m + M 14 i - x2) (M 9 i + M 24 m + M 14 i - x2) else some 2) else some 0 := by
    unfold f_X2_fitOf
    rw [gw_gdT (h.np1 hi), gw_gdT (h.gp hi), w1, h.cp hi, hp.1.2.1, em, ps_low (by omega), ps_high (by omega), hT.t4, hp.1.2.2.1, hp.2.1.2.1, f1, f2]
    simp only [gw_bdS, gw_letS]
    cases c with
    | false => rfl
    | true => rfl
  rw [cls, model]
  cases c with
  | false => exact ⟨0, Or.inl rfl, rfl, rfl⟩
  | true =>
    rw [if_pos rfl, if_pos rfl]
    unfold f_X2_fitOf_b87
    have cv : ∀ X : Prop, (X ↔ v = M 24 m - M 23 m + 1) ↔ (X ↔ v.toInt = lHi M m - lLo M m + 1) := fun X => by rw [← eW, Int32.toInt_inj]
    have eL' : (M 9 i + M 23 m + M 14 i - x2).toInt = (M 9 i).toInt + lLo M m + (M 14 i).toInt - x2.toInt := eL
    have eH' : (M 9 i + M 24 m + M 14 i - x2).toInt = (M 9 i).toInt + lHi M m + (M 14 i).toInt - x2.toInt := eH
    unfold fCnt at v1
    have iv : v = M 24 m - M 23 m + 1 ↔ v.toInt = lHi M m - lLo M m + 1 := by rw [← eW, Int32.toInt_inj]
    have i0 : v ≤ 0 ↔ v.toInt ≤ 0 := by rw [ps_leI, Int32.toInt_zero]
    have j1 : M 9 i + M 23 m + M 14 i - x2 < -(M 3 4) ↔ (M 9 i).toInt + lLo M m + (M 14 i).toInt - x2.toInt < -(M 3 4).toInt := by rw [ps_ltI, eL', eE]
    have j2 : M 3 4 < M 9 i + M 24 m + M 14 i - x2 ↔ (M 3 4).toInt < (M 9 i).toInt + lHi M m + (M 14 i).toInt - x2.toInt := by rw [ps_ltI, eH']
    have j3 : M 3 4 < M 9 i + M 23 m + M 14 i - x2 ↔ (M 3 4).toInt < (M 9 i).toInt + lLo M m + (M 14 i).toInt - x2.toInt := by rw [ps_ltI, eL']
    have j4 : M 9 i + M 24 m + M 14 i - x2 < -(M 3 4) ↔ (M 9 i).toInt + lHi M m + (M 14 i).toInt - x2.toInt < -(M 3 4).toInt := by rw [ps_ltI, eH', eE]
    simp only [iv, i0, j1, j2, j3, j4]
    by_cases q1 : (M 9 i).toInt + lLo M m + (M 14 i).toInt - x2.toInt < -(M 3 4).toInt
    · rw [if_pos q1, if_neg (show ¬ v.toInt = lHi M m - lLo M m + 1 by omega)]
      by_cases q3 : (M 3 4).toInt < (M 9 i).toInt + lLo M m + (M 14 i).toInt - x2.toInt
      · rw [if_pos q3, if_pos (show v.toInt ≤ 0 by omega)]; exact ⟨0, Or.inl rfl, rfl, rfl⟩
      · rw [if_neg q3]
        by_cases q4 : (M 9 i).toInt + lHi M m + (M 14 i).toInt - x2.toInt < -(M 3 4).toInt
        · rw [if_pos q4, if_pos (show v.toInt ≤ 0 by omega)]; exact ⟨0, Or.inl rfl, rfl, rfl⟩
        · rw [if_neg q4, if_neg (show ¬ v.toInt ≤ 0 by omega)]; exact ⟨1, Or.inr (Or.inl rfl), rfl, rfl⟩
    · rw [if_neg q1]
      by_cases q2 : (M 3 4).toInt < (M 9 i).toInt + lHi M m + (M 14 i).toInt - x2.toInt
      · rw [if_pos q2, if_neg (show ¬ v.toInt = lHi M m - lLo M m + 1 by omega)]
        by_cases q3 : (M 3 4).toInt < (M 9 i).toInt + lLo M m + (M 14 i).toInt - x2.toInt
        · rw [if_pos q3, if_pos (show v.toInt ≤ 0 by omega)]; exact ⟨0, Or.inl rfl, rfl, rfl⟩
        · rw [if_neg q3]
          by_cases q4 : (M 9 i).toInt + lHi M m + (M 14 i).toInt - x2.toInt < -(M 3 4).toInt
          · rw [if_pos q4, if_pos (show v.toInt ≤ 0 by omega)]; exact ⟨0, Or.inl rfl, rfl, rfl⟩
          · rw [if_neg q4, if_neg (show ¬ v.toInt ≤ 0 by omega)]; exact ⟨1, Or.inr (Or.inl rfl), rfl, rfl⟩
      · rw [if_neg q2, if_pos (show v.toInt = lHi M m - lLo M m + 1 by omega)]; exact ⟨2, Or.inr (Or.inr rfl), rfl, rfl⟩
theorem so_fits (h : rR w S M) : gw_r2 w S (f_X8_fits x1 x2 x3 S) (f_X9_fits x1 x2 x3 M) := by
  have h0 := h
  obtain ⟨np, nb, t, hA, hT, hY, hO, hS, hI, hL⟩ := h
  obtain ⟨M', e1, e2, e3, e4, e5⟩ := hL.find
  unfold f_X8_fits f_X9_fits
  rcases hA.1.piece x1 with ⟨i, hi, rfl, d1, d2⟩ | ⟨d1, d2⟩
  · rw [d1, d2, gw_bdS, gw_bdS, if_neg (hA.np1 hi), if_neg pn_10, ps_isLabel, ps_br, ps_in, ps_br, ps_isIn, ps_br, ps_in, ps_br, e1, gw_bdS, pz_0, pz_2, pq_0, pq_1, pq_2, pq_40]
    by_cases c2 : 1 ≤ x2.toInt ∧ x2.toInt ≤ 40
    · rw [if_pos c2, if_pos c2]
      by_cases c3 : 0 ≤ x3.toInt ∧ x3.toInt ≤ 2
      · rw [if_pos c3, if_pos c3]
        have hT' : rT S M' := hT.fr rfl (e2 1 (by omega) (by omega) (by omega)) (e2 2 (by omega) (by omega) (by omega)) (e2 3 (by omega) (by omega) (by omega))
        obtain ⟨v, -, v1, v2⟩ := (hA.lies e2 e3).fit hT' e4 hi c2 c3
        rw [v1, v2, gw_bdS, gw_bdS]; exact gr2 rfl (h0.lies e2 e3)
      · rw [if_neg c3, if_neg c3]; exact gr2 rfl h0
    · rw [if_neg c2, if_neg c2]; exact gr2 rfl h0
  · rw [d1, d2, gw_bdS, gw_bdS, if_pos rfl, if_pos rfl]; exact gr2 rfl h0
end RRR
section RRS
variable {w np nb t i j p c a b f nd : Nat} {S M S' M' : gw_S} {x k x1 x2 x3 x4 x5 x6 u z d : Int32}
/-- how far a PIECE's sizes are off, and what it costs to choose it -/
def aOff (M : gw_S) (i j : Nat) : Int := max ((M 9 i).toInt + lLo M (M 8 i).toNatClampNeg + (M 14 i).toInt - (M 25 j).toInt) (-((M 9 i).toInt + lLo M (M 8 i).toNatClampNeg + (M 14 i).toInt - (M 25 j).toInt))
def aCost (M : gw_S) (i j : Nat) : Int := 16 * aOff M i j + (aPo M i j).toInt
theorem rA.offE (h : rA w np nb S M) (hF : lFd S M) (hi : i < np) (hj : j < nb) : ∃ m, m < 6 ∧ M 8 i = nI m ∧ (M 9 i + M 23 m + M 14 i - M 25 j).toInt = (M 9 i).toInt + lLo M m + (M 14 i).toInt - (M 25 j).toInt ∧ 0 ≤ aOff M i j ∧ aOff M i j ≤ 200 ∧ aOff M i j = max ((M 9 i).toInt + lLo M m + (M 14 i).toInt - (M 25 j).toInt) (-((M 9 i).toInt + lLo M m + (M 14 i).toInt - (M 25 j).toInt)) := by
  have hp := h.p hi
  obtain ⟨m, -, hm, em⟩ := rg_nI (lo := 0) (n := 5) hp.2.2.2.1.2.1 (by omega)
  obtain ⟨f1, f2, f3, f4, f5⟩ := hF m (by omega)
  have h9 : rg 1 40 (M 9 i) := hp.2.2.2.1.2.2.1
  have h14 : rg 0 3 (M 14 i) := hp.2.2.2.2.1
  have h25 : rg 1 40 (M 25 j) := (h.b hj).2.2.2.2.2.1
  unfold rg at h9 h14 h25
  have eo : aOff M i j = max ((M 9 i).toInt + lLo M m + (M 14 i).toInt - (M 25 j).toInt) (-((M 9 i).toInt + lLo M m + (M 14 i).toInt - (M 25 j).toInt)) := by
    unfold aOff; rw [em, nI_clamp (by omega)]
  refine ⟨m, by omega, em, ?_, by rw [eo]; omega, by rw [eo]; omega, eo⟩
  have hl : -9 ≤ (M 23 m).toInt ∧ (M 23 m).toInt ≤ 9 := by unfold lLo lHi at *; omega
  have a1 := pn_add (x := M 9 i) (y := M 23 m) (by omega) (by omega)
  have a2 := pn_add (x := M 9 i + M 23 m) (y := M 14 i) (by omega) (by omega)
  rw [pn_sbi (by omega) (by omega), a2, a1]; rfl
theorem rA.offC (h : rA w np nb S M) (hF : lFd S M) (hi : i < np) (hj : j < nb) : ∃ r, f_X2_offBy (nI i) (nI j) S = some r ∧ r.toInt = aOff M i j := by
  obtain ⟨m, hm, em, e1, e2, e3, e4⟩ := h.offE hF hi hj
  have hp := h.p hi
  have hb := h.b hj
  unfold f_X2_offBy
  rw [gw_gdT (h.np1 hi), gw_gdT (h.gp hi), h.cp hi, hp.1.2.1, em, ps_low hm, gw_bdS, gw_gdT (h.nb1 hj), gw_gdT (h.gb hj), h.cb hj, hp.1.2.2.1, hp.2.1.2.1, hb.1.2.1, (hF m hm).1]
  refine ⟨_, rfl, ?_⟩
  by_cases c0 : 0 ≤ M 9 i + M 23 m + M 14 i - M 25 j
  · rw [if_pos c0]; rw [ps_leI, Int32.toInt_zero] at c0; rw [e1] at c0 ⊢; rw [e4]; omega
  · rw [if_neg c0]; rw [ps_leI, Int32.toInt_zero] at c0
    rw [pn_sbi (by rw [Int32.toInt_zero]; omega) (by omega), Int32.toInt_zero, e1]; rw [e1] at c0; rw [e4]; omega
theorem rA.offM (h : rA w np nb S M) (hF : lFd S M) (hi : i < np) (hj : j < nb) : ∃ m r, m < 6 ∧ M 8 i = nI m ∧ f_X9_size (M 9 i + M 23 m + M 14 i - M 25 j) M = some r ∧ r.toInt = aOff M i j := by
  obtain ⟨m, hm, em, e1, e2, e3, e4⟩ := h.offE hF hi hj
  obtain ⟨r, r1, r2⟩ := pm_size (S := M) (x := M 9 i + M 23 m + M 14 i - M 25 j) (by rw [e1]; omega)
  exact ⟨m, r, hm, em, r1, by rw [r2, e1, e4]⟩
theorem rA.better (h : rA w np nb S M) (hO : rO S M) (hF : lFd S M) (hi : i < np) (hp : p < np) (hj : j < nb) : f_X2_isBetter (nI i) (nI p) (nI j) S = some (if aCost M i j < aCost M p j then 1 else 0) := by
  obtain ⟨r1, a1, a2⟩ := h.offC hF hi hj
  obtain ⟨r2, b1, b2⟩ := h.offC hF hp hj
  obtain ⟨-, -, -, -, i1, i2, -⟩ := h.offE hF hi hj
  obtain ⟨-, -, -, -, j1, j2, -⟩ := h.offE hF hp hj
  obtain ⟨p1, -, p3⟩ := h.po hO hi hj
  obtain ⟨q1, -, q3⟩ := h.po hO hp hj
  unfold rg at p3 q3
  unfold f_X2_isBetter
  rw [a1, b1, gw_bdS, gw_bdS, gw_gdT (h.np1 hi), gw_gdT (h.gp hi), gw_gdT (h.nb1 hj), gw_gdT (h.gb hj), h.cp hi, h.cb hj, (h.p hi).1.2.2.2.2.1, (h.b hj).1.2.2.2.2.1, p1, gw_bdS, gw_gdT (h.np1 hp), gw_gdT (h.gp hp), h.cp hp, (h.p hp).1.2.2.2.2.1, q1, gw_bdS]
  have e : r1 = r2 ↔ aOff M i j = aOff M p j := by rw [← Int32.toInt_inj, a2, b2]
  unfold aCost
  by_cases c1 : r1 = r2
  · rw [if_pos c1]
    have c1' := e.mp c1
    by_cases c2 : aPo M p j ≤ aPo M i j
    · rw [if_pos c2, if_neg]; rw [ps_leI] at c2; omega
    · rw [if_neg c2, if_pos]; rw [ps_leI] at c2; omega
  · rw [if_neg c1]
    have c1' : ¬ aOff M i j = aOff M p j := fun q => c1 (e.mpr q)
    by_cases c2 : r2 ≤ r1
    · rw [if_pos c2, if_neg]; rw [ps_leI, a2, b2] at c2; omega
    · rw [if_neg c2, if_pos]; rw [ps_leI, a2, b2] at c2; omega
/-- the best so far, there and here -/
def bSt (M : gw_S) (np j : Nat) (v v' least : Int32) : Prop := (v = -1 ∧ v' = -4) ∨ ∃ p, p < np ∧ v = nI p ∧ v' = nI p ∧ least.toInt = aCost M p j
theorem be_l (h : rA w np nb S M) (hT : rT S M) (hO : rO S M) (hF : lFd S M) (hj : j < nb) (hx : x2 = -1 ∨ 0 ≤ x2.toInt) : ∀ (q n n' : Nat) (v v' least : Int32), q ≤ np → q < n → q < n' → bSt M np j v v' least → ∃ r r', f_X2_bestFor_b5 S n (nI j) x2 v (nI (np - q)) = some r ∧ f_X9_givenOf_b9 M n' (nI j) x2 v' least (nI (np - q)) = some r' ∧ ((r = -1 ∧ r' = -4) ∨ ∃ p, p < np ∧ r = nI p ∧ r' = nI p)
  | 0, n + 1, n' + 1, v, v', least, _, _, _, hb => by
    have hnp := h.1.1.1
    rw [f_X2_bestFor_b5, f_X9_givenOf_b9, h.1.2.1.1, h.1.2.2.1.1, if_pos (nI_le (by omega) (by omega)), if_pos (nI_le (by omega) (by omega))]
    refine ⟨v, v', rfl, rfl, ?_⟩
    rcases hb with q | ⟨p, h1, h2, h3, -⟩
    · exact Or.inl q
    · exact Or.inr ⟨p, h1, h2, h3⟩
  | q + 1, n + 1, n' + 1, v, v', least, hq, hn, hn', hb => by
    have hnp := h.1.1.1
    obtain ⟨i, ei⟩ : ∃ i, np - (q + 1) = i := ⟨_, rfl⟩
    have hi : i < np := by omega
    have e1 : nI i + (1 : Int32) = nI (np - q) := by rw [← ei]; exact pn_s hq
    rw [ei]
    have skip : ∀ v v' least, bSt M np j v v' least → ∃ r r', f_X2_bestFor_b82 S (f_X2_bestFor_b5 S n) (nI j) x2 v (nI i) = some r ∧ f_X9_givenOf_b134 M (f_X9_givenOf_b9 M n') (nI j) x2 v' least (nI i) = some r' ∧ ((r = -1 ∧ r' = -4) ∨ ∃ p, p < np ∧ r = nI p ∧ r' = nI p) := fun v v' least hb => by
      unfold f_X2_bestFor_b82 f_X9_givenOf_b134
      rw [gw_letS, gw_letS, e1]
      exact be_l h hT hO hF hj hx q n n' v v' least (by omega) (by omega) (by omega) hb
    have hbj := h.b hj
    obtain ⟨fv, f0, f1, f2⟩ := h.fit hT hF hi (x2 := M 25 j) (x3 := M 26 j) hbj.2.2.2.2.2.1 hbj.2.2.2.2.2.2.1
    obtain ⟨fr, g0, g1, g2⟩ := h.free hT hO hi hj
    obtain ⟨m, sz, hm, em, s1, s2⟩ := h.offM hF hi hj
    obtain ⟨-, -, -, -, i1, i2, -⟩ := h.offE hF hi hj
    obtain ⟨-, p2, p3⟩ := h.po hO hi hj
    unfold rg at p3
    have cost : ((16 : Int32) * sz + aPo M i j).toInt = aCost M i j := by
      have m16 : ((16 : Int32) * sz).toInt = 16 * sz.toInt := by
        rw [Int32.toInt_mul, show (16 : Int32).toInt = 16 by decide, Int.bmod_eq_of_le] <;> omega
      rw [pn_add (by rw [m16]; omega) (by omega), m16, s2]; rfl
    have try1 : ∃ r r', f_X2_bestFor_b44 S (f_X2_bestFor_b5 S n) (nI j) x2 v (nI i) (nI i) = some r ∧ f_X9_givenOf_b33 M (f_X9_givenOf_b9 M n') (nI j) x2 v' least (nI i) = some r' ∧ ((r = -1 ∧ r' = -4) ∨ ∃ p, p < np ∧ r = nI p ∧ r' = nI p) := by
      unfold f_X2_bestFor_b44 f_X2_surelyFits f_X9_givenOf_b33 f_X2_bestFor_b79 f_X9_givenOf_b127
      rw [gw_gdT (h.nb1 hj), gw_gdT (h.gb hj), gw_gdT (h.inb hj), h.cb hj, hbj.1.2.1, hbj.1.2.2.1, f1, f2, gw_bdS, gw_bdS, g1, g2, gw_bdS, gw_bdS, gw_gdT (h.inp hi), h.cp hi, em, gw_gdT (pi_in hm (by omega)), nI_clamp (by omega), s1, gw_bdS, p2, gw_bdS, gw_letS]
      by_cases c1 : fv = 2
      · rw [if_pos c1, gw_bdS, if_neg pn_10, if_pos c1]
        by_cases c2 : fr = 0
        · rw [if_pos c2, if_pos c2]; exact skip _ _ _ hb
        · rw [if_neg c2, if_neg c2]
          have mine : bSt M np j (nI i) (nI i) ((16 : Int32) * sz + aPo M i j) := Or.inr ⟨i, hi, rfl, rfl, cost⟩
          rcases hb with ⟨b1, b2⟩ | ⟨p, b1, b2, b3, b4⟩
          · rw [if_pos b1, if_pos (by rw [b2]; decide)]; exact skip _ _ _ mine
          · have hp24 := h.ip b1
            rw [b2, b3, if_neg (h.np1 b1), if_neg (pn_n0 (by omega)), h.better hO hF hi b1 hj, gw_bdS]
            have hb' : bSt M np j (nI p) (nI p) least := Or.inr ⟨p, b1, rfl, rfl, b4⟩
            by_cases c3 : aCost M i j < aCost M p j
            · rw [if_pos c3, if_neg pn_10, if_neg (by rw [ps_leI, b4, cost]; omega)]; exact skip _ _ _ mine
            · rw [if_neg c3, if_pos rfl, if_pos (by rw [ps_leI, b4, cost]; omega)]; exact skip _ _ _ hb'
      · rw [if_neg c1, gw_bdS, if_pos rfl, if_neg c1]; exact skip _ _ _ hb
    rw [f_X2_bestFor_b5, f_X9_givenOf_b9, h.1.2.1.1, h.1.2.2.1.1, if_neg (pn_le hi (by omega)), if_neg (pn_le hi (by omega)), h.1.pieceAt hi, gw_bdS, if_neg (h.np1 hi), gw_gdT (h.gp hi), gw_gdT (h.inp hi), h.cp hi, (h.p hi).1.2.2.2.1]
    rcases hx with hx | hx
    · rw [if_pos hx, if_pos (by rw [hx]; decide)]; exact try1
    · rw [if_neg (show ¬ x2 = -1 from fun e => by rw [e] at hx; exact absurd hx (by decide)), if_neg (show ¬ x2 < 0 by rw [ps_ltI, Int32.toInt_zero]; omega)]
      by_cases c0 : M 10 i = x2
      · rw [if_pos c0, if_pos c0]; exact try1
      · rw [if_neg c0, if_neg c0]; exact skip _ _ _ hb
theorem rA.best (h : rA w np nb S M) (hT : rT S M) (hO : rO S M) (hF : lFd S M) (hj : j < nb) (hx : x2 = -1 ∨ 0 ≤ x2.toInt) : ∃ r r', f_X2_bestFor (nI j) x2 S = some r ∧ f_X9_givenOf (nI j) x2 M = some r' ∧ ((r = -1 ∧ r' = -4) ∨ ∃ p, p < np ∧ r = nI p ∧ r' = nI p) := by
  have hnp := h.1.1.1
  have hF' : np < gw_F := Nat.lt_of_le_of_lt hnp (by decide)
  have := be_l h hT hO hF hj hx np gw_F gw_F (-1) (-4) 0 (Nat.le_refl np) hF' hF' (Or.inl ⟨rfl, rfl⟩)
  rw [Nat.sub_self, show nI 0 = (0 : Int32) from rfl] at this
  exact this
theorem so_give (h : rR w S M) : gw_ex w (f_X8_give x1 S) (f_X9_give x1 M) := by
  have h0 := h
  obtain ⟨np, nb, t, hA, hT, hY, hO, hS, hI, hL⟩ := h
  obtain ⟨M', e1, e2, e3, e4, e5⟩ := hL.find
  unfold f_X8_give f_X9_give
  rcases hA.1.booking x1 with ⟨j, hj, rfl, d1, d2⟩ | ⟨d1, d2⟩
  · have hA' := hA.lies e2 e3
    have hC' : rC t S M' := rC.lies ⟨hT, hY, hO, hS, hI, hL⟩ e2 e3
    obtain ⟨r, r', b1, b2, b3⟩ := hA'.best hC'.1 hC'.2.2.1 e4 hj (x2 := -1) (Or.inl rfl)
    rw [d1, d2, gw_bdS, gw_bdS, if_neg (hA.nb1 hj), if_neg pn_10, gw_gdT (hA.gb hj), (hA.waits hj).1, (hA.waits hj).2, gw_bdS, gw_bdS, e1, gw_bdS, b1, b2, gw_bdS, gw_bdS, gw_letS, hA.cb hj]
    by_cases c : M 32 j = -1 ∧ ¬ 0 ≤ M 31 j
    · rw [if_pos c, if_neg pn_10, if_neg pn_10]
      have s0 : M' 33 j = 0 := by
        rw [e2 33 (by omega) (by omega) (by omega)]
        rcases (hA.b hj).2.2.2.1.2 with q | ⟨-, q⟩
        · exact q
        · exact absurd c.1 q
      have gb : j < gw_nb (gw_up S (2 * j + 31) 8 r) := by
        have := hA.gb hj
        unfold gw_nb at this ⊢
        rw [gw_upN (by omega)]; rw [hA.cb hj] at this; exact this
      unfold f_X9_give_b46 f_X0_pieceNumber
      rw [gw_gdT gb, gw_gdT (hA.inb hj), gw_gdT (hA.inb hj), gw_letS, gw_letS, gw_gdT (show (nI j).toNatClampNeg < gw_nb (gw_up S (2 * j + 31) 8 r) by rw [hA.cb hj]; exact gb), hA.cb hj, gw_upE, gw_rs]
      rcases b3 with ⟨q1, q2⟩ | ⟨p, hp, q1, q2⟩
      · rw [q1, q2, if_pos rfl, gw_bdS, if_neg (show ¬ 0 ≤ (-4 : Int32) by decide)]
        exact gx rfl (rC.rR hC'.give (hA'.give hj (Or.inl ⟨rfl, s0⟩)))
      · have hp24 := hA.ip hp
        have gp : (nI p).toNatClampNeg < gw_np (gw_up S (2 * j + 31) 8 (nI p)) := by
          have := hA.gp hp
          unfold gw_np at this ⊢
          rw [gw_upN (by omega)]; exact this
        rw [q1, q2, if_neg (hA.np1 hp), gw_gdT gp, gw_bdS, hA.cp hp, gw_upN (show 2 * p + 30 ≠ 2 * j + 31 by omega), (hA.p hp).2.1.1, if_pos (pn_p0 (by omega))]
        exact gx rfl (rC.rR hC'.give (hA'.give hj (Or.inr ⟨p, hp, rfl⟩)))
    · rw [if_neg c, if_pos rfl, if_pos rfl]; exact gx rfl h0
  · rw [d1, d2, gw_bdS, gw_bdS, if_pos rfl, if_pos rfl]; exact gx rfl h0
end RRS
section RRT
theorem st_1 : (z_S 3 6 = 0 ∧ z_S 3 7 = 0 ∧ z_S 29 0 = 0 ∧ z_S 29 1 = 0) ∧ (gw_zM 0 8 = 0 ∧ gw_zM 0 29 = 0) ∧ (∀ i, i < 24 → z_S 12 i = -1) ∧ ∀ j, j < 30 → z_S 13 j = -1 := by decide +kernel
theorem st_2 : (∀ i, i < 24 → gw_zM 14 i = 0 ∧ gw_zM 15 i = 0 ∧ gw_zM 16 i = 0 ∧ gw_zM 17 i = 0 ∧ gw_zM 18 i = 0) ∧ ∀ j, j < 30 → gw_zM 33 j = 0 ∧ gw_zM 34 j = 0 ∧ gw_zM 35 j = 0 := by decide +kernel
theorem st_3 : ∀ k, k < 8 → z_S 5 k = gw_zM 3 k ∧ (0 ≤ (gw_zM 3 k).toInt ∧ (gw_zM 3 k).toInt ≤ (gw_MST k).toInt) ∧ gw_zM 1 k = gw_LET k ∧ gw_zM 2 k = gw_MST k := by decide +kernel
theorem st_4 : z_S 1 1 = 0 ∧ gw_zM 0 5 = 0 := by decide +kernel
theorem st_5 : ∀ i, i < 81 → z_S 11 i = gw_zM 6 i ∧ (0 ≤ (gw_zM 6 i).toInt ∧ (gw_zM 6 i).toInt ≤ 9) := by decide +kernel
theorem st_6 : ∀ a, a < 4 → (z_S (21 + a) 1 = 0 ∧ gw_zM 43 a = -1) ∧ (z_S (21 + a) 3 = gw_zM 44 a ∧ (0 ≤ (gw_zM 44 a).toInt ∧ (gw_zM 44 a).toInt ≤ 36)) ∧ ∀ i, i < 36 → z_S (25 + a) i = gw_zM 45 (36 * a + i) := by decide +kernel
theorem st_7 : ∀ j, j < 30 → z_S 14 j = 0 := by decide +kernel
theorem st_8 : (z_S 7 3 = 0 ∧ gw_zM 0 21 = 0 ∧ z_S 7 4 = 0 ∧ z_S 9 0 = 0 ∧ z_S 10 0 = 0) ∧ (∀ a, a < 6 → ∀ b, b < 6 → (z_S 8 (6 * a + b)).toInt = if a = b then 0 else (if a = 0 then 0 else 9) + (if b = 0 then 0 else 9)) ∧ ∀ m, m < 6 → (z_S 9 m).toInt = - (z_S 8 (6 * m + 0)).toInt ∧ (z_S 10 m).toInt = (z_S 8 (6 * 0 + m)).toInt := by decide +kernel
theorem rR.start : rR 0 z_S gw_zM := by
  obtain ⟨⟨a1, a2, a3, a4⟩, ⟨a5, a6⟩, a7, a8⟩ := st_1
  refine ⟨0, 0, 0, ⟨⟨by omega, ⟨a1, a2, a3, a4⟩, ⟨a5, a6⟩, fun i hi => by rw [a7 i hi, if_neg (by omega)], fun j hj => by rw [a8 j hj, if_neg (by omega)]⟩, fun i hi => absurd hi (by omega), fun i _ hi => st_2.1 i hi, fun j hj => absurd hj (by omega), fun j _ hj => st_2.2 j hj⟩, st_3, ⟨by omega, st_4.1, st_4.2, fun i hi => absurd hi (by omega)⟩, st_5, fun a ha => ⟨Or.inl (st_6 a ha).1, (st_6 a ha).2.1, (st_6 a ha).2.2⟩, st_7, 0, ?_⟩
  obtain ⟨⟨b1, b2, b3, b4, b5⟩, b6, b7⟩ := st_8
  have hd : ∀ a b, a < 6 → b < 6 → lD z_S a b = if a = b then 0 else lBox a b := fun a b ha hb => b6 a ha b hb
  have box : ∀ a b, 0 ≤ lBox a b := fun a b => by unfold lBox; split <;> split <;> omega
  refine ⟨⟨by omega, b1, b2⟩, fun k hk => absurd hk (by omega), ⟨b4, b5⟩, Or.inr ⟨b3, fun m _ hm => b7 m hm, fun a ha => by rw [hd a a ha ha, if_pos rfl], fun a b v ha hb hv => ?_, fun a b ha hb => ?_, fun l hl a b ha hb => ?_, fun k hk => absurd hk (by omega)⟩⟩
  · rw [hd a b ha hb, hd a v ha hv, hd v b hv hb]
    have h1 := box a v
    have h2 := box v b
    by_cases e1 : a = b
    · rw [if_pos e1]; split <;> split <;> omega
    · rw [if_neg e1]
      by_cases e2 : a = v
      · subst e2; rw [if_pos rfl, if_neg e1]; omega
      · rw [if_neg e2]
        by_cases e3 : v = b
        · subst e3; rw [if_pos rfl]; omega
        · rw [if_neg e3]
          unfold lBox
          split <;> split <;> split <;> omega
  · rw [hd a b ha hb]; have := box a b; split <;> omega
  · rw [hd a b ha hb]
    have h1 := hl.2.1 a ha
    have h2 := hl.2.1 b hb
    by_cases e1 : a = b
    · subst e1; rw [if_pos rfl]; omega
    · rw [if_neg e1]
      unfold lBox
      by_cases ea : a = 0
      · rw [if_pos ea, ea, hl.1, if_neg (by omega)]; omega
      · rw [if_neg ea]
        by_cases eb : b = 0
        · rw [if_pos eb, eb, hl.1]; omega
        · rw [if_neg eb]; omega
end RRT
