section
section RRU
variable {w np nb t i j p c a b f nd : Nat} {S M S' M' : gw_S} {x k x1 x2 x3 x4 x5 x6 u z d v : Int32}
theorem p_mul6 : ∀ i, i < 6 → ∀ j, j < 6 → nI i * 6 + nI j = nI (6 * i + j) := by decide +kernel
theorem sp_of (ha : a < 6) (hb : b < 6) : f_X3_spanOf (nI a) (nI b) S = some (S 8 (6 * a + b)) := by
  unfold f_X3_spanOf
  rw [p_mul6 a ha b hb, gw_letS, if_neg (pn_n0 (by omega)), if_neg (show ¬ (36 : Int32) ≤ nI (6 * a + b) from pn_le (n := 36) (by omega) (by omega)), gw_gdT (pi_in (by omega) (by omega)), nI_clamp (by omega)]
/-- a span is tightened -/
theorem tg_s (ha : a < 6) (hb : b < 6) : ∃ S1, f_X3_tighten (nI a) (nI b) v S = some S1 ∧ (∀ x y, x < 6 → y < 6 → lD S1 x y = if x = a ∧ y = b then (if v.toInt < lD S a b then v.toInt else lD S a b) else lD S x y) ∧ ∀ r, r ≠ 8 → S1 r = S r := by
  unfold f_X3_tighten
  rw [p_mul6 a ha b hb, gw_letS, if_neg (pn_n0 (by omega)), if_neg (show ¬ (36 : Int32) ≤ nI (6 * a + b) from pn_le (n := 36) (by omega) (by omega)), gw_gdT (pi_in (by omega) (by omega)), nI_clamp (by omega), gw_letS]
  by_cases c1 : S 8 (6 * a + b) ≤ v
  · rw [if_pos c1]
    rw [ps_leI] at c1
    refine ⟨S, rfl, fun x y hx hy => ?_, fun _ _ => rfl⟩
    by_cases e : x = a ∧ y = b
    · rw [if_pos e, if_neg (by unfold lD; omega), e.1, e.2]
    · rw [if_neg e]
  · rw [if_neg c1]
    rw [ps_leI] at c1
    refine ⟨_, rfl, fun x y hx hy => ?_, fun r hr => gw_upN hr⟩
    unfold lD
    rw [gw_upE]
    by_cases e : x = a ∧ y = b
    · rw [if_pos e, if_pos (by omega), e.1, e.2, gw_rs]
    · rw [if_neg e, gw_ru (by omega)]
end RRU
section RRV
variable {w np nb t i j p c a b f nd : Nat} {S S0 M S' M' : gw_S} {x k x1 x2 x3 x4 x5 x6 u z d v : Int32}
theorem pn_addB {x y : Int32} (h : -1000000000 ≤ x.toInt ∧ x.toInt ≤ 1000000000) (h2 : -1000000000 ≤ y.toInt ∧ y.toInt ≤ 1000000000) : (x + y).toInt = x.toInt + y.toInt := by
  rw [Int32.toInt_add, Int.bmod_eq_of_le] <;> omega
/-- the spans inside one step of closing -/
def fwI (k : Nat) (B : Int) (D0 : Nat → Nat → Int) (pos : Nat) (S0 S : gw_S) : Prop :=
  (∀ x y, x < 6 → y < 6 → pos ≤ 6 * x + y → lD S x y = D0 x y) ∧
  (∀ x y, x < 6 → y < 6 → 6 * x + y < pos → lD S x y ≤ D0 x y ∧ -(6 * B) ≤ lD S x y ∧ ((x = k ∨ y = k) → -(3 * B) ≤ lD S x y) ∧ (x = k → y = k → -(2 * B) ≤ lD S x y) ∧ (0 ≤ D0 k k → lD S x y = min (D0 x y) (D0 x k + D0 k y))) ∧
  (∀ l : Nat → Int, (∀ x y, x < 6 → y < 6 → l y - l x ≤ D0 x y) → ∀ x y, x < 6 → y < 6 → l y - l x ≤ lD S x y) ∧ ∀ r, r ≠ 8 → S r = S0 r
theorem fw_step {k : Nat} {B : Int} {D0 : Nat → Nat → Int} (hB : 0 ≤ B ∧ B ≤ 100000000) (hD : ∀ x y, x < 6 → y < 6 → -B ≤ D0 x y ∧ D0 x y ≤ 40) (hk : k < 6) (ha : a < 6) (hb : b < 6) (h : fwI k B D0 (6 * a + b) S0 S) : ∃ r1 r2 S1, f_X3_spanOf (nI a) (nI k) S = some r1 ∧ f_X3_spanOf (nI k) (nI b) S = some r2 ∧ f_X3_tighten (nI a) (nI b) (r1 + r2) S = some S1 ∧ fwI k B D0 (6 * a + b + 1) S0 S1 := by
  obtain ⟨h1, h2, h3, h4⟩ := h
  obtain ⟨S1, t1, t2, t3⟩ := tg_s (S := S) (v := S 8 (6 * a + k) + S 8 (6 * k + b)) ha hb
  refine ⟨_, _, S1, sp_of ha hk, sp_of hk hb, t1, ?_⟩
  have bd : ∀ x y, x < 6 → y < 6 → -(6 * B) ≤ lD S x y ∧ lD S x y ≤ 40 := fun x y hx hy => by
    have := hD x y hx hy
    by_cases e : 6 * x + y < 6 * a + b
    · have := h2 x y hx hy e; omega
    · rw [h1 x y hx hy (by omega)]; omega
  have ev : (S 8 (6 * a + k) + S 8 (6 * k + b)).toInt = lD S a k + lD S k b := by
    have u1 := bd a k ha hk
    have u2 := bd k b hk hb
    exact pn_addB (by unfold lD at u1; omega) (by unfold lD at u2; omega)
  have Dab : lD S a b = D0 a b := h1 a b ha hb (Nat.le_refl _)
  rw [ev] at t2
  refine ⟨fun x y hx hy hp => ?_, fun x y hx hy hp => ?_, fun l hl x y hx hy => ?_, fun r hr => by rw [t3 r hr, h4 r hr]⟩
  · rw [t2 x y hx hy, if_neg (by omega)]; exact h1 x y hx hy (by omega)
  · by_cases e : x = a ∧ y = b
    · obtain ⟨rfl, rfl⟩ := e
      rw [t2 x y hx hy, if_pos ⟨rfl, rfl⟩, Dab]
      have q0 := hD x y hx hy
      have q1 := hD x k hx hk
      have q2 := hD k y hk hy
      have q3 := hD k k hk hk
      -- what stands at (x, k) and (k, y) now
      have r1 : lD S x k ≤ D0 x k ∧ -(3 * B) ≤ lD S x k ∧ (x = k → -(2 * B) ≤ lD S x k) ∧ (6 * x + y ≤ 6 * x + k → lD S x k = D0 x k) ∧ (0 ≤ D0 k k → lD S x k = D0 x k) := by
        by_cases e : 6 * x + k < 6 * x + y
        · obtain ⟨g1, g2, g3, g4, g5⟩ := h2 x k hx hk e
          refine ⟨g1, g3 (Or.inr rfl), fun e1 => g4 e1 rfl, fun q => absurd q (by omega), fun q => ?_⟩
          rw [g5 q]; omega
        · have := h1 x k hx hk (by omega)
          rw [this]; exact ⟨Int.le_refl _, by omega, fun _ => by omega, fun _ => rfl, fun _ => rfl⟩
      have r2 : lD S k y ≤ D0 k y ∧ -(3 * B) ≤ lD S k y ∧ (y = k → -(2 * B) ≤ lD S k y) ∧ (6 * x + y ≤ 6 * k + y → lD S k y = D0 k y) ∧ (0 ≤ D0 k k → lD S k y = D0 k y) := by
        by_cases e : 6 * k + y < 6 * x + y
        · obtain ⟨g1, g2, g3, g4, g5⟩ := h2 k y hk hy e
          refine ⟨g1, g3 (Or.inl rfl), fun e1 => g4 rfl e1, fun q => absurd q (by omega), fun q => ?_⟩
          rw [g5 q]; omega
        · have := h1 k y hk hy (by omega)
          rw [this]; exact ⟨Int.le_refl _, by omega, fun _ => by omega, fun _ => rfl, fun _ => rfl⟩
      obtain ⟨a1, a2, a3, a4, a5⟩ := r1
      obtain ⟨b1, b2, b3, b4, b5⟩ := r2
      refine ⟨by split <;> omega, by split <;> omega, fun q => ?_, fun q1 q2 => ?_, fun q => ?_⟩
      · rcases q with rfl | rfl
        · -- x = k: (k, k) is at hand, (k, y) is not done
          have := b4 (by omega); have := a3 rfl
          split <;> omega
        · -- y = k: (x, k) is not done
          have := a4 (by omega); have := b3 rfl
          split <;> omega
      · subst q1; subst q2
        have := a4 (by omega); have := b4 (by omega)
        split <;> omega
      · rw [a5 q, b5 q]; split <;> omega
    · rw [t2 x y hx hy, if_neg e]
      exact h2 x y hx hy (by omega)
  · have u1 := h3 l hl
    rw [t2 x y hx hy]
    by_cases e : x = a ∧ y = b
    · obtain ⟨rfl, rfl⟩ := e
      rw [if_pos ⟨rfl, rfl⟩]
      have v1 := u1 x k hx hk
      have v2 := u1 k y hk hy
      have v3 := u1 x y hx hy
      split <;> omega
    · rw [if_neg e]; exact u1 x y hx hy
end RRV
section RRW
variable {w np nb t i j p c a b f nd : Nat} {S S0 M S' M' : gw_S} {x x1 x2 x3 x4 x5 x6 u z d v : Int32}
theorem fw_18 {K2 : Int32 → gw_S → Option gw_S} {K10 : Int32 → Int32 → gw_S → Option gw_S} {k : Nat} {B : Int} {D0 : Nat → Nat → Int} (hB : 0 ≤ B ∧ B ≤ 100000000) (hD : ∀ x y, x < 6 → y < 6 → -B ≤ D0 x y ∧ D0 x y ≤ 40) (hk : k < 6) (ha : a < 6) : ∀ (q n b : Nat) (S : gw_S), b + q = 6 → q < n → fwI k B D0 (6 * a + b) S0 S → ∃ S1, f_X3_close_b18 K2 K10 n (nI k) (nI a) (nI b) S = K10 (nI k) (nI (a + 1)) S1 ∧ fwI k B D0 (6 * a + 6) S0 S1
  | 0, n + 1, b, S, hb, _, h => by
    have e : b = 6 := by omega
    subst e
    rw [f_X3_close_b18, if_pos (by decide), gw_letS, pn_a1]
    exact ⟨S, rfl, h⟩
  | q + 1, n + 1, b, S, hb, hn, h => by
    obtain ⟨r1, r2, S1, e1, e2, e3, e4⟩ := fw_step hB hD hk ha (show b < 6 by omega) h
    rw [f_X3_close_b18, if_neg (show ¬ (6 : Int32) ≤ nI b from pn_le (n := 6) (by omega) (by omega)), e1, gw_bdS, e2, gw_bdS, e3, gw_bdS, gw_letS, pn_a1]
    exact fw_18 hB hD hk ha q n (b + 1) S1 (by omega) (by omega) e4
theorem fw_10 {K2 : Int32 → gw_S → Option gw_S} {k : Nat} {B : Int} {D0 : Nat → Nat → Int} (hB : 0 ≤ B ∧ B ≤ 100000000) (hD : ∀ x y, x < 6 → y < 6 → -B ≤ D0 x y ∧ D0 x y ≤ 40) (hk : k < 6) : ∀ (q n a : Nat) (S : gw_S), a + q = 6 → q < n → fwI k B D0 (6 * a) S0 S → ∃ S1, f_X3_close_b10 K2 n (nI k) (nI a) S = K2 (nI (k + 1)) S1 ∧ fwI k B D0 36 S0 S1
  | 0, n + 1, a, S, ha, _, h => by
    have e : a = 6 := by omega
    subst e
    rw [f_X3_close_b10, if_pos (by decide), gw_letS, pn_a1]
    exact ⟨S, rfl, h⟩
  | q + 1, n + 1, a, S, ha, hn, h => by
    rw [f_X3_close_b10, if_neg (show ¬ (6 : Int32) ≤ nI a from pn_le (n := 6) (by omega) (by omega))]
    obtain ⟨S1, e1, e2⟩ := fw_18 (K2 := K2) (K10 := f_X3_close_b10 K2 n) hB hD hk (show a < 6 by omega) 6 gw_F 0 S (by omega) (by decide) h
    rw [show nI 0 = (0 : Int32) from rfl] at e1
    rw [e1]
    exact fw_10 hB hD hk q n (a + 1) S1 (by omega) (by omega) e2
/-- the spans behind some steps -/
def fwJ (k : Nat) (B : Int) (Di : Nat → Nat → Int) (S0 S : gw_S) : Prop :=
  (∀ x y, x < 6 → y < 6 → -B ≤ lD S x y ∧ lD S x y ≤ Di x y) ∧ ((∃ x, x < 6 ∧ lD S x x < 0) ∨ ∀ v x y, v < k → x < 6 → y < 6 → lD S x y ≤ lD S x v + lD S v y) ∧ (∀ l : Nat → Int, (∀ x y, x < 6 → y < 6 → l y - l x ≤ Di x y) → ∀ x y, x < 6 → y < 6 → l y - l x ≤ lD S x y) ∧ ∀ r, r ≠ 8 → S r = S0 r
theorem fw_via {K2 : Int32 → gw_S → Option gw_S} {k : Nat} {B : Int} {Di : Nat → Nat → Int} (hB : 0 ≤ B ∧ B ≤ 10000000) (hi : ∀ x y, x < 6 → y < 6 → Di x y ≤ 40) (hk : k < 6) (h : fwJ k B Di S0 S) : ∃ S1, f_X3_close_b10 K2 gw_F (nI k) 0 S = K2 (nI (k + 1)) S1 ∧ fwJ (k + 1) (6 * B) Di S0 S1 := by
  obtain ⟨h1, h2, h3, h4⟩ := h
  obtain ⟨S1, e1, g1, g2, g3, g4⟩ := fw_10 (K2 := K2) (S0 := S0) (k := k) (B := B) (D0 := lD S) (by omega) (fun x y hx hy => by have := h1 x y hx hy; have := hi x y hx hy; omega) hk 6 gw_F 0 S (by omega) (by decide) ⟨fun _ _ _ _ _ => rfl, fun x y _ _ hp => absurd hp (by omega), fun l hl => hl, h4⟩
  rw [show nI 0 = (0 : Int32) from rfl] at e1
  refine ⟨S1, e1, fun x y hx hy => ?_, ?_, fun l hl => g3 l (h3 l hl), g4⟩
  · have u := g2 x y hx hy (by omega)
    have := h1 x y hx hy
    exact ⟨u.2.1, by omega⟩
  · by_cases hn : ∃ x, x < 6 ∧ lD S x x < 0
    · obtain ⟨x, hx, hq⟩ := hn
      have u := g2 x x hx hx (by omega)
      exact Or.inl ⟨x, hx, by omega⟩
    · have hkk : 0 ≤ lD S k k := by
        by_cases q : 0 ≤ lD S k k
        · exact q
        · exact absurd ⟨k, hk, by omega⟩ hn
      rcases h2 with h2 | h2
      · exact absurd h2 hn
      · refine Or.inr (fun v x y hv hx hy => ?_)
        have d : ∀ x y, x < 6 → y < 6 → lD S1 x y = min (lD S x y) (lD S x k + lD S k y) := fun x y hx hy => (g2 x y hx hy (by omega)).2.2.2.2 hkk
        have hv6 : v < 6 := by omega
        rw [d x y hx hy, d x v hx hv6, d v y hv6 hy]
        by_cases e : v = k
        · subst e; omega
        · have hv' : v < k := by omega
          have t1 := h2 v x y hv' hx hy
          have t2 := h2 v x k hv' hx hk
          have t3 := h2 v k y hv' hk hy
          have t4 := h2 v k k hv' hk hk
          omega
end RRW
section RRX
variable {w np nb t i j p c a b f nd : Nat} {S S0 M S' M' : gw_S} {x x1 x2 x3 x4 x5 x6 u z d v : Int32}
theorem fw_63 : ∀ (q n m : Nat) (S : gw_S), m + q = 6 → q < n → ∃ S1, f_X3_close_b63 n (nI m) S = some S1 ∧ ((∃ x, m ≤ x ∧ x < 6 ∧ lD S x x < 0) ∧ S1 7 4 = 1 ∨ (∀ x, m ≤ x → x < 6 → 0 ≤ lD S x x) ∧ S1 7 4 = S 7 4) ∧ S1 7 3 = S 7 3 ∧ ∀ r, r ≠ 7 → S1 r = S r
  | 0, n + 1, m, S, hm, _ => by
    have e : m = 6 := by omega
    subst e
    rw [f_X3_close_b63, if_pos (by decide)]
    exact ⟨S, rfl, Or.inr ⟨fun x h1 h2 => absurd h2 (by omega), rfl⟩, rfl, fun _ _ => rfl⟩
  | q + 1, n + 1, m, S, hm, hn => by
    have hm6 : m < 6 := by omega
    rw [f_X3_close_b63, if_neg (show ¬ (6 : Int32) ≤ nI m from pn_le (n := 6) hm6 (by omega)), sp_of hm6 hm6, gw_bdS]
    unfold f_X3_close_b83
    simp only [gw_letS, pn_a1]
    by_cases c0 : 0 ≤ S 8 (6 * m + m)
    · rw [if_pos c0]
      rw [ps_leI, Int32.toInt_zero] at c0
      obtain ⟨S1, e1, e2, e3, e4⟩ := fw_63 q n (m + 1) S (by omega) (by omega)
      refine ⟨S1, e1, ?_, e3, e4⟩
      rcases e2 with ⟨⟨x, g1, g2, g3⟩, g4⟩ | ⟨g1, g2⟩
      · exact Or.inl ⟨⟨x, by omega, g2, g3⟩, g4⟩
      · refine Or.inr ⟨fun x h1 h2 => ?_, g2⟩
        by_cases e : x = m
        · subst e; exact c0
        · exact g1 x (by omega) h2
    · rw [if_neg c0]
      rw [ps_leI, Int32.toInt_zero] at c0
      obtain ⟨S1, e1, e2, e3, e4⟩ := fw_63 q n (m + 1) (gw_up S 7 4 1) (by omega) (by omega)
      refine ⟨S1, e1, Or.inl ⟨⟨m, Nat.le_refl m, hm6, by unfold lD; omega⟩, ?_⟩, by rw [e3, gw_upE, gw_ru (by omega)], fun r hr => by rw [e4 r hr, gw_upN hr]⟩
      rcases e2 with ⟨-, g4⟩ | ⟨-, g2⟩
      · exact g4
      · rw [g2, gw_upE, gw_rs]
theorem fw_2 {Di : Nat → Nat → Int} (hi : ∀ x y, x < 6 → y < 6 → Di x y ≤ 40) : ∀ (q n k : Nat) (B : Int) (S : gw_S), k + q = 6 → q < n → 0 ≤ B → B * 6 ^ q ≤ 10000000 → fwJ k B Di S0 S → ∃ S1 B', f_X3_close_b2 n (nI k) S = f_X3_close_b63 gw_F 0 S1 ∧ fwJ 6 B' Di S0 S1
  | 0, n + 1, k, B, S, hk, _, _, _, h => by
    have e : k = 6 := by omega
    subst e
    rw [f_X3_close_b2, if_pos (by decide)]
    exact ⟨S, B, rfl, h⟩
  | q + 1, n + 1, k, B, S, hk, hn, hB0, hB, h => by
    have hk6 : k < 6 := by omega
    have p6 : (1 : Int) ≤ 6 ^ (q + 1) := by
      have : (0 : Int) < 6 ^ (q + 1) := Int.pow_pos (by omega)
      omega
    have hB1 : B ≤ 10000000 := by
      have : B * 1 ≤ B * 6 ^ (q + 1) := Int.mul_le_mul_of_nonneg_left p6 hB0
      omega
    obtain ⟨S1, e1, e2⟩ := fw_via (K2 := f_X3_close_b2 n) (S0 := S0) ⟨hB0, hB1⟩ hi hk6 h
    rw [f_X3_close_b2, if_neg (show ¬ (6 : Int32) ≤ nI k from pn_le (n := 6) hk6 (by omega)), e1]
    refine fw_2 hi q n (k + 1) (6 * B) S1 (by omega) (by omega) (by omega) ?_ e2
    have e3 : 6 * B * 6 ^ q = B * 6 ^ (q + 1) := by rw [Int.pow_succ, Int.mul_comm 6 B, Int.mul_assoc, Int.mul_comm 6 (6 ^ q)]
    omega
/-- closed -/
theorem fw_close {Di : Nat → Nat → Int} (hi : ∀ x y, x < 6 → y < 6 → -40 ≤ Di x y ∧ Di x y ≤ 40) (hS : ∀ x y, x < 6 → y < 6 → lD S x y = Di x y) : ∃ S1, f_X3_close S = some S1 ∧ (∀ x y, x < 6 → y < 6 → lD S1 x y ≤ Di x y) ∧ (∀ l : Nat → Int, (∀ x y, x < 6 → y < 6 → l y - l x ≤ Di x y) → ∀ x y, x < 6 → y < 6 → l y - l x ≤ lD S1 x y) ∧ (((∃ x, x < 6 ∧ lD S1 x x < 0) ∧ S1 7 4 = 1) ∨ ((∀ x, x < 6 → 0 ≤ lD S1 x x) ∧ S1 7 4 = S 7 4 ∧ ∀ v x y, v < 6 → x < 6 → y < 6 → lD S1 x y ≤ lD S1 x v + lD S1 v y)) ∧ S1 7 3 = S 7 3 ∧ ∀ r, r ≠ 7 → r ≠ 8 → S1 r = S r := by
  obtain ⟨S1, B', e1, g1, g2, g3, g4⟩ := fw_2 (S0 := S) (Di := Di) (fun x y hx hy => (hi x y hx hy).2) 6 gw_F 0 40 S (by omega) (by decide) (by omega) (by decide) ⟨fun x y hx hy => by rw [hS x y hx hy]; have := hi x y hx hy; omega, Or.inr (fun v x y hv => absurd hv (by omega)), fun l hl x y hx hy => by rw [hS x y hx hy]; exact hl x y hx hy, fun _ _ => rfl⟩
  rw [show nI 0 = (0 : Int32) from rfl] at e1
  obtain ⟨S2, k1, k2, k3, k4⟩ := fw_63 6 gw_F 0 S1 (by omega) (by decide)
  rw [show nI 0 = (0 : Int32) from rfl] at k1
  have l2 : ∀ x y, lD S2 x y = lD S1 x y := fun x y => by unfold lD; rw [k4 8 (by omega)]
  unfold f_X3_close
  rw [e1, k1]
  refine ⟨S2, rfl, fun x y hx hy => by rw [l2]; exact (g1 x y hx hy).2, fun l hl x y hx hy => by rw [l2]; exact g3 l hl x y hx hy, ?_, by rw [k3, g4 7 (by omega)], fun r h7 h8 => by rw [k4 r h7, g4 r h8]⟩
  rcases k2 with ⟨⟨x, -, hx, hq⟩, h4⟩ | ⟨hq, h4⟩
  · exact Or.inl ⟨⟨x, hx, by rw [l2]; exact hq⟩, h4⟩
  · refine Or.inr ⟨fun x hx => by rw [l2]; exact hq x (by omega) hx, by rw [h4, g4 7 (by omega)], fun v x y hv hx hy => ?_⟩
    rw [l2, l2, l2]
    rcases g2 with ⟨x', hx', hn⟩ | g2
    · have := hq x' (by omega) hx'; omega
    · exact g2 v x y hv hx hy
end RRX
section RRY
variable {S S1 : gw_S}
theorem re_l : ∀ (q n m : Nat) (S : gw_S), m + q = 6 → q < n → ∃ S1, f_X3_readEnds_b2 n (nI m) S = some S1 ∧ (∀ x, m ≤ x → x < 6 → S1 9 x = (if S 7 4 = 0 then -(S 8 (6 * x + 0)) else -9) ∧ S1 10 x = (if S 7 4 = 0 then S 8 (6 * 0 + x) else 9)) ∧ (∀ x, x < m → S1 9 x = S 9 x ∧ S1 10 x = S 10 x) ∧ ∀ r, r ≠ 9 → r ≠ 10 → S1 r = S r
  | 0, n + 1, m, S, hm, _ => by
    have e : m = 6 := by omega
    subst e
    rw [f_X3_readEnds_b2, if_pos (by decide)]
    exact ⟨S, rfl, fun x h1 h2 => absurd h2 (by omega), fun x _ => ⟨rfl, rfl⟩, fun _ _ _ => rfl⟩
  | q + 1, n + 1, m, S, hm, hn => by
    have hm6 : m < 6 := by omega
    have hg : gw_in (nI m) 6 := pi_in hm6 (by omega)
    have gen : ∀ v1 v2 : Int32, v1 = (if S 7 4 = 0 then -(S 8 (6 * m + 0)) else -9) → v2 = (if S 7 4 = 0 then S 8 (6 * 0 + m) else 9) → ∃ S1, f_X3_readEnds_b2 n (nI (m + 1)) (gw_up (gw_up S 9 m v1) 10 m v2) = some S1 ∧ (∀ x, m ≤ x → x < 6 → S1 9 x = (if S 7 4 = 0 then -(S 8 (6 * x + 0)) else -9) ∧ S1 10 x = (if S 7 4 = 0 then S 8 (6 * 0 + x) else 9)) ∧ (∀ x, x < m → S1 9 x = S 9 x ∧ S1 10 x = S 10 x) ∧ ∀ r, r ≠ 9 → r ≠ 10 → S1 r = S r := fun v1 v2 w1 w2 => by
      obtain ⟨S1, e1, e2, e3, e4⟩ := re_l q n (m + 1) (gw_up (gw_up S 9 m v1) 10 m v2) (by omega) (by omega)
      refine ⟨S1, e1, fun x h1 h2 => ?_, fun x h1 => ?_, fun r h1 h2 => by rw [e4 r h1 h2, gw_upN h2, gw_upN h1]⟩
      · by_cases e : x = m
        · subst e
          have := e3 x (by omega)
          rw [this.1, this.2, gw_upN (show 9 ≠ 10 by omega), gw_upE, gw_upE, gw_rs, gw_rs]
          exact ⟨w1, w2⟩
        · exact e2 x (by omega) h2
      · have := e3 x (by omega)
        rw [this.1, this.2, gw_upN (show 9 ≠ 10 by omega), gw_upE, gw_upE, gw_ru (by omega), gw_ru (by omega), gw_upN (show 10 ≠ 9 by omega)]
        exact ⟨rfl, rfl⟩
    rw [f_X3_readEnds_b2, if_neg (show ¬ (6 : Int32) ≤ nI m from pn_le (n := 6) hm6 (by omega)), show (0 : Int32) = nI 0 from rfl, sp_of hm6 (show 0 < 6 by omega), gw_bdS]
    unfold f_X3_readEnds_b32 f_X3_readEnds_b56
    simp only [gw_gdT hg, gw_letS, pn_a1, nI_clamp (show m < 2 ^ 31 by omega)]
    have sp : ∀ v : Int32, f_X3_spanOf 0 (nI m) (gw_up S 9 m v) = some (S 8 (6 * 0 + m)) := fun v => sp_of (S := gw_up S 9 m v) (a := 0) (show 0 < 6 by omega) hm6
    have z : ∀ v : Int32, gw_up S 9 m v 7 4 = S 7 4 := fun v => rfl
    rw [show nI 0 = (0 : Int32) from rfl]
    simp only [sp, z, gw_bdS]
    by_cases c : S 7 4 = 0
    · rw [if_pos c, if_pos c]
      exact gen _ _ (by rw [if_pos c]) (by rw [if_pos c])
    · rw [if_neg c, if_neg c]
      exact gen _ _ (by rw [if_neg c]) (by rw [if_neg c])
end RRY
section RRZ
variable {w np nb t i j p c a b f nd : Nat} {S S0 M S' M' : gw_S} {x x1 x2 x3 x4 x5 x6 u z d v : Int32}
/-- one DOUBLE more, here -/
def sDb (nd : Nat) (M : gw_S) (x1 x2 x3 x4 : Int32) : gw_S := gw_up (gw_up (gw_up (gw_up (gw_up M 19 nd x1) 20 nd x2) 21 nd x3) 22 nd x4) 0 21 (nI (nd + 1))
theorem lF_more {l : Nat → Int} (ha : x1 = nI a) (hb : x3 = nI b) (ha6 : a < 6) (hb6 : b < 6) : lF (nd + 1) (sDb nd M x1 x2 x3 x4) l ↔ lF nd M l ∧ x4.toInt - x2.toInt - 1 ≤ l a - l b ∧ l a - l b ≤ x4.toInt - x2.toInt + 1 := by
  have e19 : sDb nd M x1 x2 x3 x4 19 = upd (M 19) nd x1 := rfl
  have e20 : sDb nd M x1 x2 x3 x4 20 = upd (M 20) nd x2 := rfl
  have e21 : sDb nd M x1 x2 x3 x4 21 = upd (M 21) nd x3 := rfl
  have e22 : sDb nd M x1 x2 x3 x4 22 = upd (M 22) nd x4 := rfl
  unfold lF
  rw [e19, e20, e21, e22]
  constructor
  · rintro ⟨h1, h2, h3⟩
    refine ⟨⟨h1, h2, fun k hk => ?_⟩, ?_⟩
    · have := h3 k (by omega)
      rw [gw_ru (by omega), gw_ru (by omega), gw_ru (by omega), gw_ru (by omega)] at this
      exact this
    · have := h3 nd (by omega)
      rw [gw_rs, gw_rs, gw_rs, gw_rs, ha, hb, nI_clamp (by omega), nI_clamp (by omega)] at this
      exact this
  · rintro ⟨⟨h1, h2, h3⟩, h4⟩
    refine ⟨h1, h2, fun k hk => ?_⟩
    by_cases e : k = nd
    · subst e
      rw [gw_rs, gw_rs, gw_rs, gw_rs, ha, hb, nI_clamp (by omega), nI_clamp (by omega)]
      exact h4
    · rw [gw_ru e, gw_ru e, gw_ru e, gw_ru e]
      exact h3 k (by omega)
end RRZ
section RSA
variable {w np nb t i j p c a b f nd : Nat} {S S0 M S' M' : gw_S} {x x1 x2 x3 x4 x5 x6 u z d v : Int32}
theorem le_s (h : rLd nd S M) (hn : nd < 20) (ha : a < 6) (hb : b < 6) (hab : ¬ a = b) (h2 : 1 ≤ x2.toInt ∧ x2.toInt ≤ 40) (h4 : 1 ≤ x4.toInt ∧ x4.toInt ≤ 40) : ∃ S1, f_X3_learn (nI a) x2 (nI b) x4 S = some S1 ∧ rLd (nd + 1) S1 (sDb nd M (nI a) x2 (nI b) x4) ∧ ∀ r, r ≠ 7 → r ≠ 8 → r ≠ 9 → r ≠ 10 → S1 r = S r := by
  obtain ⟨⟨g1, g2, g3⟩, g4, ⟨g5, g6⟩, g7⟩ := h
  have ranges : ∀ k, k < nd + 1 → rg 0 5 (sDb nd M (nI a) x2 (nI b) x4 19 k) ∧ rg 1 40 (sDb nd M (nI a) x2 (nI b) x4 20 k) ∧ rg 0 5 (sDb nd M (nI a) x2 (nI b) x4 21 k) ∧ rg 1 40 (sDb nd M (nI a) x2 (nI b) x4 22 k) := fun k hk => by
    show rg 0 5 (upd (M 19) nd _ k) ∧ rg 1 40 (upd (M 20) nd _ k) ∧ rg 0 5 (upd (M 21) nd _ k) ∧ rg 1 40 (upd (M 22) nd _ k)
    by_cases e : k = nd
    · subst e
      rw [gw_rs, gw_rs, gw_rs, gw_rs]
      exact ⟨⟨by rw [nI_toInt (by omega)]; omega, by rw [nI_toInt (by omega)]; omega⟩, h2, ⟨by rw [nI_toInt (by omega)]; omega, by rw [nI_toInt (by omega)]; omega⟩, h4⟩
    · rw [gw_ru e, gw_ru e, gw_ru e, gw_ru e]; exact g4 k (by omega)
  have e3 : S 7 3 + 1 = nI (nd + 1) := by rw [g2, nI_1]
  unfold f_X3_learn
  rw [gw_letS, e3]
  rcases g7 with ⟨q1, q2, q3⟩ | ⟨q1, q2, q3, q4, q5, q6, q7⟩
  · rw [if_neg (show ¬ gw_up S 7 3 (nI (nd + 1)) 7 4 = 0 by rw [gw_upE, gw_ru (by omega), q1]; decide)]
    refine ⟨_, rfl, ⟨⟨by omega, rfl, rfl⟩, ranges, ⟨g5, g6⟩, Or.inl ⟨by rw [gw_upE, gw_ru (by omega)]; exact q1, fun l hl => ?_, q3⟩⟩, fun r h7 _ _ _ => gw_upN h7⟩
    exact q2 l ((lF_more rfl rfl ha hb).mp hl).1
  · rw [if_pos (show gw_up S 7 3 (nI (nd + 1)) 7 4 = 0 by rw [gw_upE, gw_ru (by omega)]; exact q1)]
    obtain ⟨S1, t1, t2, t3⟩ := tg_s (S := gw_up S 7 3 (nI (nd + 1))) (v := (1 + x2) - x4) ha hb
    obtain ⟨S2, s1, s2, s3⟩ := tg_s (S := S1) (v := (1 + x4) - x2) hb ha
    have v1 : ((1 + x2) - x4).toInt = 1 + x2.toInt - x4.toInt := by
      have := pn_add (x := 1) (y := x2) (by rw [pz_1]; omega) (by omega)
      rw [pn_sbi (by rw [this, pz_1]; omega) (by omega), this, pz_1]
    have v2 : ((1 + x4) - x2).toInt = 1 + x4.toInt - x2.toInt := by
      have := pn_add (x := 1) (y := x4) (by rw [pz_1]; omega) (by omega)
      rw [pn_sbi (by rw [this, pz_1]; omega) (by omega), this, pz_1]
    have l0 : ∀ x y, lD (gw_up S 7 3 (nI (nd + 1))) x y = lD S x y := fun x y => rfl
    rw [v1] at t2
    rw [v2] at s2
    simp only [l0] at t2
    have lo : ∀ x y, x < 6 → y < 6 → -18 ≤ lD S x y ∧ lD S x y ≤ 18 := fun x y hx hy => by
      have u1 := q5 x y hx hy
      have u2 := q5 y x hy hx
      have u3 := q4 x x y hx hx hy
      have u4 := q3 x hx
      have bx : ∀ x y, lBox x y ≤ 18 := fun x y => by unfold lBox; split <;> split <;> omega
      have b1 := bx x y
      have b2 := bx y x
      omega
    have d1 : ∀ x y, x < 6 → y < 6 → lD S1 x y ≤ lD S x y ∧ -40 ≤ lD S1 x y := fun x y hx hy => by
      have u := lo x y hx hy
      have ua := lo a b ha hb
      rw [t2 x y hx hy]
      by_cases e : x = a ∧ y = b
      · rw [if_pos e]; obtain ⟨rfl, rfl⟩ := e; split <;> omega
      · rw [if_neg e]; omega
    have d2 : ∀ x y, x < 6 → y < 6 → lD S2 x y ≤ lD S1 x y ∧ -40 ≤ lD S2 x y := fun x y hx hy => by
      have u := d1 x y hx hy
      have ua := d1 b a hb ha
      rw [s2 x y hx hy]
      by_cases e : x = b ∧ y = a
      · rw [if_pos e]; obtain ⟨rfl, rfl⟩ := e; split <;> omega
      · rw [if_neg e]; omega
    have nab : lD S2 a b ≤ 1 + x2.toInt - x4.toInt := by
      have h1 := (d2 a b ha hb).1
      have h2 := t2 a b ha hb
      rw [if_pos ⟨rfl, rfl⟩] at h2
      split at h2 <;> omega
    have nba : lD S2 b a ≤ 1 + x4.toInt - x2.toInt := by
      have h2 := s2 b a hb ha
      rw [if_pos ⟨rfl, rfl⟩] at h2
      split at h2 <;> omega
    obtain ⟨S3, c1, c2, c3, c4, c5, c6⟩ := fw_close (S := S2) (Di := lD S2) (fun x y hx hy => ⟨(d2 x y hx hy).2, by have := (d2 x y hx hy).1; have := (d1 x y hx hy).1; have := lo x y hx hy; omega⟩) (fun _ _ _ _ => rfl)
    obtain ⟨S4, r1, r2, r3, r4⟩ := re_l 5 gw_F 1 S3 (by omega) (by decide)
    rw [show nI 1 = (1 : Int32) from rfl] at r1
    unfold f_X3_readEnds
    rw [t1, gw_bdS, s1, gw_bdS, c1, gw_bdS, r1, gw_bdS]
    have fr : ∀ r, r ≠ 7 → r ≠ 8 → r ≠ 9 → r ≠ 10 → S4 r = S r := fun r h7 h8 h9 h10 => by rw [r4 r h9 h10, c6 r h7 h8, s3 r h8, t3 r h8, gw_upN h7]
    have f74 : S2 7 4 = 0 := by rw [s3 7 (by omega), t3 7 (by omega), gw_upE, gw_ru (by omega)]; exact q1
    have f73 : S4 7 3 = nI (nd + 1) := by rw [r4 7 (by omega) (by omega), c5, s3 7 (by omega), t3 7 (by omega), gw_upE, gw_rs]
    have l4 : ∀ x y, lD S4 x y = lD S3 x y := fun x y => by unfold lD; rw [r4 8 (by omega) (by omega)]
    have z9 : S4 9 0 = 0 ∧ S4 10 0 = 0 := by
      have := r3 0 (by omega)
      rw [this.1, this.2, c6 9 (by omega) (by omega), c6 10 (by omega) (by omega), s3 9 (by omega), s3 10 (by omega), t3 9 (by omega), t3 10 (by omega)]
      exact ⟨g5, g6⟩
    -- what all LIES that meet the DOUBLES keep to
    have snd : ∀ l, lF (nd + 1) (sDb nd M (nI a) x2 (nI b) x4) l → ∀ x y, x < 6 → y < 6 → l y - l x ≤ lD S3 x y := fun l hl => by
      obtain ⟨k1, k2, k3⟩ := (lF_more rfl rfl ha hb).mp hl
      refine c3 l (fun x y hx hy => ?_)
      have u0 := q6 l k1 x y hx hy
      have u1 : l y - l x ≤ lD S1 x y := by
        rw [t2 x y hx hy]
        by_cases e : x = a ∧ y = b
        · rw [if_pos e]; obtain ⟨rfl, rfl⟩ := e; split <;> omega
        · rw [if_neg e]; exact u0
      rw [s2 x y hx hy]
      by_cases e : x = b ∧ y = a
      · rw [if_pos e]; obtain ⟨rfl, rfl⟩ := e; split <;> omega
      · rw [if_neg e]; exact u1
    have fall : ∀ x y, x < 6 → y < 6 → lD S3 x y ≤ lD S x y := fun x y hx hy => by
      have h1 := c2 x y hx hy; have h2 := (d2 x y hx hy).1; have h3 := (d1 x y hx hy).1; omega
    refine ⟨S4, rfl, ⟨⟨by omega, f73, rfl⟩, ranges, z9, ?_⟩, fr⟩
    rcases c4 with ⟨⟨x, hx, hneg⟩, hfl⟩ | ⟨hpos, hfl, htri⟩
    · have f4 : S4 7 4 = 1 := by rw [r4 7 (by omega) (by omega)]; exact hfl
      refine Or.inl ⟨f4, fun l hl => ?_, fun m hm1 hm6 => ?_⟩
      · have := snd l hl x x hx hx; omega
      · have := r2 m hm1 hm6
        rw [this.1, this.2, if_neg (by rw [hfl]; decide), if_neg (by rw [hfl]; decide)]; exact ⟨rfl, rfl⟩
    · have f3 : S3 7 4 = 0 := by rw [hfl]; exact f74
      have f4 : S4 7 4 = 0 := by rw [r4 7 (by omega) (by omega)]; exact f3
      have diag : ∀ x, x < 6 → lD S3 x x = 0 := fun x hx => by
        have h1 := hpos x hx; have h2 := fall x x hx hx; have h3 := q3 x hx; omega
      refine Or.inr ⟨f4, fun m hm1 hm6 => ?_, fun x hx => by rw [l4]; exact diag x hx, fun x y v hx hy hv => by rw [l4, l4, l4]; exact htri v x y hv hx hy, fun x y hx hy => by rw [l4]; have h1 := fall x y hx hy; have h2 := q5 x y hx hy; omega, fun l hl x y hx hy => by rw [l4]; exact snd l hl x y hx hy, fun k hk => ?_⟩
      · have := r2 m hm1 hm6
        rw [this.1, this.2, if_pos f3, if_pos f3, l4, l4]
        have h1 := fall m 0 hm6 (by omega)
        have h2 := lo m 0 hm6 (by omega)
        have h3 := htri 0 0 m (by omega) (by omega) hm6
        have h4 : -1000 ≤ lD S3 m 0 := by
          have h5 := htri m 0 0 hm6 (by omega) (by omega)
          have h6 := diag 0 (by omega)
          have h7 := fall 0 m (by omega) hm6
          have h8 := lo 0 m (by omega) hm6
          omega
        refine ⟨?_, rfl⟩
        unfold lD at *
        rw [pn_neg (by omega)]
      · show lD S4 (upd (M 21) nd (nI b) k).toNatClampNeg (upd (M 19) nd (nI a) k).toNatClampNeg ≤ (upd (M 22) nd x4 k).toInt - (upd (M 20) nd x2 k).toInt + 1 ∧ lD S4 (upd (M 19) nd (nI a) k).toNatClampNeg (upd (M 21) nd (nI b) k).toNatClampNeg ≤ 1 - ((upd (M 22) nd x4 k).toInt - (upd (M 20) nd x2 k).toInt)
        rw [l4, l4]
        by_cases e : k = nd
        · subst e
          rw [gw_rs, gw_rs, gw_rs, gw_rs, nI_clamp (by omega), nI_clamp (by omega)]
          have h1 := c2 a b ha hb
          have h2 := c2 b a hb ha
          omega
        · rw [gw_ru e, gw_ru e, gw_ru e, gw_ru e]
          have h := q7 k (by omega)
          obtain ⟨y1, y2, y3, y4⟩ := g4 k (by omega)
          obtain ⟨a', -, ha', ea⟩ := rg_nI (lo := 0) (n := 5) y1 (by omega)
          obtain ⟨b', -, hb', eb⟩ := rg_nI (lo := 0) (n := 5) y3 (by omega)
          rw [ea, eb, nI_clamp (by omega), nI_clamp (by omega)] at h ⊢
          have h1 := fall b' a' (by omega) (by omega)
          have h2 := fall a' b' (by omega) (by omega)
          omega
end RSA
end
section
section RSB
variable {w np nb t i j p c a b f nd : Nat} {S S0 M S' M' : gw_S} {x x1 x2 x3 x4 x5 x6 u z d v : Int32}
theorem so_same (h : rR w S M) : gw_ex w (f_X8_same x1 x2 x3 x4 S) (f_X9_same x1 x2 x3 x4 M) := by
  have h0 := h
  obtain ⟨np, nb, t, hA, hT, hY, hO, hS, hI, nd, hL⟩ := h
  unfold f_X8_same f_X9_same
  rw [ps_isMaker, ps_br, ps_isMaker, ps_br, ps_isLabel, ps_br, ps_isLabel, ps_br, pm_isMaker, ps_br, pm_isLabel, ps_br, pm_isMaker, ps_br, pm_isLabel, ps_br]
  by_cases c1 : 0 ≤ x1.toInt ∧ x1.toInt ≤ 5
  · rw [if_pos c1, if_pos c1]
    by_cases c2 : 0 ≤ x3.toInt ∧ x3.toInt ≤ 5
    · rw [if_pos c2, if_pos c2]
      by_cases c3 : 1 ≤ x2.toInt ∧ x2.toInt ≤ 40
      · rw [if_pos c3, if_pos c3]
        by_cases c4 : 1 ≤ x4.toInt ∧ x4.toInt ≤ 40
        · rw [if_pos c4, if_pos c4]
          by_cases c5 : x1 = x3
          · rw [if_pos c5, if_pos c5]; exact gx rfl h0
          · rw [if_neg c5, if_neg c5]
            obtain ⟨a, ha, rfl⟩ := ps_nI (n := 5) c1 (by omega)
            obtain ⟨b, hb, rfl⟩ := ps_nI (n := 5) c2 (by omega)
            have hnd := hL.1.1
            have e21 := hL.1.2.2
            rw [hL.1.2.1, e21]
            by_cases c6 : nd = 20
            · subst c6
              rw [if_neg (by decide), if_pos (by decide)]; exact gx rfl h0
            · obtain ⟨S1, e1, e2, e3⟩ := le_s hL (show nd < 20 by omega) (show a < 6 by omega) (show b < 6 by omega) (fun e => c5 (by rw [e])) c3 c4
              rw [if_pos (show nI nd < 20 from pn_lt (n := 20) (by omega) (by omega)), if_neg (show ¬ nI nd = 20 from fun e => c6 ((nI_eq (by omega) (by omega)).mp (show nI nd = nI 20 from e))), e1, gw_bdS]
              have g : gw_in (nI nd) 20 := pi_in (by omega) (by omega)
              have m1 : gw_up M 19 nd (nI a) 0 21 = nI nd := e21
              have m2 : gw_up (gw_up M 19 nd (nI a)) 20 nd x2 0 21 = nI nd := e21
              have m3 : gw_up (gw_up (gw_up M 19 nd (nI a)) 20 nd x2) 21 nd (nI b) 0 21 = nI nd := e21
              have m4 : gw_up (gw_up (gw_up (gw_up M 19 nd (nI a)) 20 nd x2) 21 nd (nI b)) 22 nd x4 0 21 = nI nd := e21
              rw [gw_gdT g, nI_clamp (by omega), gw_letS, m1, gw_gdT g, nI_clamp (by omega), gw_letS, m2, gw_gdT g, nI_clamp (by omega), gw_letS, m3, gw_gdT g, nI_clamp (by omega), gw_letS, m4, pn_a1, gw_letS, gw_upE, gw_rs, e2.1.2.1]
              refine gx rfl ⟨np, nb, t, hA.fr ?_ ?_ ?_ ?_ ?_ ?_ (fun i => ?_) (fun i => ?_) rfl rfl (fun k hk => ?_), hT.fr ?_ rfl rfl rfl, hY.fr ?_ ?_ rfl rfl, hO.fr ?_ rfl, hS.fr (fun k hk hk' => ?_) rfl rfl rfl, hI.fr ?_, nd + 1, e2⟩
              all_goals first | (rw [e3 _ (by omega) (by omega) (by omega) (by omega)]) | skip
              rw [gw_upN (by omega), gw_upN (by omega), gw_upN (by omega), gw_upN (by omega), gw_upN (by omega)]
        · rw [if_neg c4, if_neg c4]; split <;> exact gx rfl h0
      · rw [if_neg c3, if_neg c3]; split <;> exact gx rfl h0
    · rw [if_neg c2, if_neg c2]; split <;> exact gx rfl h0
  · rw [if_neg c1, if_neg c1]; exact gx rfl h0
end RSB
end
section
section RMA
variable {w np nb t i j p c a b f nd : Nat} {S S0 M M0 S' M' : gw_S} {x x1 x2 x3 x4 x5 x6 u z d v : Int32}
/-- what is written by the way: CHAINS, trials kept -/
theorem rA.scr (h : rA w np nb S M) (q : ∀ r, ¬ (15 ≤ r ∧ r ≤ 19) → S' r = S r) (p : ∀ r, ¬ (39 ≤ r ∧ r ≤ 42) → M' r = M r) : rA w np nb S' M' := h.fr (by rw [q 3 (by omega)]) (by rw [q 3 (by omega)]) (by rw [q 29 (by omega)]) (by rw [q 29 (by omega)]) (q 12 (by omega)) (q 13 (by omega)) (fun i => q _ (by omega)) (fun i => q _ (by omega)) (by rw [p 0 (by omega)]) (by rw [p 0 (by omega)]) (fun k hk => p k (by omega))
theorem rC.scr (h : rC t S M) (q : ∀ r, ¬ (15 ≤ r ∧ r ≤ 19) → S' r = S r) (p : ∀ r, ¬ (39 ≤ r ∧ r ≤ 42) → M' r = M r) : rC t S' M' := by
  obtain ⟨hT, hY, hO, hS, hI, hL⟩ := h
  exact ⟨hT.fr (q 5 (by omega)) (p 1 (by omega)) (p 2 (by omega)) (p 3 (by omega)), hY.fr (by rw [q 1 (by omega)]) (q 2 (by omega)) (by rw [p 0 (by omega)]) (p 5 (by omega)), hO.fr (q 11 (by omega)) (p 6 (by omega)), hS.fr (fun k h1 h2 => q k (by omega)) (p 43 (by omega)) (p 44 (by omega)) (p 45 (by omega)), hI.fr (q 14 (by omega)), hL.fr (q 7 (by omega)) (q 8 (by omega)) (q 9 (by omega)) (q 10 (by omega)) (by rw [p 0 (by omega)]) (p 19 (by omega)) (p 20 (by omega)) (p 21 (by omega)) (p 22 (by omega))⟩
theorem lFd.scr (h : lFd S M) (q : ∀ r, ¬ (15 ≤ r ∧ r ≤ 19) → S' r = S r) (p : ∀ r, ¬ (39 ≤ r ∧ r ≤ 42) → M' r = M r) : lFd S' M' := by
  unfold lFd lLo lHi at h ⊢
  rw [q 9 (by omega), q 10 (by omega), p 23 (by omega), p 24 (by omega)]
  exact h
/-- a member of a PARTY -/
abbrev aMem (M : gw_S) (j : Nat) (x : Int32) : Prop := M 30 j = x ∧ ¬ 0 ≤ M 31 j
theorem rA.member (h : rA w np nb S M) (hj : j < nb) : f_X2_isMember (nI j) x S = some (if aMem M j x then 1 else 0) := by
  have hb := h.b hj
  unfold f_X2_isMember
  rw [if_neg (h.nb1 hj), gw_gdT (h.gb hj), h.cb hj, hb.1.2.2.2.2.2.2, h.off hj]
  by_cases c1 : M 30 j = x
  · rw [if_pos c1]
    by_cases c2 : 0 ≤ M 31 j
    · rw [if_pos c2, gw_bdS, if_neg pn_10, if_neg (fun q => q.2 c2)]
    · rw [if_neg c2, gw_bdS, if_pos rfl, if_pos ⟨c1, c2⟩]
  · rw [if_neg c1, if_neg (fun q => c1 q.1)]
theorem me_l (hA : rA w np nb S M) : ∀ (k n n' : Nat) (v : Int32), k ≤ nb → k < n → k < n' → ∃ r, f_X2_membersOf_b4 S n x v (nI (nb - k)) = some r ∧ f_X9_match_b31 n' x x2 v (nI (nb - k)) M = if r = 0 then some ((-4 : Int32), M) else gw_bd (f_X9_findLies M) (fun S16 => f_X9_match_b95 gw_F x x2 r (0 : Int32) (-1 : Int32) (0 : Int32) S16)
  | 0, n + 1, n' + 1, v, _, _, _ => by
    have hnb := hA.1.1.2
    rw [f_X2_membersOf_b4, f_X9_match_b31, hA.1.2.1.2.1, hA.1.2.2.1.2, if_pos (nI_le (by omega) (by omega)), if_pos (nI_le (by omega) (by omega))]
    exact ⟨v, rfl, rfl⟩
  | k + 1, n + 1, n' + 1, v, hk, hn, hn' => by
    have hnb := hA.1.1.2
    obtain ⟨j, ej⟩ : ∃ j, nb - (k + 1) = j := ⟨_, rfl⟩
    have hj : j < nb := by omega
    have z : v + 0 = v := Int32.add_zero v
    have e1 : nI j + (1 : Int32) = nI (nb - k) := by rw [← ej]; exact pn_s hk
    rw [ej, f_X2_membersOf_b4, f_X9_match_b31, hA.1.2.1.2.1, hA.1.2.2.1.2, if_neg (pn_le hj (by omega)), if_neg (pn_le hj (by omega)), hA.1.bookingAt hj, gw_bdS, hA.member hj, ps_br, gw_gdT (hA.inb hj), hA.cb hj]
    unfold f_X2_membersOf_b28 f_X9_match_b66 f_X9_match_b67
    simp only [gw_letS, e1, z]
    by_cases c1 : M 30 j = x
    · rw [if_pos c1]
      by_cases c2 : 0 ≤ M 31 j
      · rw [if_pos c2, if_neg (fun q : aMem M j x => q.2 c2)]
        exact me_l hA k n n' v (by omega) (by omega) (by omega)
      · rw [if_neg c2, if_pos (show aMem M j x from ⟨c1, c2⟩)]
        exact me_l hA k n n' (v + 1) (by omega) (by omega) (by omega)
    · rw [if_neg c1, if_neg (fun q : aMem M j x => c1 q.1)]
      exact me_l hA k n n' v (by omega) (by omega) (by omega)
/-- trials: what may differ from the start -/
def mSc (nb : Nat) (S0 S : gw_S) : Prop := (∀ q, q ≠ 14 → (∀ b, b < nb → q ≠ 2 * b + 31) → S q = S0 q) ∧ (∀ b, nb ≤ b → S 14 b = S0 14 b) ∧ ∀ b, b < nb → (∀ f, f ≠ 8 → S (2 * b + 31) f = S0 (2 * b + 31) f) ∧ ((S 14 b = 0 ∧ S (2 * b + 31) 8 = S0 (2 * b + 31) 8) ∨ (S 14 b = 1 ∧ S0 (2 * b + 31) 8 = -1))
def mSm (nb : Nat) (M0 M : gw_S) : Prop := (∀ q, q ≠ 32 → M q = M0 q) ∧ ∀ b, nb ≤ b → M 32 b = M0 32 b
theorem mSc.rN (h : mSc nb S0 S) (hN : rN np nb S0 M0) : rN np nb S M0 := by
  unfold Jvm.Pilot.@@N@@.rN at hN ⊢
  rw [h.1 3 (by omega) (fun b _ => by omega), h.1 29 (by omega) (fun b _ => by omega), h.1 12 (by omega) (fun b _ => by omega), h.1 13 (by omega) (fun b _ => by omega)]
  exact hN
theorem tk_l (hN : rN np nb S0 M0) (hI : rI S0) : ∀ (k n : Nat) (S : gw_S), k ≤ nb → k < n → mSc nb S0 S → (∀ b, b < nb - k → S 14 b = 0 ∧ S (2 * b + 31) 8 = S0 (2 * b + 31) 8) → f_X2_takeTrialsBack_b2 n (nI (nb - k)) S = some S0
  | 0, n + 1, S, _, _, h, hb => by
    have hnb := hN.1.2
    rw [f_X2_takeTrialsBack_b2, (h.rN hN).2.1.2.1, if_pos (nI_le (by omega) (by omega))]
    congr 1
    funext q f
    by_cases e : q = 14
    · subst e
      by_cases e2 : f < nb
      · rw [(hb f (by omega)).1, hI f (by omega)]
      · exact h.2.1 f (by omega)
    · by_cases e2 : ∃ b, b < nb ∧ q = 2 * b + 31
      · obtain ⟨b, h1, rfl⟩ := e2
        by_cases e3 : f = 8
        · subst e3; exact (hb b (by omega)).2
        · exact (h.2.2 b h1).1 f e3
      · rw [h.1 q e (fun b hb e3 => e2 ⟨b, hb, e3⟩)]
  | k + 1, n + 1, S, hk, hn, h, hb => by
    have hnb := hN.1.2
    have hN' := h.rN hN
    obtain ⟨j, ej⟩ : ∃ j, nb - (k + 1) = j := ⟨_, rfl⟩
    have hj : j < nb := by omega
    have cj : (nI j).toNatClampNeg = j := nI_clamp (by omega)
    have e1 : nI j + (1 : Int32) = nI (nb - k) := by rw [← ej]; exact pn_s hk
    have hj2 := h.2.2 j hj
    have g : (nI j).toNatClampNeg < gw_nb S := by rw [hN'.gnb, cj]; exact hj
    rw [ej, f_X2_takeTrialsBack_b2, hN'.2.1.2.1, if_neg (pn_le hj (by omega)), hN'.bookingAt hj, gw_bdS, if_neg (pn_m1 (by omega)), gw_gdT (pi_in (show j < 30 by omega) (by omega)), cj]
    unfold f_X2_takeTrialsBack_b41
    simp only [gw_letS, e1]
    by_cases c : S 14 j = 0
    · rw [if_pos c]
      refine tk_l hN hI k n S (by omega) (by omega) h (fun b h1 => ?_)
      by_cases e : b = j
      · subst e
        rcases hj2.2 with q | ⟨q, -⟩
        · exact q
        · rw [q] at c; exact absurd c (by decide)
      · exact hb b (by omega)
    · rw [if_neg c, gw_gdT (by rw [cj] at g; exact g)]
      have m1 : S0 (2 * j + 31) 8 = -1 := by
        rcases hj2.2 with ⟨q, -⟩ | ⟨-, q⟩
        · exact absurd q c
        · exact q
      have nar : vp_nar .boolean (0 : Int32) = 0 := by decide
      rw [nar]
      refine tk_l hN hI k n _ (by omega) (by omega) ⟨fun q h14 hq => ?_, fun b hb => ?_, fun b hb => ⟨fun f hf => ?_, ?_⟩⟩ (fun b h1 => ?_)
      · rw [gw_upN h14, gw_upN (hq j hj)]; exact h.1 q h14 hq
      · rw [gw_upE, gw_ru (by omega), gw_upN (by omega)]; exact h.2.1 b hb
      · rw [gw_upN (by omega)]
        by_cases e : b = j
        · subst e; rw [gw_upE, gw_ru hf]; exact hj2.1 f hf
        · rw [gw_upN (by omega)]; exact (h.2.2 b hb).1 f hf
      · rw [gw_upE, gw_upN (show 2 * b + 31 ≠ 14 by omega)]
        by_cases e : b = j
        · subst e; rw [gw_rs, gw_upE, gw_rs]; exact Or.inl ⟨rfl, m1.symm⟩
        · rw [gw_ru e, gw_upN (show 14 ≠ 2 * j + 31 by omega), gw_upN (show 2 * b + 31 ≠ 2 * j + 31 by omega)]; exact (h.2.2 b hb).2
      · rw [gw_upE, gw_upN (show 2 * b + 31 ≠ 14 by omega)]
        by_cases e : b = j
        · subst e; rw [gw_rs, gw_upE, gw_rs]; exact ⟨rfl, m1.symm⟩
        · rw [gw_ru e, gw_upN (show 14 ≠ 2 * j + 31 by omega), gw_upN (show 2 * b + 31 ≠ 2 * j + 31 by omega)]; exact hb b (by omega)
theorem mb_l (h29 : M0 0 29 = nI nb) (hnb : nb ≤ 30) (h42 : ∀ b, b < nb → M0 42 b = M0 32 b) (v : Int32) : ∀ (k n : Nat) (M : gw_S), k ≤ nb → k < n → mSm nb M0 M → (∀ b, b < nb - k → M 32 b = M0 32 b) → f_X9_matchOf_b143 n v (nI (nb - k)) M = some (v, M0)
  | 0, n + 1, M, _, _, h, hb => by
    have e29 : M 0 29 = nI nb := by rw [h.1 0 (by omega)]; exact h29
    rw [f_X9_matchOf_b143, e29, if_pos (nI_le (by omega) (by omega))]
    congr 2
    funext q f
    by_cases e : q = 32
    · subst e
      by_cases e2 : f < nb
      · exact hb f (by omega)
      · exact h.2 f (by omega)
    · rw [h.1 q e]
  | k + 1, n + 1, M, hk, hn, h, hb => by
    obtain ⟨j, ej⟩ : ∃ j, nb - (k + 1) = j := ⟨_, rfl⟩
    have hj : j < nb := by omega
    have cj : (nI j).toNatClampNeg = j := nI_clamp (by omega)
    have e1 : nI j + (1 : Int32) = nI (nb - k) := by rw [← ej]; exact pn_s hk
    have e29 : M 0 29 = nI nb := by rw [h.1 0 (by omega)]; exact h29
    rw [ej, f_X9_matchOf_b143, e29, if_neg (pn_le hj (by omega)), gw_gdT (pi_in (show j < 30 by omega) (by omega)), gw_letS, gw_letS, cj, e1, h.1 42 (by omega), h42 j hj]
    refine mb_l h29 hnb h42 v k n _ (by omega) (by omega) ⟨fun q hq => ?_, fun b hb2 => ?_⟩ (fun b h1 => ?_)
    · rw [gw_upN hq]; exact h.1 q hq
    · rw [gw_upE, gw_ru (by omega)]; exact h.2 b hb2
    · rw [gw_upE]
      by_cases e : b = j
      · subst e; rw [gw_rs]
      · rw [gw_ru e]; exact hb b (by omega)
theorem ma_l (hT : rT S0 M0) (hO : rO S0 M0) (hF : lFd S0 M0) (hI : rI S0) (hN : rN np nb S0 M0) (h42 : ∀ b, b < nb → M0 42 b = M0 32 b) (hx : 0 ≤ x2.toInt) : ∀ (k n n' : Nat) (S M : gw_S) (v : Int32), k ≤ nb → k < n → k < n' → rA w np nb S M → mSc nb S0 S → mSm nb M0 M → ∃ r, f_X2_matchedIn_b5 n x1 x2 v (nI (nb - k)) S = some (r, S0) ∧ f_X9_matchOf_b33 n' x1 x2 v (nI (nb - k)) M = some (r, M0)
  | 0, n + 1, n' + 1, S, M, v, _, _, _, hA, hc, hm => by
    have hnb := hA.1.1.2
    have b1 := tk_l hN hI nb gw_F S (Nat.le_refl nb) (Nat.lt_of_le_of_lt hnb (by decide)) hc (fun b hb => absurd hb (by omega))
    have b2 := mb_l hN.2.2.1.2 hnb h42 v nb gw_F M (Nat.le_refl nb) (Nat.lt_of_le_of_lt hnb (by decide)) hm (fun b hb => absurd hb (by omega))
    rw [Nat.sub_self, show nI 0 = (0 : Int32) from rfl] at b1 b2
    rw [f_X2_matchedIn_b5, f_X9_matchOf_b33, hA.1.2.1.2.1, hA.1.2.2.1.2, if_pos (nI_le (by omega) (by omega)), if_pos (nI_le (by omega) (by omega)), b2]
    unfold f_X2_takeTrialsBack
    rw [b1, gw_bdS]
    exact ⟨v, rfl, rfl⟩
  | k + 1, n + 1, n' + 1, S, M, v, hk, hn, hn', hA, hc, hm => by
    have hnb := hA.1.1.2
    obtain ⟨j, ej⟩ : ∃ j, nb - (k + 1) = j := ⟨_, rfl⟩
    have hj : j < nb := by omega
    have e1 : nI j + (1 : Int32) = nI (nb - k) := by rw [← ej]; exact pn_s hk
    have z : ∀ v : Int32, v + 0 = v := Int32.add_zero
    have go : ∀ (S M : gw_S) (v : Int32), rA w np nb S M → mSc nb S0 S → mSm nb M0 M → ∃ r, f_X2_matchedIn_b86 (f_X2_matchedIn_b5 n) x1 x2 v (nI j) S = some (r, S0) ∧ f_X9_matchOf_b134 (f_X9_matchOf_b33 n') x1 x2 v (nI j) M = some (r, M0) := fun S M v hA hc hm => by
      unfold f_X2_matchedIn_b86 f_X9_matchOf_b134
      rw [gw_letS, gw_letS, e1]
      exact ma_l hT hO hF hI hN h42 hx k n n' S M v (by omega) (by omega) (by omega) hA hc hm
    have cnt : ∀ S M : gw_S, rA w np nb S M → mSc nb S0 S → mSm nb M0 M → ∃ r, f_X2_matchedIn_b63 (f_X2_matchedIn_b5 n) x1 x2 v (nI j) (nI j) S = some (r, S0) ∧ f_X9_matchOf_b100 (f_X9_matchOf_b33 n') x1 x2 v (nI j) M = some (r, M0) := fun S M hA hc hm => by
      have hb := hA.b hj
      unfold f_X2_matchedIn_b63 f_X9_matchOf_b100 f_X9_matchOf_b131 f_X9_matchOf_b132
      rw [gw_gdT (hA.nb1 hj), gw_gdT (hA.gb hj), gw_gdT (hA.inb hj), hA.cb hj, hb.2.2.1.1]
      simp only [gw_letS, z]
      rcases hb.2.2.1.2 with e | ⟨p, hp, e⟩
      · rw [e, if_pos rfl, if_pos (by decide)]; exact go S M v hA hc hm
      · have hp24 := hA.ip hp
        rw [e, if_neg (hA.np1 hp), if_neg (pn_n0 (by omega)), gw_gdT (hA.gp hp), gw_gdT (hA.inp hp), hA.cp hp, (hA.p hp).1.2.2.2.1]
        by_cases c : M 10 p = x2
        · rw [if_pos c, if_pos c]; exact go S M (v + 1) hA hc hm
        · rw [if_neg c, if_neg c]; exact go S M v hA hc hm
    have hb := hA.b hj
    rw [ej, f_X2_matchedIn_b5, f_X9_matchOf_b33, hA.1.2.1.2.1, hA.1.2.2.1.2, if_neg (pn_le hj (by omega)), if_neg (pn_le hj (by omega)), hA.1.bookingAt hj, gw_bdS, hA.member hj, ps_br, gw_gdT (hA.nb1 hj), gw_gdT (hA.gb hj), gw_gdT (hA.inb hj)]
    simp only [hA.cb hj, hb.2.2.1.1]
    by_cases c1 : M 30 j = x1
    · rw [if_pos c1]
      by_cases c2 : 0 ≤ M 31 j
      · rw [if_pos c2, if_neg (fun q : aMem M j x1 => q.2 c2)]; exact go S M v hA hc hm
      · rw [if_neg c2, if_pos (show aMem M j x1 from ⟨c1, c2⟩)]
        by_cases c3 : M 32 j = -1
        · have hT' : rT S M := hT.fr (hc.1 5 (by omega) (fun b _ => by omega)) (hm.1 1 (by omega)) (hm.1 2 (by omega)) (hm.1 3 (by omega))
          have hO' : rO S M := hO.fr (hc.1 11 (by omega) (fun b _ => by omega)) (hm.1 6 (by omega))
          have hF' : lFd S M := by
            unfold lFd lLo lHi at hF ⊢
            rw [hc.1 9 (by omega) (fun b _ => by omega), hc.1 10 (by omega) (fun b _ => by omega), hm.1 23 (by omega), hm.1 24 (by omega)]; exact hF
          obtain ⟨r, r', g1, g2, g3⟩ := hA.best hT' hO' hF' hj (x2 := x2) (Or.inr hx)
          have s0 : M 33 j = 0 := by
            rcases hb.2.2.2.1.2 with q | ⟨-, q⟩
            · exact q
            · exact absurd c3 q
          have nar : vp_nar .boolean (1 : Int32) = 1 := by decide
          have o1 : S0 (2 * j + 31) 8 = -1 := by
            rcases (hc.2.2 j hj).2 with ⟨-, q⟩ | ⟨-, q⟩
            · rw [← q, hb.2.2.1.1]; exact c3
            · exact q
          have new : ∀ y : Int32, (y = -1 ∧ M 33 j = 0 ∨ ∃ i, i < np ∧ y = nI i) → ∃ r, f_X2_matchedIn_b63 (f_X2_matchedIn_b5 n) x1 x2 v (nI j) (nI j) (gw_up (gw_up S (2 * j + 31) 8 y) 14 j 1) = some (r, S0) ∧ f_X9_matchOf_b100 (f_X9_matchOf_b33 n') x1 x2 v (nI j) (gw_up M 32 j y) = some (r, M0) := fun y hy => by
            refine cnt _ _ ((hA.give hj hy).fr rfl rfl rfl rfl rfl rfl (fun i => gw_upN (by omega)) (fun i => gw_upN (by omega)) rfl rfl (fun _ _ => rfl)) ⟨fun q h14 hq => ?_, fun b hb => ?_, fun b hb => ⟨fun f hf => ?_, ?_⟩⟩ ⟨fun q hq => ?_, fun b hb => ?_⟩
            · rw [gw_upN h14, gw_upN (hq j hj)]; exact hc.1 q h14 hq
            · rw [gw_upE, gw_ru (by omega), gw_upN (by omega)]; exact hc.2.1 b hb
            · rw [gw_upN (by omega)]
              by_cases e : b = j
              · subst e; rw [gw_upE, gw_ru hf]; exact (hc.2.2 b hj).1 f hf
              · rw [gw_upN (by omega)]; exact (hc.2.2 b hb).1 f hf
            · rw [gw_upE, gw_upN (show 2 * b + 31 ≠ 14 by omega)]
              by_cases e : b = j
              · subst e; rw [gw_rs]; exact Or.inr ⟨rfl, o1⟩
              · rw [gw_ru e, gw_upN (show 14 ≠ 2 * j + 31 by omega), gw_upN (show 2 * b + 31 ≠ 2 * j + 31 by omega)]; exact (hc.2.2 b hb).2
            · rw [gw_upN hq]; exact hm.1 q hq
            · rw [gw_upE, gw_ru (by omega)]; exact hm.2 b hb
          unfold f_X9_matchOf_b99
          rw [if_pos c3, if_neg (fun q => (hA.had hj).1.mp q c3), g1, g2, gw_bdS, gw_bdS, gw_letS, gw_gdT (hA.inb hj), gw_letS, gw_gdT (hA.inb hj), gw_letS, gw_gdT (hA.inb hj), gw_letS, nar]
          simp only [hA.cb hj]
          rcases g3 with ⟨q1, q2⟩ | ⟨p, hp, q1, q2⟩
          · rw [q1, q2, if_neg (by decide)]; exact new (-1) (Or.inl ⟨rfl, s0⟩)
          · have hp24 := hA.ip hp
            rw [q1, q2, if_pos (pn_p0 (by omega))]; exact new (nI p) (Or.inr ⟨p, hp, rfl⟩)
        · rw [if_neg c3, if_pos ((hA.had hj).1.mpr c3)]
          exact cnt S M hA hc hm
    · rw [if_neg c1, if_neg (fun q : aMem M j x1 => c1 q.1)]; exact go S M v hA hc hm
theorem mc_l (hnb : nb ≤ 30) : ∀ (k n : Nat) (M : gw_S), k ≤ nb → k < n → M 0 29 = nI nb → (∀ b, b < nb - k → M 42 b = M 32 b) → ∃ M1, f_X9_matchOf_b2 n x1 x2 (nI (nb - k)) M = f_X9_matchOf_b33 gw_F x1 x2 0 0 M1 ∧ (∀ q, q ≠ 42 → M1 q = M q) ∧ ∀ b, b < nb → M1 42 b = M1 32 b
  | 0, n + 1, M, _, _, h29, h => by
    rw [f_X9_matchOf_b2, h29, if_pos (nI_le (by omega) (by omega))]
    exact ⟨M, rfl, fun _ _ => rfl, fun b hb => h b (by omega)⟩
  | k + 1, n + 1, M, hk, hn, h29, h => by
    obtain ⟨j, ej⟩ : ∃ j, nb - (k + 1) = j := ⟨_, rfl⟩
    have hj : j < nb := by omega
    have cj : (nI j).toNatClampNeg = j := nI_clamp (by omega)
    have e1 : nI j + (1 : Int32) = nI (nb - k) := by rw [← ej]; exact pn_s hk
    rw [ej, f_X9_matchOf_b2, h29, if_neg (pn_le hj (by omega)), gw_gdT (pi_in (show j < 30 by omega) (by omega)), gw_letS, gw_letS, cj, e1]
    obtain ⟨M1, e2, e3, e4⟩ := mc_l hnb k n (gw_up M 42 j (M 32 j)) (by omega) (by omega) h29 (fun b hb => by
      rw [gw_upE, gw_upN (show 32 ≠ 42 by omega)]
      by_cases e : b = j
      · subst e; rw [gw_rs]
      · rw [gw_ru e]; exact h b (by omega))
    exact ⟨M1, e2, fun q hq => by rw [e3 q hq, gw_upN hq], e4⟩
theorem rA.matched (hA : rA w np nb S M) (hT : rT S M) (hO : rO S M) (hF : lFd S M) (hI : rI S) (hx : 0 ≤ x2.toInt) : ∃ r M1, f_X2_matchedIn x1 x2 S = some (r, S) ∧ f_X9_matchOf x1 x2 M = some (r, M1) ∧ ∀ q, q ≠ 42 → M1 q = M q := by
  have hnb := hA.1.1.2
  have hFu : nb < gw_F := Nat.lt_of_le_of_lt hnb (by decide)
  obtain ⟨M1, e1, e2, e3⟩ := mc_l (x1 := x1) (x2 := x2) hnb nb gw_F M (Nat.le_refl nb) hFu hA.1.2.2.1.2 (fun b hb => absurd hb (by omega))
  have q0 : ∀ r, ¬ (15 ≤ r ∧ r ≤ 19) → S r = S r := fun _ _ => rfl
  have p0 : ∀ r, ¬ (39 ≤ r ∧ r ≤ 42) → M1 r = M r := fun r hr => e2 r (by omega)
  have hA1 := hA.scr q0 p0
  have hT1 : rT S M1 := hT.fr rfl (p0 1 (by omega)) (p0 2 (by omega)) (p0 3 (by omega))
  have hO1 : rO S M1 := hO.fr rfl (p0 6 (by omega))
  have hF1 : lFd S M1 := hF.scr q0 p0
  obtain ⟨r, k1, k2⟩ := ma_l (x1 := x1) (x2 := x2) hT1 hO1 hF1 hI hA1.1 e3 hx nb gw_F gw_F S M1 0 (Nat.le_refl nb) hFu hFu hA1 ⟨fun _ _ _ => rfl, fun _ _ => rfl, fun b hb => ⟨fun _ _ => rfl, Or.inl ⟨hI b (by omega), rfl⟩⟩⟩ ⟨fun _ _ => rfl, fun _ _ => rfl⟩
  rw [Nat.sub_self, show nI 0 = (0 : Int32) from rfl] at e1 k1 k2
  exact ⟨r, M1, k1, by unfold f_X9_matchOf; rw [e1]; exact k2, e2⟩
theorem ml_l (hI : rI S) (h2 : x2 = 0 ∨ x2 = 1 ∨ x2 = 2) : ∀ (k n n' : Nat) (M : gw_S) (v3 v4 v5 : Int32), k ≤ 10 → k < n → k < n' → rA w np nb S M → rT S M → rO S M → lFd S M → ∃ r M1, f_X8_match_b52 n x1 x2 v4 v5 (nI (10 - k)) S = some (r, S) ∧ f_X9_match_b95 n' x1 x2 v3 v4 v5 (nI (10 - k)) M = some (if x2 = 2 then v3 else r, M1) ∧ ∀ q, q ≠ 42 → M1 q = M q
  | 0, n + 1, n' + 1, M, v3, v4, v5, _, _, _, hA, hT, hO, hF => by
    rw [f_X8_match_b52, f_X9_match_b95, if_pos (show (9 : Int32) < nI (10 - 0) by decide), if_pos (show (10 : Int32) ≤ nI (10 - 0) by decide)]
    rcases h2 with e | e | e
    · subst e; rw [if_pos rfl, if_pos rfl]; exact ⟨v4, M, rfl, by rw [if_neg (by decide)], fun _ _ => rfl⟩
    · subst e; rw [if_neg (by decide), if_neg (by decide), if_pos rfl]; exact ⟨v5, M, rfl, by rw [if_neg (by decide)], fun _ _ => rfl⟩
    · subst e; rw [if_neg (by decide), if_neg (by decide), if_neg (by decide)]; exact ⟨v5, M, rfl, by rw [if_pos rfl], fun _ _ => rfl⟩
  | k + 1, n + 1, n' + 1, M, v3, v4, v5, hk, hn, hn', hA, hT, hO, hF => by
    obtain ⟨j, ej⟩ : ∃ j, 10 - (k + 1) = j := ⟨_, rfl⟩
    have hj : j < 10 := by omega
    have e1 : nI j + (1 : Int32) = nI (10 - k) := by rw [← ej]; exact pn_s hk
    obtain ⟨r, M1, m1, m2, m3⟩ := hA.matched hT hO hF hI (x1 := x1) (x2 := nI j) (by rw [nI_toInt (by omega)]; omega)
    have q0 : ∀ r, ¬ (15 ≤ r ∧ r ≤ 19) → S r = S r := fun _ _ => rfl
    have p0 : ∀ r, ¬ (39 ≤ r ∧ r ≤ 42) → M1 r = M r := fun r hr => m3 r (by omega)
    rw [ej, f_X8_match_b52, f_X9_match_b95, if_neg (show ¬ (9 : Int32) < nI j by rw [ps_ltI, nI_toInt (by omega), pz_9]; omega), if_neg (show ¬ (10 : Int32) ≤ nI j from pn_le (n := 10) hj (by omega)), m1, m2, gw_b2S, gw_b2S]
    unfold f_X8_match_b86 f_X9_match_b126
    simp only [gw_letS, e1]
    have nx := fun a b => ml_l hI h2 k n n' M1 v3 a b (by omega) (by omega) (by omega) (hA.scr q0 p0) (hT.fr rfl (p0 1 (by omega)) (p0 2 (by omega)) (p0 3 (by omega))) (hO.fr rfl (p0 6 (by omega))) (hF.scr q0 p0)
    by_cases c : r ≤ v5
    · rw [if_pos c, if_pos c]
      obtain ⟨r2, M2, k1, k2, k3⟩ := nx v4 v5
      exact ⟨r2, M2, k1, k2, fun q hq => by rw [k3 q hq, m3 q hq]⟩
    · rw [if_neg c, if_neg c]
      obtain ⟨r2, M2, k1, k2, k3⟩ := nx (nI j) r
      exact ⟨r2, M2, k1, k2, fun q hq => by rw [k3 q hq, m3 q hq]⟩
theorem so_match (h : rR w S M) : gw_ex w (f_X8_match x1 x2 S) (f_X9_match x1 x2 M) := by
  have h0 := h
  obtain ⟨np, nb, t, hA, hT, hY, hO, hS, hI, hL⟩ := h
  have hnb := hA.1.1.2
  have hFu : nb < gw_F := Nat.lt_of_le_of_lt hnb (by decide)
  unfold f_X8_match f_X9_match
  rw [ps_isIn, ps_br, ps_isIn, ps_br, ps_in, ps_br, ps_in, ps_br, pz_0, pz_4, pz_2, pq_0, pq_4, pq_2]
  by_cases c1 : 0 ≤ x1.toInt ∧ x1.toInt ≤ 4
  · rw [if_pos c1, if_pos c1]
    by_cases c2 : 0 ≤ x2.toInt ∧ x2.toInt ≤ 2
    · rw [if_pos c2, if_pos c2]
      obtain ⟨r, m1, m2⟩ := me_l (x := x1) (x2 := x2) hA nb gw_F gw_F 0 (Nat.le_refl nb) hFu hFu
      rw [Nat.sub_self, show nI 0 = (0 : Int32) from rfl] at m1 m2
      unfold f_X2_membersOf
      rw [m1, m2, gw_bdS]
      by_cases c3 : r = 0
      · rw [if_pos c3, if_pos c3]; exact gx rfl h0
      · rw [if_neg c3, if_neg c3]
        obtain ⟨M', e1, e2, e3, e4, e5⟩ := hL.find
        have hA' := hA.lies e2 e3
        have hC' : rC t S M' := rC.lies ⟨hT, hY, hO, hS, hI, hL⟩ e2 e3
        have h2 : x2 = 0 ∨ x2 = 1 ∨ x2 = 2 := by
          obtain ⟨a, ha, rfl⟩ := ps_nI (n := 2) c2 (by omega)
          rcases (show a = 0 ∨ a = 1 ∨ a = 2 by omega) with rfl | rfl | rfl
          · exact Or.inl rfl
          · exact Or.inr (Or.inl rfl)
          · exact Or.inr (Or.inr rfl)
        obtain ⟨r2, M2, k1, k2, k3⟩ := ml_l (x1 := x1) hI h2 10 gw_F gw_F M' r 0 (-1) (Nat.le_refl 10) (by decide) (by decide) hA' hC'.1 hC'.2.2.1 e4
        rw [Nat.sub_self, show nI 0 = (0 : Int32) from rfl] at k1 k2
        have fin : rR w S M2 := rC.rR (hC'.scr (fun _ _ => rfl) (fun r hr => k3 r (by omega))) (hA'.scr (fun _ _ => rfl) (fun r hr => k3 r (by omega)))
        rw [e1, gw_bdS, k2]
        by_cases c4 : x2 = 2
        · rw [if_pos c4, if_pos c4]; exact gx rfl fin
        · rw [if_neg c4, if_neg c4, k1]; exact gx rfl fin
    · rw [if_neg c2, if_neg c2]; exact gx rfl h0
  · rw [if_neg c1, if_neg c1]; exact gx rfl h0
end RMA
end
section
section RCA
variable {w np nb t i j p c a b f nd : Nat} {S S0 M M0 S' M' : gw_S} {x x1 x2 x3 x4 x5 x6 u z d v : Int32}
/-- what a search for a CHAIN stands on -/
def cC (w np nb : Nat) (S M : gw_S) : Prop := rA w np nb S M ∧ rT S M ∧ rO S M ∧ lFd S M
theorem cC.scr (h : cC w np nb S M) (q : ∀ r, ¬ (15 ≤ r ∧ r ≤ 19) → S' r = S r) (p : ∀ r, ¬ (39 ≤ r ∧ r ≤ 42) → M' r = M r) : cC w np nb S' M' := ⟨h.1.scr q p, h.2.1.fr (q 5 (by omega)) (p 1 (by omega)) (p 2 (by omega)) (p 3 (by omega)), h.2.2.1.fr (q 11 (by omega)) (p 6 (by omega)), h.2.2.2.scr q p⟩
/-- from whom a PIECE can be taken for a BOOKING: -1 FREE, -2 it can't be had -/
def aSrc (M : gw_S) (i j : Nat) : Int32 := if f_X9_fitOf (nI i) (M 25 j) (M 26 j) M = some 2 ∧ aWe M i j then (if (f_X9_holderOf (nI i) (nI j) M).getD (-2) < 0 then (f_X9_holderOf (nI i) (nI j) M).getD (-2) else (if M 33 ((f_X9_holderOf (nI i) (nI j) M).getD (-2)).toNatClampNeg = 0 then (f_X9_holderOf (nI i) (nI j) M).getD (-2) else -2)) else -2
theorem cC.src (h : cC w np nb S M) (hi : i < np) (hj : j < nb) : ∃ fv hv, f_X2_fitOf (nI i) (M 25 j) (M 26 j) S = some fv ∧ f_X9_fitOf (nI i) (M 25 j) (M 26 j) M = some fv ∧ f_X2_holderInTheWay (nI i) (nI j) S = some hv ∧ f_X9_holderOf (nI i) (nI j) M = some hv ∧ aHp M nb i j hv ∧ aSrc M i j = (if fv = 2 ∧ aWe M i j then (if hv < 0 then hv else (if M 33 hv.toNatClampNeg = 0 then hv else -2)) else -2) := by
  obtain ⟨hA, hT, hO, hF⟩ := h
  have hb := hA.b hj
  obtain ⟨fv, -, f1, f2⟩ := hA.fit hT hF hi (x2 := M 25 j) (x3 := M 26 j) hb.2.2.2.2.2.1 hb.2.2.2.2.2.2.1
  obtain ⟨hv, g1, g2, g3⟩ := hA.holder hT hO hi hj
  refine ⟨fv, hv, f1, f2, g1, g2, g3, ?_⟩
  unfold aSrc
  rw [f2, g2]
  simp only [Option.some.injEq, Option.getD_some]
theorem cC.srcR (h : cC w np nb S M) (hi : i < np) (hj : j < nb) : aSrc M i j = -2 ∨ aSrc M i j = -1 ∨ ∃ c, c < nb ∧ aSrc M i j = nI c ∧ M 32 c = nI i ∧ ¬ c = j := by
  obtain ⟨fv, hv, -, -, -, -, g, e⟩ := h.src hi hj
  rw [e]
  split
  · rcases g with q | q | ⟨c, hc, q, q2⟩
    · rw [q, if_pos (by decide)]; exact Or.inr (Or.inl rfl)
    · rw [q, if_pos (by decide)]; exact Or.inl rfl
    · have := h.1.ib hc
      rw [q, if_neg (pn_n0 (by omega))]
      split
      · exact Or.inr (Or.inr ⟨c, hc, rfl, q2.2.1, q2.1⟩)
      · exact Or.inl rfl
  · exact Or.inl rfl
theorem cC.srcE (h : cC w np nb S M) (q : ∀ r, ¬ (39 ≤ r ∧ r ≤ 42) → M' r = M r) (hi : i < np) (hj : j < nb) : aSrc M' i j = aSrc M i j := by
  have h' : cC w np nb S M' := h.scr (fun _ _ => rfl) q
  obtain ⟨fv, hv, a1, -, a3, -, -, e⟩ := h.src hi hj
  obtain ⟨fv', hv', b1, -, b3, -, -, e'⟩ := h'.src hi hj
  rw [q 25 (by omega), q 26 (by omega), a1] at b1
  rw [a3] at b3
  obtain rfl := Option.some.inj b1
  obtain rfl := Option.some.inj b3
  rw [e, e']
  have w1 : aWe M' i j ↔ aWe M i j := by unfold aWe aRet; rw [q 13 (by omega), q 15 (by omega), q 16 (by omega), q 17 (by omega), q 18 (by omega), q 27 (by omega)]
  simp only [w1, q 33 (by omega)]
theorem cC.whom (h : cC w np nb S M) (hi : i < np) (hj : j < nb) : f_X9_fromWhom (nI i) (nI j) M = some (if aSrc M i j < 0 then -1 else aSrc M i j) := by
  obtain ⟨fv, hv, -, a2, -, a4, g, e⟩ := h.src hi hj
  have hA := h.1
  unfold f_X9_fromWhom
  rw [gw_gdT (hA.inb hj)]
  simp only [hA.cb hj]
  rw [a2, gw_bdS, (hA.well hi hj).2, ps_br, a4, gw_bdS]
  by_cases c1 : fv = 2
  · rw [if_pos c1]
    by_cases c2 : aWe M i j
    · rw [if_pos (show fv = 2 ∧ aWe M i j from ⟨c1, c2⟩)] at e
      rw [if_pos c2]
      by_cases c3 : hv < 0
      · rw [if_pos c3] at e
        rw [if_pos c3, e, if_pos c3]
      · rw [if_neg c3] at e
        rw [if_neg c3]
        rcases g with q | q | ⟨c, hc, q, q2⟩
        · rw [q] at c3; exact absurd (by decide) c3
        · rw [q] at c3; exact absurd (by decide) c3
        · rw [q, hA.cb hc] at e
          rw [q] at c3
          rw [q, gw_gdT (hA.inb hc), hA.cb hc]
          by_cases c4 : M 33 c = 0
          · rw [if_pos c4] at e; rw [if_pos c4, e, if_neg c3]
          · rw [if_neg c4] at e; rw [if_neg c4, e, if_pos (by decide)]
    · rw [if_neg (show ¬ (fv = 2 ∧ aWe M i j) from fun q => c2 q.2)] at e
      rw [if_neg c2, e, if_pos (by decide)]
  · rw [if_neg (show ¬ (fv = 2 ∧ aWe M i j) from fun q => c1 q.1)] at e
    rw [if_neg c1, e, if_pos (by decide)]
theorem cC.last (h : cC w np nb S M) (hi : i < np) (hj : j < nb) : gw_bd (f_X9_fitOf (nI i) (M 25 j) (M 26 j) M) (fun r17 => (if r17 = (2 : Int32) then gw_bd (f_X9_isFree (nI i) (nI j) M) (fun r20 => (if r20 = 0 then some (0 : Int32) else some (1 : Int32))) else some (0 : Int32))) = some (if aSrc M i j = -1 then 1 else 0) := by
  obtain ⟨fv, hv, -, a2, -, a4, g, e⟩ := h.src hi hj
  have hA := h.1
  rw [a2, gw_bdS]
  unfold f_X9_isFree
  rw [(hA.well hi hj).2, ps_br, a4, gw_bdS]
  by_cases c1 : fv = 2
  · rw [if_pos c1]
    by_cases c2 : aWe M i j
    · rw [if_pos (show fv = 2 ∧ aWe M i j from ⟨c1, c2⟩)] at e
      rw [if_pos c2]
      rcases g with q | q | ⟨c, hc, q, q2⟩
      · rw [q, if_pos (by decide)] at e
        rw [q, e]; decide
      · rw [q, if_pos (by decide)] at e
        rw [q, e]; decide
      · have := hA.ib hc
        rw [q, if_neg (pn_n0 (by omega)), hA.cb hc] at e
        rw [q, if_neg (hA.nb1 hc), gw_bdS, if_pos rfl]
        by_cases c4 : M 33 c = 0
        · rw [if_pos c4] at e; rw [e, if_neg (hA.nb1 hc)]
        · rw [if_neg c4] at e; rw [e, if_neg (by decide)]
    · rw [if_neg (show ¬ (fv = 2 ∧ aWe M i j) from fun q => c2 q.2)] at e
      rw [if_neg c2, e, gw_bdS, if_pos rfl, if_neg (by decide)]
  · rw [if_neg (show ¬ (fv = 2 ∧ aWe M i j) from fun q => c1 q.1)] at e
    rw [if_neg c1, e, if_neg (by decide)]
/-- the class reads it thus -/
theorem cC.cls (h : cC w np nb S M) (hi : i < np) (hj : j < nb) {K37 : Int32 → Int32 → Int32 → gw_S → Option gw_S} {t0 : Int32} : gw_bd (f_X4_canBeWornOn (nI i) (M 27 j) S) (fun r32 => (if r32 = 0 then f_X1_readSources_b119 K37 (nI j) t0 (nI i) (-2 : Int32) S else gw_bd (f_X2_surelyFits (nI i) (nI j) S) (fun r35 => (if r35 = 0 then f_X1_readSources_b119 K37 (nI j) t0 (nI i) (-2 : Int32) S else gw_bd (f_X2_holderInTheWay (nI i) (nI j) S) (fun r38 => f_X1_readSources_b119 K37 (nI j) t0 (nI i) r38 S))))) = f_X1_readSources_b147 K37 (nI j) t0 (nI i) (aSrc M i j) S := by
  obtain ⟨fv, hv, a1, -, a3, -, g, e⟩ := h.src hi hj
  have hA := h.1
  have hb := hA.b hj
  have n2 : f_X1_readSources_b119 K37 (nI j) t0 (nI i) (-2 : Int32) S = f_X1_readSources_b147 K37 (nI j) t0 (nI i) (-2) S := by
    unfold f_X1_readSources_b119 f_X2_bookingAt
    rw [if_pos (by decide), gw_bdS, if_pos rfl]
  rw [(hA.well hi hj).1, ps_br, n2]
  unfold f_X2_surelyFits
  rw [gw_gdT (hA.nb1 hj), gw_gdT (hA.gb hj)]
  simp only [hA.cb hj]
  rw [hb.1.2.1, hb.1.2.2.1, a1, gw_bdS, a3, gw_bdS]
  by_cases c2 : aWe M i j
  · rw [if_pos c2]
    by_cases c1 : fv = 2
    · rw [if_pos (show fv = 2 ∧ aWe M i j from ⟨c1, c2⟩)] at e
      rw [if_pos c1, gw_bdS, if_neg pn_10]
      rcases g with q | q | ⟨c, hc, q, q2⟩
      · rw [q, if_pos (by decide)] at e
        rw [q, e]
        unfold f_X1_readSources_b119 f_X2_bookingAt
        rw [if_pos (by decide), gw_bdS, if_pos rfl]
      · rw [q, if_pos (by decide)] at e
        rw [q, e]; exact n2
      · have := hA.ib hc
        rw [q, if_neg (pn_n0 (by omega)), hA.cb hc] at e
        rw [q]
        unfold f_X1_readSources_b119
        rw [hA.1.bookingAt hc, gw_bdS, if_neg (hA.nb1 hc), gw_gdT (hA.gb hc), hA.out hc, gw_bdS]
        by_cases c4 : M 33 c = 0
        · rw [if_pos c4] at e; rw [if_pos c4, if_pos rfl, e]
        · rw [if_neg c4] at e; rw [if_neg c4, if_neg pn_10, e]
    · rw [if_neg (show ¬ (fv = 2 ∧ aWe M i j) from fun q => c1 q.1)] at e
      rw [if_neg c1, gw_bdS, if_pos rfl, e]
  · rw [if_neg (show ¬ (fv = 2 ∧ aWe M i j) from fun q => c2 q.2)] at e
    rw [if_neg c2, e]
end RCA
end
section
section RCB
variable {np nb k b f : Nat} {so so' : Nat → Nat → Int32} {st st' : Nat → Option (List (Nat × Nat))} {S S' : gw_S} {l : List (Nat × Nat)}
/-- ways from a BOOKING to a FREE PIECE, over so many swaps; PIECES may come again -/
def pT (so : Nat → Nat → Int32) (np nb : Nat) : Nat → Nat → Prop
  | 0, b => ∃ p, p < np ∧ so b p = -1
  | s + 1, b => ∃ p c, p < np ∧ c < nb ∧ so b p = nI c ∧ pT so np nb s c
/-- the first of PIECES for which a step succeeds -/
def fG (np : Nat) (st : Nat → Option (List (Nat × Nat))) : Nat → Option (List (Nat × Nat))
  | 0 => none
  | k + 1 => match st (np - (k + 1)) with
    | some l => some l
    | none => fG np st k
/-- the first CHAIN with so many swaps -/
def fN (so : Nat → Nat → Int32) (np : Nat) : Nat → Nat → List Nat → Option (List (Nat × Nat))
  | 0, b, T => fG np (fun p => if p ∈ T then none else if so b p = -1 then some [(b, p)] else none) np
  | s + 1, b, T => fG np (fun p => if p ∈ T then none else if 0 ≤ so b p then (fN so np s (so b p).toNatClampNeg (p :: T)).map (fun l => (b, p) :: l) else none) np
def fSt (so : Nat → Nat → Int32) (np : Nat) (s b : Nat) (T : List Nat) (p : Nat) : Option (List (Nat × Nat)) := match s with
  | 0 => if p ∈ T then none else if so b p = -1 then some [(b, p)] else none
  | s + 1 => if p ∈ T then none else if 0 ≤ so b p then (fN so np s (so b p).toNatClampNeg (p :: T)).map (fun l => (b, p) :: l) else none
theorem fN_e {s : Nat} {T : List Nat} : fN so np s b T = fG np (fSt so np s b T) np := by cases s <;> rfl
def sR (so : Nat → Nat → Int32) (np nb : Nat) : Prop := nb ≤ 30 ∧ ∀ b, b < nb → ∀ p, p < np → so b p = -2 ∨ so b p = -1 ∨ ∃ c, c < nb ∧ so b p = nI c
theorem fG_c (h : ∀ p, p < np → st p = st' p) : ∀ k, k ≤ np → fG np st k = fG np st' k
  | 0, _ => rfl
  | k + 1, hk => by
    unfold fG
    rw [h _ (by omega), fG_c h k (by omega)]
theorem fG_s : ∀ k, k ≤ np → fG np st k = some l → ∃ p, p < np ∧ st p = some l
  | 0, _, h => by exact absurd h (by unfold fG; simp)
  | k + 1, hk, h => by
    unfold fG at h
    cases e : st (np - (k + 1)) with
    | some l' => rw [e] at h; simp only [Option.some.injEq] at h; subst h; exact ⟨_, by omega, e⟩
    | none => rw [e] at h; exact fG_s k (by omega) h
theorem sR.of (h : sR so np nb) (hb : b < nb) {p : Nat} (hp : p < np) (h0 : 0 ≤ so b p) : ∃ c, c < nb ∧ so b p = nI c := by
  rcases h.2 b hb p hp with q | q | q
  · rw [q] at h0; exact absurd h0 (by decide)
  · rw [q] at h0; exact absurd h0 (by decide)
  · exact q
theorem fN_ok (h : sR so np nb) : ∀ (s b : Nat) (T : List Nat) (l : List (Nat × Nat)), b < nb → fN so np s b T = some l → pT so np nb s b ∧ l.length = s + 1 ∧ ∀ x, x ∈ l → x.1 < nb ∧ x.2 < np
  | 0, b, T, l, hb, e => by
    obtain ⟨p, hp, e⟩ := fG_s np (Nat.le_refl np) e
    split at e
    · exact absurd e (by simp)
    · split at e
      · rename_i q
        simp only [Option.some.injEq] at e
        subst e
        exact ⟨⟨p, hp, q⟩, rfl, fun x hx => by simp only [List.mem_singleton] at hx; subst hx; exact ⟨hb, hp⟩⟩
      · exact absurd e (by simp)
  | s + 1, b, T, l, hb, e => by
    obtain ⟨p, hp, e⟩ := fG_s np (Nat.le_refl np) e
    split at e
    · exact absurd e (by simp)
    · split at e
      · rename_i q
        obtain ⟨c, hc, ec⟩ := h.of hb hp q
        have hnb := h.1
        rw [ec, nI_clamp (by omega)] at e
        cases e2 : fN so np s c (p :: T) with
        | none => rw [e2] at e; exact absurd e (by simp)
        | some l' =>
          rw [e2] at e
          simp only [Option.map_some, Option.some.injEq] at e
          subst e
          obtain ⟨k1, k2, k3⟩ := fN_ok h s c _ l' hc e2
          refine ⟨⟨p, c, hp, hc, ec, k1⟩, by simp [k2], fun x hx => ?_⟩
          simp only [List.mem_cons] at hx
          rcases hx with rfl | hx
          · exact ⟨hb, hp⟩
          · exact k3 x hx
      · exact absurd e (by simp)
theorem fN_q {own : Nat → Nat → Prop} {ok : Nat → Prop} (hR : sR so' np nb) (h : ∀ b, b < nb → ok b → ∀ p, p < np → ¬ own b p → so b p = so' b p) (h2 : ∀ b, b < nb → ∀ p, p < np → ∀ c, c < nb → so' b p = nI c → ok c ∧ ∀ p', own c p' → p' = p) : ∀ (s b : Nat) (T : List Nat), b < nb → ok b → (∀ p, own b p → p ∈ T) → fN so np s b T = fN so' np s b T
  | 0, b, T, hb, hk, ho => by
    refine fG_c (fun p hp => ?_) np (Nat.le_refl np)
    by_cases c : p ∈ T
    · rw [if_pos c, if_pos c]
    · rw [if_neg c, if_neg c, h b hb hk p hp (fun q => c (ho p q))]
  | s + 1, b, T, hb, hk, ho => by
    refine fG_c (fun p hp => ?_) np (Nat.le_refl np)
    by_cases c : p ∈ T
    · rw [if_pos c, if_pos c]
    · rw [if_neg c, if_neg c, h b hb hk p hp (fun q => c (ho p q))]
      by_cases c2 : 0 ≤ so' b p
      · rw [if_pos c2, if_pos c2]
        obtain ⟨c', hc', ec⟩ := hR.of hb hp c2
        have hnb := hR.1
        have := h2 b hb p hp c' hc' ec
        rw [ec, nI_clamp (by omega), fN_q hR h h2 s c' (p :: T) hc' this.1 (fun p' q => by rw [this.2 p' q]; exact List.mem_cons_self)]
      · rw [if_neg c2, if_neg c2]
/-- a CHAIN written down in two rows -/
def fRw (ra rb : Nat) (S : gw_S) : List (Nat × Nat) → Nat → Prop
  | [], _ => True
  | (b, p) :: l, k => S ra k = nI b ∧ S rb k = nI p ∧ fRw ra rb S l (k + 1)
theorem fRw_fr {ra rb : Nat} : ∀ (l : List (Nat × Nat)) (k : Nat), (∀ i, k ≤ i → S' ra i = S ra i ∧ S' rb i = S rb i) → fRw ra rb S l k → fRw ra rb S' l k
  | [], _, _, _ => trivial
  | (b, p) :: l, k, h, hr => ⟨by rw [(h k (Nat.le_refl k)).1]; exact hr.1, by rw [(h k (Nat.le_refl k)).2]; exact hr.2.1, fRw_fr l (k + 1) (fun i hi => h i (by omega)) hr.2.2⟩
theorem fRw_two {ra rb ra' rb' : Nat} : ∀ (l : List (Nat × Nat)) (k : Nat), fRw ra rb S l k → fRw ra' rb' S' l k → ∀ i, i < l.length → ∃ x, x ∈ l ∧ S ra (k + i) = nI x.1 ∧ S rb (k + i) = nI x.2 ∧ S' ra' (k + i) = nI x.1 ∧ S' rb' (k + i) = nI x.2
  | [], _, _, _, i, hi => absurd hi (by simp)
  | (b, p) :: l, k, h, h', 0, _ => ⟨(b, p), List.mem_cons_self, h.1, h.2.1, h'.1, h'.2.1⟩
  | (b, p) :: l, k, h, h', i + 1, hi => by
    obtain ⟨x, h1, h2, h3, h4, h5⟩ := fRw_two l (k + 1) h.2.2 h'.2.2 i (by simpa using hi)
    rw [show k + 1 + i = k + (i + 1) by omega] at h2 h3 h4 h5
    exact ⟨x, List.mem_cons_of_mem _ h1, h2, h3, h4, h5⟩
end RCB
end
section
section RCC
variable {w np nb t i j p c a b f nd : Nat} {S S0 M M0 S' M' : gw_S} {x x1 x2 x3 x4 x5 x6 u z d v tt : Int32} {K : Int32 → Int32 → Int32 → gw_S → Option gw_S}
theorem p_mul24 : ∀ j, j < 30 → ∀ i, i < 24 → nI j * 24 + nI i = nI (24 * j + i) := by decide +kernel
/-- what one BOOKING could take, and from whom; only those that HAVE a PIECE, and the first -/
def aSo (M : gw_S) (f b p : Nat) : Int32 := if (b = f ∨ ¬ M 32 b = -1) ∧ ¬ M 32 b = nI p then aSrc M p b else -2
def aSv (M : gw_S) (tt : Int32) (b p : Nat) : Int32 := if ¬ tt = 0 ∧ ¬ M 32 b = nI p then aSrc M p b else -2
theorem b163_s (h : cC w np nb S M) (hi : i < np) (hj : j < nb) : f_X1_readSources_b163 K (nI j) tt (nI i) v S = K (nI j) tt (nI (i + 1)) (gw_up S 16 (24 * j + i) v) := by
  have hA := h.1
  have i24 := hA.ip hi
  have j30 := hA.ib hj
  have e0 : S (2 * (nI j).toNatClampNeg + 31) 0 = nI j := by rw [hA.cb hj]; exact (hA.b hj).1.1
  unfold f_X1_readSources_b163
  rw [gw_gdT (hA.nb1 hj), gw_gdT (hA.gb hj), e0, p_mul24 j j30 i i24, gw_gdT (pi_in (show 24 * j + i < 720 by omega) (by omega)), gw_letS, gw_letS, pn_a1, nI_clamp (by omega)]
theorem b147_s (h : cC w np nb S M) (hi : i < np) (hj : j < nb) : ∃ S1, f_X1_readSources_b147 K (nI j) tt (nI i) v S = K (nI j) tt (nI (i + 1)) S1 ∧ (∀ r, r ≠ 16 → r ≠ 17 → S1 r = S r) ∧ S1 16 = upd (S 16) (24 * j + i) v ∧ S1 17 = if v = -1 then upd (S 17) j 0 else S 17 := by
  have hA := h.1
  have e0 : S (2 * (nI j).toNatClampNeg + 31) 0 = nI j := by rw [hA.cb hj]; exact (hA.b hj).1.1
  unfold f_X1_readSources_b147
  by_cases c : v = -1
  · rw [if_pos c, if_pos c, gw_gdT (hA.nb1 hj), gw_gdT (hA.gb hj), e0, gw_gdT (hA.inb hj), gw_letS, hA.cb hj]
    have h' : cC w np nb (gw_up S 17 j 0) M := h.scr (fun r hr => gw_upN (by omega)) (fun _ _ => rfl)
    rw [b163_s h' hi hj]
    exact ⟨_, rfl, fun r h1 h2 => by rw [gw_upN h1, gw_upN h2], rfl, rfl⟩
  · rw [if_neg c, if_neg c, b163_s h hi hj]
    exact ⟨_, rfl, fun r h1 h2 => by rw [gw_upN h1], rfl, rfl⟩
theorem b37_s (h : cC w np nb S M) (hi : i < np) (hj : j < nb) (n : Nat) : f_X1_readSources_b37 (n + 1) (nI j) tt (nI i) S = f_X1_readSources_b147 (f_X1_readSources_b37 n) (nI j) tt (nI i) (aSv M tt j i) S := by
  have hA := h.1
  have hb := hA.b hj
  have hnp := hA.1.1.1
  have i24 := hA.ip hi
  have n2 : f_X1_readSources_b119 (f_X1_readSources_b37 n) (nI j) tt (nI i) (-2 : Int32) S = f_X1_readSources_b147 (f_X1_readSources_b37 n) (nI j) tt (nI i) (-2) S := by
    unfold f_X1_readSources_b119 f_X2_bookingAt
    rw [if_pos (by decide), gw_bdS, if_pos rfl]
  unfold aSv
  rw [f_X1_readSources_b37, hA.1.2.1.1, if_neg (pn_le hi (by omega)), hA.1.pieceAt hi, gw_bdS]
  by_cases c1 : tt = 0
  · rw [if_pos c1, n2, if_neg (show ¬ (¬ tt = 0 ∧ ¬ M 32 j = nI i) from fun q => q.1 c1)]
  · rw [if_neg c1, if_neg (hA.np1 hi), gw_gdT (hA.nb1 hj), gw_gdT (hA.gb hj), gw_gdT (ok_np hA (Or.inr ⟨i, hi, rfl⟩)), gw_gdT (by rw [hA.cb hj, hb.2.2.1.1]; exact ok_np hA hb.2.2.1.2), gw_gdT (hA.gp hi)]
    simp only [hA.cb hj]
    rw [hb.2.2.1.1, hb.1.2.2.2.1, h.cls hi hj]
    by_cases c2 : nI i = M 32 j
    · rw [if_pos c2, n2, if_neg (show ¬ (¬ tt = 0 ∧ ¬ M 32 j = nI i) from fun q => q.2 c2.symm)]
    · rw [if_neg c2, if_pos (show ¬ tt = 0 ∧ ¬ M 32 j = nI i from ⟨c1, fun q => c2 q.symm⟩)]
theorem rs_l (hj : j < nb) : ∀ (k n : Nat) (S : gw_S), k ≤ np → k < n → cC w np nb S M → ∃ S1, f_X1_readSources_b37 n (nI j) tt (nI (np - k)) S = some S1 ∧ (∀ r, r ≠ 16 → r ≠ 17 → S1 r = S r) ∧ (∀ q, q ≠ j → S1 17 q = S 17 q) ∧ (S1 17 j = S 17 j ∨ S1 17 j = 0) ∧ ((S 17 j = 0 ∨ ∃ i, np - k ≤ i ∧ i < np ∧ aSv M tt j i = -1) → S1 17 j = 0) ∧ (∀ i, np - k ≤ i → i < np → S1 16 (24 * j + i) = aSv M tt j i) ∧ ∀ q, ¬ (24 * j + (np - k) ≤ q ∧ q < 24 * j + np) → S1 16 q = S 16 q
  | 0, n + 1, S, _, _, h => by
    have hnp := h.1.1.1.1
    rw [f_X1_readSources_b37, h.1.1.2.1.1, if_pos (nI_le (by omega) (by omega))]
    refine ⟨S, rfl, fun _ _ _ => rfl, fun _ _ => rfl, Or.inl rfl, fun q => ?_, fun i h1 h2 => absurd h2 (by omega), fun _ _ => rfl⟩
    rcases q with q | ⟨i, h1, h2, -⟩
    · exact q
    · omega
  | k + 1, n + 1, S, hk, hn, h => by
    obtain ⟨i, ei⟩ : ∃ i, np - (k + 1) = i := ⟨_, rfl⟩
    have hi : i < np := by omega
    have i24 := h.1.ip hi
    have e1 : i + 1 = np - k := by omega
    obtain ⟨S2, a1, a2, a3, a4⟩ := b147_s (K := f_X1_readSources_b37 n) (tt := tt) (v := aSv M tt j i) h hi hj
    obtain ⟨S1, b1, b2, b3, b4, b5, b6, b7⟩ := rs_l hj k n S2 (by omega) (by omega) (h.scr (fun r hr => a2 r (by omega) (by omega)) (fun _ _ => rfl))
    rw [ei, b37_s h hi hj, a1, e1, b1]
    refine ⟨S1, rfl, fun r h1 h2 => by rw [b2 r h1 h2, a2 r h1 h2], fun q hq => ?_, ?_, fun q => b5 ?_, fun i' h1 h2 => ?_, fun q hq => ?_⟩
    · rw [b3 q hq, a4]; split
      · rw [gw_ru hq]
      · rfl
    · rcases b4 with q | q
      · rw [q, a4]; split
        · rw [gw_rs]; exact Or.inr rfl
        · exact Or.inl rfl
      · exact Or.inr q
    · rw [a4]
      rcases q with q | ⟨i', h1, h2, h3⟩
      · left; split
        · rw [gw_rs]
        · exact q
      · by_cases e : i' = i
        · subst e; left; rw [if_pos h3, gw_rs]
        · exact Or.inr ⟨i', by omega, h2, h3⟩
    · by_cases e : i' = i
      · subst e; rw [b7 _ (by omega), a3, gw_rs]
      · exact b6 i' (by omega) h2
    · rw [b7 q (by omega), a3, gw_ru (by omega)]
theorem rs_1 (h : cC w np nb S M) (hj : j < nb) (hf : f < nb) : ∃ S1, f_X1_readSources (nI j) (nI f) S = some S1 ∧ (∀ r, r ≠ 16 → r ≠ 17 → S1 r = S r) ∧ (∀ q, q ≠ j → S1 17 q = S 17 q) ∧ (S1 17 j = 99 ∨ S1 17 j = 0) ∧ (pT (aSo M f) np nb 0 j → S1 17 j = 0) ∧ (∀ i, i < np → S1 16 (24 * j + i) = aSo M f j i) ∧ ∀ q, ¬ (24 * j ≤ q ∧ q < 24 * j + np) → S1 16 q = S 16 q := by
  have hA := h.1
  have hb := hA.b hj
  have hnp := hA.1.1.1
  have j30 := hA.ib hj
  have f30 := hA.ib hf
  have e0 : S (2 * (nI j).toNatClampNeg + 31) 0 = nI j := by rw [hA.cb hj]; exact hb.1.1
  have go : ∀ tt : Int32, (¬ tt = 0 ↔ (j = f ∨ ¬ M 32 j = -1)) → ∃ S1, f_X1_readSources_b22 (nI j) tt S = some S1 ∧ (∀ r, r ≠ 16 → r ≠ 17 → S1 r = S r) ∧ (∀ q, q ≠ j → S1 17 q = S 17 q) ∧ (S1 17 j = 99 ∨ S1 17 j = 0) ∧ (pT (aSo M f) np nb 0 j → S1 17 j = 0) ∧ (∀ i, i < np → S1 16 (24 * j + i) = aSo M f j i) ∧ ∀ q, ¬ (24 * j ≤ q ∧ q < 24 * j + np) → S1 16 q = S 16 q := fun tt ht => by
    have ev : ∀ i, aSv M tt j i = aSo M f j i := fun i => by unfold aSv aSo; simp only [ht]
    unfold f_X1_readSources_b22
    rw [gw_gdT (hA.nb1 hj), gw_gdT (hA.gb hj), e0, gw_gdT (hA.inb hj), gw_letS, hA.cb hj]
    obtain ⟨S1, b1, b2, b3, b4, b5, b6, b7⟩ := rs_l (w := w) (M := M) (tt := tt) hj np gw_F (gw_up S 17 j 99) (Nat.le_refl np) (Nat.lt_of_le_of_lt hnp (by decide)) (h.scr (fun r hr => gw_upN (by omega)) (fun _ _ => rfl))
    rw [Nat.sub_self, show nI 0 = (0 : Int32) from rfl] at b1
    rw [Nat.sub_self] at b5 b6 b7
    rw [gw_upE, gw_rs] at b4
    refine ⟨S1, b1, fun r h1 h2 => by rw [b2 r h1 h2, gw_upN h2], fun q hq => by rw [b3 q hq, gw_upE, gw_ru hq], b4, fun q => ?_, fun i hi => by rw [b6 i (Nat.zero_le i) hi, ev], fun q hq => by rw [b7 q hq, gw_upN (by omega)]⟩
    obtain ⟨p, hp, q⟩ := q
    exact b5 (Or.inr ⟨p, Nat.zero_le p, hp, by rw [ev]; exact q⟩)
  unfold f_X1_readSources f_X1_readSources_b17
  rw [if_neg (hA.nb1 hj), gw_gdT (ok_nb hA (Or.inr ⟨j, hj, rfl⟩)), gw_gdT (ok_nb hA (Or.inr ⟨f, hf, rfl⟩)), gw_gdT (hA.gb hj)]
  simp only [hA.cb hj]
  rw [hb.2.2.1.1]
  by_cases c1 : nI j = nI f
  · rw [if_pos c1]
    exact go 1 ⟨fun _ => Or.inl ((nI_eq (by omega) (by omega)).mp c1), fun _ => by decide⟩
  · rw [if_neg c1]
    have c1' : ¬ j = f := fun e => c1 (by rw [e])
    by_cases c2 : M 32 j = -1
    · rw [if_pos c2]
      exact go 0 ⟨fun q => absurd rfl q, fun q => by rcases q with q | q; exact absurd q c1'; exact absurd c2 q⟩
    · rw [if_neg c2]
      exact go 1 ⟨fun _ => Or.inr c2, fun _ => by decide⟩
/-- all is read -/
def tS (M : gw_S) (f np : Nat) (S : gw_S) (j : Nat) : Prop := (∀ i, i < np → S 16 (24 * j + i) = aSo M f j i) ∧ (S 17 j = 99 ∨ S 17 j = 0)
theorem rd_l (hf : f < nb) : ∀ (k n : Nat) (S : gw_S), k ≤ nb → k < n → cC w np nb S M → (∀ j, j < nb - k → tS M f np S j ∧ (pT (aSo M f) np nb 0 j → S 17 j = 0)) → ∃ S1, f_X1_find_b24 n (nI f) v (nI (nb - k)) S = f_X1_find_b56 gw_F (nI f) v 0 S1 ∧ (∀ r, r ≠ 16 → r ≠ 17 → S1 r = S r) ∧ ∀ j, j < nb → tS M f np S1 j ∧ (pT (aSo M f) np nb 0 j → S1 17 j = 0)
  | 0, n + 1, S, _, _, h, ht => by
    have hnb := h.1.1.1.2
    rw [f_X1_find_b24, h.1.1.2.1.2.1, if_pos (nI_le (by omega) (by omega))]
    exact ⟨S, rfl, fun _ _ _ => rfl, fun j hj => ht j (by omega)⟩
  | k + 1, n + 1, S, hk, hn, h, ht => by
    have hnb := h.1.1.1.2
    have hnp := h.1.1.1.1
    obtain ⟨j, ej⟩ : ∃ j, nb - (k + 1) = j := ⟨_, rfl⟩
    have hj : j < nb := by omega
    have e1 : nI j + (1 : Int32) = nI (nb - k) := by rw [← ej]; exact pn_s hk
    obtain ⟨S2, a1, a2, a3, a4, a5, a6, a7⟩ := rs_1 h hj hf
    obtain ⟨S1, b1, b2, b3⟩ := rd_l hf k n S2 (by omega) (by omega) (h.scr (fun r hr => a2 r (by omega) (by omega)) (fun _ _ => rfl)) (fun j' hj' => by
      by_cases e : j' = j
      · subst e; exact ⟨⟨a6, a4⟩, a5⟩
      · have := ht j' (by omega)
        unfold tS at this ⊢
        rw [a3 j' e]
        exact ⟨⟨fun i hi => by rw [a7 _ (by omega)]; exact this.1.1 i hi, this.1.2⟩, this.2⟩)
    rw [ej, f_X1_find_b24, h.1.1.2.1.2.1, if_neg (pn_le hj (by omega)), h.1.1.bookingAt hj, gw_bdS, a1, gw_bdS, gw_letS, e1, b1]
    exact ⟨S1, rfl, fun r h1 h2 => by rw [b2 r h1 h2, a2 r h1 h2], b3⟩
end RCC
end
section
section RCD
variable {w np nb t i j p c a b f nd : Nat} {S S0 M M0 S' M' : gw_S} {x x1 x2 x3 x4 x5 x6 u z d v tt : Int32} {so : Nat → Nat → Int32}
theorem cC.sR1 (h : cC w np nb S M) : sR (fun b p => aSrc M p b) np nb := ⟨h.1.1.1.2, fun b hb p hp => by
  rcases h.srcR hp hb with q | q | ⟨c, hc, q, -⟩
  · exact Or.inl q
  · exact Or.inr (Or.inl q)
  · exact Or.inr (Or.inr ⟨c, hc, q⟩)⟩
theorem cC.sR2 (h : cC w np nb S M) : sR (aSo M f) np nb := ⟨h.1.1.1.2, fun b hb p hp => by
  unfold aSo
  split
  · exact h.sR1.2 b hb p hp
  · exact Or.inl rfl⟩
/-- the table that is read, and how near -/
def nK (so : Nat → Nat → Int32) (np nb : Nat) (S : gw_S) : Prop := (∀ j, j < nb → ∀ p, p < np → S 16 (24 * j + p) = so j p) ∧ ∀ j, j < nb → rg 0 99 (S 17 j)
theorem nK.source (h : nK so np nb S) (hR : sR so np nb) (hnp : np ≤ 24) (hj : j < nb) (hp : p < np) : f_X1_sourceOf (nI j) (nI p) S = some (so j p) := by
  have hnb := hR.1
  unfold f_X1_sourceOf
  rw [p_mul24 j (by omega) p (by omega), gw_letS, if_neg (pn_n0 (by omega)), if_neg (show ¬ (720 : Int32) ≤ nI (24 * j + p) from pn_le (n := 720) (by omega) (by omega)), gw_gdT (pi_in (by omega) (by omega)), nI_clamp (by omega), h.1 j hj p hp]
theorem nearOf (hj : j < 30) : f_X1_nearestOf (nI j) S = some (S 17 j) := by
  unfold f_X1_nearestOf
  rw [if_neg (pn_n0 (by omega)), if_neg (show ¬ (30 : Int32) ≤ nI j from pn_le (n := 30) hj (by omega)), gw_gdT (pi_in hj (by omega)), nI_clamp (by omega)]
theorem nearNo (h : v < 0) : f_X1_nearestOf v S = some 99 := by unfold f_X1_nearestOf; rw [if_pos h]
/-- how near what a step leads to -/
theorem nK.nr (h : nK so np nb S) (hR : sR so np nb) (hj : j < nb) (hp : p < np) : ∃ r, f_X1_nearestOf (so j p) S = some r ∧ rg 0 99 r ∧ ∀ c, c < nb → so j p = nI c → r = S 17 c := by
  have hnb := hR.1
  have neg : ∀ v : Int32, v < 0 → so j p = v → ∃ r, f_X1_nearestOf (so j p) S = some r ∧ rg 0 99 r ∧ ∀ c, c < nb → so j p = nI c → r = S 17 c := fun v hv e => ⟨99, by rw [e]; exact nearNo hv, ⟨by decide, by decide⟩, fun c hc e2 => by rw [e] at e2; rw [e2] at hv; exact absurd hv (pn_n0 (by omega))⟩
  rcases hR.2 j hj p hp with e | e | ⟨c, hc, e⟩
  · exact neg _ (by decide) e
  · exact neg _ (by decide) e
  · refine ⟨S 17 c, by rw [e]; exact nearOf (by omega), h.2 c hc, fun c' hc' e2 => ?_⟩
    rw [e] at e2
    rw [(nI_eq (by omega) (by omega)).mp e2]
theorem sp_i {K2 : Int32 → gw_S → Option gw_S} (hR : sR so np nb) (hnp : np ≤ 24) (hj : j < nb) : ∀ (k n : Nat) (S : gw_S), k ≤ np → k < n → S 3 6 = nI np → nK so np nb S → ∃ S1, f_X1_spreadNearest_b15 K2 n (nI j) (nI (np - k)) S = K2 (nI (j + 1)) S1 ∧ (∀ r, r ≠ 17 → S1 r = S r) ∧ (∀ q, q ≠ j → S1 17 q = S 17 q) ∧ (0 ≤ (S1 17 j).toInt ∧ (S1 17 j).toInt ≤ (S 17 j).toInt) ∧ ∀ p c, np - k ≤ p → p < np → c < nb → so j p = nI c → (S1 17 j).toInt ≤ (S 17 c).toInt + 1
  | 0, n + 1, S, _, _, h36, h => by
    have h17 := h.2 j hj
    rw [f_X1_spreadNearest_b15, h36, if_pos (nI_le (by omega) (by omega)), gw_letS, pn_a1]
    exact ⟨S, rfl, fun _ _ => rfl, fun _ _ => rfl, ⟨h17.1, Int.le_refl _⟩, fun p c h1 h2 => absurd h2 (by omega)⟩
  | k + 1, n + 1, S, hk, hn, h36, h => by
    have hnb := hR.1
    obtain ⟨p, ep⟩ : ∃ p, np - (k + 1) = p := ⟨_, rfl⟩
    have hp : p < np := by omega
    have e1 : nI p + (1 : Int32) = nI (np - k) := by rw [← ep]; exact pn_s hk
    obtain ⟨r, n1, n2, n3⟩ := h.nr hR hj hp
    have h17 := h.2 j hj
    unfold rg at n2 h17
    have er : (r + 1).toInt = r.toInt + 1 := by rw [pn_add (by omega) (by rw [pz_1]; omega), pz_1]
    rw [ep, f_X1_spreadNearest_b15, h36, if_neg (pn_le hp (by omega)), h.source hR hnp hj hp, gw_bdS, n1, gw_bdS, gw_letS, nearOf (by omega), gw_bdS]
    unfold f_X1_spreadNearest_b55
    by_cases c1 : S 17 j ≤ r + 1
    · rw [if_pos c1, gw_letS, e1]
      rw [ps_leI, er] at c1
      obtain ⟨S1, b1, b2, b3, b4, b5⟩ := sp_i (K2 := K2) hR hnp hj k n S (by omega) (by omega) h36 h
      refine ⟨S1, b1, b2, b3, b4, fun p' c h1 h2 hc he => ?_⟩
      by_cases e : p' = p
      · subst e; rw [← n3 c hc he]; omega
      · exact b5 p' c (by omega) h2 hc he
    · rw [if_neg c1, gw_gdT (pi_in (show j < 30 by omega) (by omega)), gw_letS, nI_clamp (by omega), gw_letS, e1]
      rw [ps_leI, er] at c1
      have h' : nK so np nb (gw_up S 17 j (r + 1)) := ⟨fun j' hj' p' hp' => h.1 j' hj' p' hp', fun j' hj' => by
        rw [gw_upE]
        by_cases e : j' = j
        · subst e; rw [gw_rs]; unfold rg; rw [er]; omega
        · rw [gw_ru e]; exact h.2 j' hj'⟩
      obtain ⟨S1, b1, b2, b3, b4, b5⟩ := sp_i (K2 := K2) hR hnp hj k n (gw_up S 17 j (r + 1)) (by omega) (by omega) h36 h'
      rw [gw_upE, gw_rs, er] at b4
      refine ⟨S1, b1, fun q hq => by rw [b2 q hq, gw_upN hq], fun q hq => by rw [b3 q hq, gw_upE, gw_ru hq], ⟨b4.1, by omega⟩, fun p' c h1 h2 hc he => ?_⟩
      by_cases e : p' = p
      · subst e; rw [← n3 c hc he]; omega
      · have := b5 p' c (by omega) h2 hc he
        rw [gw_upE] at this
        by_cases e2 : c = j
        · subst e2; rw [gw_rs, er] at this; omega
        · rw [gw_ru e2] at this; exact this
theorem sp_o (hR : sR so np nb) (hnp : np ≤ 24) (S0 : gw_S) : ∀ (k n : Nat) (S : gw_S), k ≤ nb → k < n → S 3 6 = nI np → S 3 7 = nI nb → nK so np nb S → (∀ j, j < nb → (S 17 j).toInt ≤ (S0 17 j).toInt) → (∀ j, j < nb - k → ∀ p c, p < np → c < nb → so j p = nI c → (S 17 j).toInt ≤ (S0 17 c).toInt + 1) → ∃ S1, f_X1_spreadNearest_b2 n (nI (nb - k)) S = some S1 ∧ (∀ r, r ≠ 17 → S1 r = S r) ∧ nK so np nb S1 ∧ (∀ j, j < nb → (S1 17 j).toInt ≤ (S0 17 j).toInt) ∧ ∀ j, j < nb → ∀ p c, p < np → c < nb → so j p = nI c → (S1 17 j).toInt ≤ (S0 17 c).toInt + 1
  | 0, n + 1, S, _, _, h36, h37, h, hm, hd => by
    have hnb := hR.1
    rw [f_X1_spreadNearest_b2, h37, if_pos (nI_le (by omega) (by omega))]
    exact ⟨S, rfl, fun _ _ => rfl, h, hm, fun j hj => hd j (by omega)⟩
  | k + 1, n + 1, S, hk, hn, h36, h37, h, hm, hd => by
    have hnb := hR.1
    obtain ⟨j, ej⟩ : ∃ j, nb - (k + 1) = j := ⟨_, rfl⟩
    have hj : j < nb := by omega
    have e1 : j + 1 = nb - k := by omega
    obtain ⟨S2, a1, a2, a3, a4, a5⟩ := sp_i (K2 := f_X1_spreadNearest_b2 n) hR hnp hj np gw_F S (Nat.le_refl np) (Nat.lt_of_le_of_lt hnp (by decide)) h36 h
    rw [Nat.sub_self, show nI 0 = (0 : Int32) from rfl] at a1
    rw [Nat.sub_self] at a5
    have h2 : nK so np nb S2 := ⟨fun j' hj' p' hp' => by rw [a2 16 (by omega)]; exact h.1 j' hj' p' hp', fun j' hj' => by
      by_cases e : j' = j
      · subst e; have := h.2 j' hj'; unfold rg at *; omega
      · rw [a3 j' e]; exact h.2 j' hj'⟩
    have mono : ∀ j', j' < nb → (S2 17 j').toInt ≤ (S 17 j').toInt := fun j' hj' => by
      by_cases e : j' = j
      · subst e; exact a4.2
      · rw [a3 j' e]; exact Int.le_refl _
    obtain ⟨S1, b1, b2, b3, b4, b5⟩ := sp_o hR hnp S0 k n S2 (by omega) (by omega) (by rw [a2 3 (by omega)]; exact h36) (by rw [a2 3 (by omega)]; exact h37) h2 (fun j' hj' => by have := mono j' hj'; have := hm j' hj'; omega) (fun j' hj' p c hp hc he => by
      by_cases e : j' = j
      · subst e
        have := a5 p c (Nat.zero_le p) hp hc he
        have := hm c hc
        omega
      · rw [a3 j' e]; exact hd j' (by omega) p c hp hc he)
    rw [ej, f_X1_spreadNearest_b2, h37, if_neg (pn_le hj (by omega)), a1, e1, b1]
    exact ⟨S1, rfl, fun r hr => by rw [b2 r hr, a2 r hr], b3, b4, b5⟩
/-- no way is longer than it says, up to so many swaps -/
def nS (so : Nat → Nat → Int32) (np nb m : Nat) (S : gw_S) : Prop := ∀ s, s ≤ m → ∀ j, j < nb → pT so np nb s j → (S 17 j).toInt ≤ s
theorem sp_1 (hR : sR so np nb) (hnp : np ≤ 24) {m : Nat} (h36 : S 3 6 = nI np) (h37 : S 3 7 = nI nb) (h : nK so np nb S) (hs : nS so np nb m S) : ∃ S1, f_X1_spreadNearest S = some S1 ∧ (∀ r, r ≠ 17 → S1 r = S r) ∧ nK so np nb S1 ∧ nS so np nb (m + 1) S1 := by
  have hnb := hR.1
  obtain ⟨S1, b1, b2, b3, b4, b5⟩ := sp_o hR hnp S nb gw_F S (Nat.le_refl nb) (Nat.lt_of_le_of_lt hnb (by decide)) h36 h37 h (fun _ _ => Int.le_refl _) (fun j hj => absurd hj (by omega))
  rw [Nat.sub_self, show nI 0 = (0 : Int32) from rfl] at b1
  refine ⟨S1, b1, b2, b3, fun s hs1 j hj hp => ?_⟩
  cases s with
  | zero => have := hs 0 (Nat.zero_le m) j hj hp; have := b4 j hj; omega
  | succ s =>
    obtain ⟨p, c, h1, h2, h3, h4⟩ := hp
    have := hs s (by omega) c h2 h4
    have := b5 j hj p c h1 h2 h3
    omega
theorem sp_n (hR : sR so np nb) (hnp : np ≤ 24) {ms : Nat} (hms : ms ≤ 3) (hf : f < nb) : ∀ (k n : Nat) (S : gw_S), k ≤ ms → k < n → S 3 6 = nI np → S 3 7 = nI nb → S 29 1 = nI nb → S (2 * f + 31) 0 = nI f → nK so np nb S → nS so np nb (ms - k) S → ∃ S1, f_X1_find_b56 n (nI f) (nI ms) (nI (ms - k)) S = f_X1_find_b83 gw_F (nI ms) 0 (gw_up S1 18 0 (nI f)) ∧ (∀ r, r ≠ 17 → S1 r = S r) ∧ nK so np nb S1 ∧ nS so np nb ms S1
  | 0, n + 1, S, _, _, h36, h37, h29, h0, h, hs => by
    have hnb := hR.1
    have cf : (nI f).toNatClampNeg = f := nI_clamp (by omega)
    have g : (nI f).toNatClampNeg < gw_nb S := by unfold gw_nb; rw [h29, cf, nI_clamp (by omega)]; exact hf
    rw [f_X1_find_b56, if_pos (nI_le (by omega) (by omega)), gw_gdT (pn_m1 (by omega)), gw_gdT g, gw_letS]
    rw [cf, h0]
    exact ⟨S, rfl, fun _ _ => rfl, h, hs⟩
  | k + 1, n + 1, S, hk, hn, h36, h37, h29, h0, h, hs => by
    obtain ⟨m, em⟩ : ∃ m, ms - (k + 1) = m := ⟨_, rfl⟩
    have e1 : nI m + (1 : Int32) = nI (ms - k) := by rw [← em]; exact pn_s hk
    rw [em] at hs
    obtain ⟨S2, a1, a2, a3, a4⟩ := sp_1 hR hnp h36 h37 h hs
    rw [show m + 1 = ms - k by omega] at a4
    obtain ⟨S1, b1, b2, b3, b4⟩ := sp_n hR hnp hms hf k n S2 (by omega) (by omega) (by rw [a2 3 (by omega)]; exact h36) (by rw [a2 3 (by omega)]; exact h37) (by rw [a2 29 (by omega)]; exact h29) (by rw [a2 _ (by omega)]; exact h0) a3 a4
    rw [em, f_X1_find_b56, if_neg (pn_le (by omega) (by omega)), a1, gw_bdS, gw_letS, e1, b1]
    exact ⟨S1, rfl, fun r hr => by rw [b2 r hr, a2 r hr], b3, b4⟩
end RCD
end
section
section RCE
variable {w np nb t i j p c a b f nd pl ms : Nat} {S S0 M M0 S' M' : gw_S} {x x1 x2 x3 x4 x5 x6 u z d v r : Int32} {so : Nat → Nat → Int32} {T : List Nat} {F : Int32 → Int32 → gw_S → Option (Int32 × gw_S)}
theorem ta_l (hpl : pl ≤ 3) : ∀ (k n : Nat), k ≤ pl → k < n → ∃ r, f_X1_isTakenAhead_b2 S n x (nI pl) (nI (pl - k)) = some r ∧ ((r = 1 ∧ ∃ i, pl - k ≤ i ∧ i < pl ∧ S 19 i = x) ∨ (r = 0 ∧ ∀ i, pl - k ≤ i → i < pl → ¬ S 19 i = x))
  | 0, n + 1, _, _ => by
    rw [f_X1_isTakenAhead_b2, if_pos (nI_le (by omega) (by omega))]
    exact ⟨0, rfl, Or.inr ⟨rfl, fun i h1 h2 => absurd h2 (by omega)⟩⟩
  | k + 1, n + 1, hk, hn => by
    obtain ⟨i, ei⟩ : ∃ i, pl - (k + 1) = i := ⟨_, rfl⟩
    have e1 : nI i + (1 : Int32) = nI (pl - k) := by rw [← ei]; exact pn_s hk
    rw [ei, f_X1_isTakenAhead_b2, if_neg (pn_le (by omega) (by omega)), if_neg (show ¬ (4 : Int32) ≤ nI i from pn_le (n := 4) (by omega) (by omega)), gw_gdT (pi_in (show i < 4 by omega) (by omega)), nI_clamp (by omega), gw_letS, e1]
    by_cases c : S 19 i = x
    · rw [if_pos c]; exact ⟨1, rfl, Or.inl ⟨rfl, i, Nat.le_refl i, by omega, c⟩⟩
    · rw [if_neg c]
      obtain ⟨r, h1, h2⟩ := ta_l hpl k n (by omega) (by omega)
      refine ⟨r, h1, ?_⟩
      rcases h2 with ⟨h2, i', a1, a2, a3⟩ | ⟨h2, h3⟩
      · exact Or.inl ⟨h2, i', by omega, a2, a3⟩
      · refine Or.inr ⟨h2, fun i' a1 a2 => ?_⟩
        by_cases e : i' = i
        · subst e; exact c
        · exact h3 i' (by omega) a2
def tK (ra np : Nat) (S : gw_S) (pl : Nat) (T : List Nat) : Prop := ∀ p, p < np → (p ∈ T ↔ ∃ i, i < pl ∧ S ra i = nI p)
theorem tK.ahead (h : tK 19 np S pl T) (hpl : pl ≤ 3) (hp : p < np) : f_X1_isTakenAhead (nI p) (nI pl) S = some (if p ∈ T then 1 else 0) := by
  obtain ⟨r, h1, h2⟩ := ta_l (S := S) (x := nI p) hpl pl gw_F (Nat.le_refl pl) (Nat.lt_of_le_of_lt hpl (by decide))
  rw [Nat.sub_self, show nI 0 = (0 : Int32) from rfl] at h1
  unfold f_X1_isTakenAhead
  rw [h1]
  rcases h2 with ⟨e, i, -, a2, a3⟩ | ⟨e, a⟩
  · rw [e, if_pos ((h p hp).mpr ⟨i, a2, a3⟩)]
  · rw [e, if_neg (fun q => by obtain ⟨i, a2, a3⟩ := (h p hp).mp q; exact a i (by omega) a2 a3)]
theorem tK.next {ra : Nat} (h : tK ra np S pl T) (hnp : np ≤ 24) (hp : p < np) (e1 : ∀ i, i < pl → S' ra i = S ra i) (e2 : S' ra pl = nI p) : tK ra np S' (pl + 1) (p :: T) := fun q hq => by
  rw [List.mem_cons, h q hq]
  constructor
  · rintro (rfl | ⟨i, h1, h2⟩)
    · exact ⟨pl, by omega, e2⟩
    · exact ⟨i, by omega, by rw [e1 i h1]; exact h2⟩
  · rintro ⟨i, h1, h2⟩
    by_cases e : i = pl
    · subst e; rw [e2] at h2; exact Or.inl ((nI_eq (by omega) (by omega)).mp h2).symm
    · exact Or.inr ⟨i, by omega, by rw [← e1 i (by omega)]; exact h2⟩
theorem tK.fr {ra : Nat} (h : tK ra np S pl T) (e1 : ∀ i, i < pl → S' ra i = S ra i) : tK ra np S' pl T := fun q hq => by
  rw [h q hq]
  constructor
  · rintro ⟨i, h1, h2⟩; exact ⟨i, h1, by rw [e1 i h1]; exact h2⟩
  · rintro ⟨i, h1, h2⟩; exact ⟨i, h1, by rw [← e1 i h1]; exact h2⟩
def fK (so : Nat → Nat → Int32) (np nb ms : Nat) (S : gw_S) : Prop := S 3 6 = nI np ∧ nK so np nb S ∧ nS so np nb ms S
theorem fK.fr (h : fK so np nb ms S) (q : ∀ r, r ≠ 18 → r ≠ 19 → S' r = S r) : fK so np nb ms S' := by
  unfold fK nK nS at h ⊢
  rw [q 3 (by omega) (by omega), q 16 (by omega) (by omega), q 17 (by omega) (by omega)]
  exact h
/-- what a search from one place on does -/
def fP (o : Option (List (Nat × Nat))) (pl : Nat) (S : gw_S) (r : Int32) (S' : gw_S) : Prop := (∀ q, q ≠ 18 → q ≠ 19 → S' q = S q) ∧ (∀ i, i < pl → S' 19 i = S 19 i) ∧ (∀ i, i ≤ pl → S' 18 i = S 18 i) ∧ ((o = none ∧ r = 0) ∨ ∃ l, o = some l ∧ r = 1 ∧ fRw 18 19 S' l pl)
def FP (so : Nat → Nat → Int32) (np nb ms : Nat) (F : Int32 → Int32 → gw_S → Option (Int32 × gw_S)) (s : Nat) : Prop := ∀ (pl : Nat) (S : gw_S) (b : Nat) (T : List Nat), pl + s ≤ 3 → fK so np nb ms S → b < nb → S 18 pl = nI b → tK 19 np S pl T → ∃ r S', F (nI pl) (nI s) S = some (r, S') ∧ fP (fN so np s b T) pl S r S'
theorem fo_l (hR : sR so np nb) (hnp : np ≤ 24) {s : Nat} (hF : ∀ s', s = s' + 1 → FP so np nb ms F s') (hs : pl + s ≤ 3) (hb : b < nb) : ∀ (k n : Nat) (S : gw_S), k ≤ np → k < n → fK so np nb ms S → S 18 pl = nI b → tK 19 np S pl T → ∃ r S', f_X1_follow_b31 F n (nI pl) (nI s) (nI b) (nI (np - k)) S = some (r, S') ∧ fP (fG np (fSt so np s b T) k) pl S r S'
  | 0, n + 1, S, _, _, h, h18, hT => by
    rw [f_X1_follow_b31, h.1, if_pos (nI_le (by omega) (by omega))]
    exact ⟨0, S, rfl, fun _ _ _ => rfl, fun _ _ => rfl, fun _ _ => rfl, Or.inl ⟨rfl, rfl⟩⟩
  | k + 1, n + 1, S, hk, hn, h, h18, hT => by
    have hnb := hR.1
    obtain ⟨p, ep⟩ : ∃ p, np - (k + 1) = p := ⟨_, rfl⟩
    have hp : p < np := by omega
    have e1 : nI p + (1 : Int32) = nI (np - k) := by rw [← ep]; exact pn_s hk
    -- on to the next PIECE
    have skip : ∀ S2 : gw_S, fSt so np s b T p = none → (∀ q, q ≠ 18 → q ≠ 19 → S2 q = S q) → (∀ i, i < pl → S2 19 i = S 19 i) → (∀ i, i ≤ pl → S2 18 i = S 18 i) → ∃ r S', f_X1_follow_b141 F (f_X1_follow_b31 F n) (nI pl) (nI s) (nI b) (nI p) S2 = some (r, S') ∧ fP (fG np (fSt so np s b T) (k + 1)) pl S r S' := fun S2 hn0 q1 q2 q3 => by
      unfold f_X1_follow_b141 fG
      rw [gw_letS, e1, ep, hn0]
      obtain ⟨r, S3, a1, a2, a3, a4, a5⟩ := fo_l hR hnp hF hs hb k n S2 (by omega) (by omega) (h.fr q1) (by rw [q3 pl (Nat.le_refl pl)]; exact h18) (hT.fr q2)
      exact ⟨r, S3, a1, fun q h1 h2 => by rw [a2 q h1 h2, q1 q h1 h2], fun i hi => by rw [a3 i hi, q2 i hi], fun i hi => by rw [a4 i hi, q3 i hi], a5⟩
    have same := fun hn0 => skip S hn0 (fun _ _ _ => rfl) (fun _ _ => rfl) (fun _ _ => rfl)
    have got : ∀ l, fSt so np s b T p = some l → fG np (fSt so np s b T) (k + 1) = some l := fun l hl => by
      unfold fG; rw [ep, hl]
    rw [ep, f_X1_follow_b31, h.1, if_neg (pn_le hp (by omega)), h.2.1.source hR hnp hb hp, gw_bdS]
    unfold f_X1_follow_b70 f_X1_follow_b79
    rw [hT.ahead (by omega) hp, ps_br]
    by_cases cT : p ∈ T
    · have hn0 : fSt so np s b T p = none := by unfold fSt; cases s <;> simp [cT]
      rw [if_pos cT]
      have := same hn0
      repeat' split
      all_goals exact this
    · rw [if_neg cT]
      cases s with
      | zero =>
        have i0 : (nI 0 : Int32) = 0 := rfl
        rw [if_pos i0, if_pos i0, if_neg (show ¬ (0 : Int32) = 1 by decide), if_pos (show (1 : Int32) = 1 from rfl)]
        by_cases c1 : so b p = -1
        · rw [if_neg (show ¬ so b p = -2 by rw [c1]; decide), if_pos c1, gw_gdT (pi_in (show pl < 4 by omega) (by omega)), gw_letS, if_pos i0, nI_clamp (by omega)]
          refine ⟨1, _, rfl, fun q h1 h2 => gw_upN h2, fun i hi => by rw [gw_upE, gw_ru (by omega)], fun i hi => rfl, Or.inr ⟨_, got [(b, p)] (by unfold fSt; simp [cT, c1]), rfl, ?_⟩⟩
          exact ⟨h18, by rw [gw_upE, gw_rs], trivial⟩
        · have := same (by unfold fSt; simp [cT, c1])
          rw [if_neg c1]
          split <;> exact this
      | succ s =>
        have i0 : ¬ (nI (s + 1) : Int32) = 0 := fun q => by have := congrArg Int32.toInt q; rw [nI_toInt (by omega), Int32.toInt_zero] at this; omega
        rw [if_neg i0, if_neg i0, if_pos (show (0 : Int32) = 0 from rfl), if_neg (show ¬ (1 : Int32) = 0 by decide)]
        rcases hR.2 b hb p hp with e | e | ⟨c, hc, e⟩
        · rw [e, if_pos rfl]
          exact same (by unfold fSt; simp only [cT, e, if_false]; exact if_neg (by decide))
        · rw [e, if_neg (by decide), if_pos rfl]
          exact same (by unfold fSt; simp only [cT, e, if_false]; exact if_neg (by decide))
        · have hst : fSt so np (s + 1) b T p = (fN so np s c (p :: T)).map (fun l => (b, p) :: l) := by
            unfold fSt; simp only [cT, e, if_false]; rw [if_pos (pn_p0 (by omega)), nI_clamp (by omega)]
          have pl1 : nI pl + (1 : Int32) = nI (pl + 1) := pn_a1
          have s1 : nI (s + 1) - (1 : Int32) = nI s := pn_pred
          unfold f_X1_follow_b126
          rw [e, if_neg (show ¬ nI c = (-2 : Int32) from fun q => by have := congrArg Int32.toInt q; rw [nI_toInt (by omega), show ((-2 : Int32)).toInt = -2 by decide] at this; omega), if_neg (pn_m1 (by omega)), gw_gdT (pi_in (show pl < 4 by omega) (by omega)), gw_letS, if_neg i0, pl1, if_neg (show ¬ (4 : Int32) ≤ nI (pl + 1) from pn_le (n := 4) (by omega) (by omega)), gw_gdT (pi_in (show pl + 1 < 4 by omega) (by omega)), gw_letS, s1, nI_clamp (by omega), nI_clamp (by omega)]
          obtain ⟨r, S4, b1, b2, b3, b4, b5⟩ := hF s rfl (pl + 1) (gw_up (gw_up S 19 pl (nI p)) 18 (pl + 1) (nI c)) c (p :: T) (by omega) (h.fr (fun q h1 h2 => by rw [gw_upN h1, gw_upN h2])) hc (by rw [gw_upE, gw_rs]) (hT.next hnp hp (fun i hi => by rw [gw_upN (show 19 ≠ 18 by omega), gw_upE, gw_ru (by omega)]) (by rw [gw_upN (show 19 ≠ 18 by omega), gw_upE, gw_rs]))
          have k1 : ∀ q, q ≠ 18 → q ≠ 19 → S4 q = S q := fun q h1 h2 => by rw [b2 q h1 h2, gw_upN h1, gw_upN h2]
          have k2 : ∀ i, i < pl → S4 19 i = S 19 i := fun i hi => by rw [b3 i (by omega), gw_upN (show 19 ≠ 18 by omega), gw_upE, gw_ru (by omega)]
          have k3 : ∀ i, i ≤ pl → S4 18 i = S 18 i := fun i hi => by rw [b4 i (by omega), gw_upE, gw_ru (by omega), gw_upN (show 18 ≠ 19 by omega)]
          rw [b1, gw_b2S]
          rcases b5 with ⟨o, e5⟩ | ⟨l, o, e5, rw5⟩
          · rw [e5, if_pos rfl]
            exact skip S4 (by rw [hst, o]; rfl) k1 k2 k3
          · rw [e5, if_neg pn_10]
            refine ⟨1, S4, rfl, k1, k2, k3, Or.inr ⟨_, got ((b, p) :: l) (by rw [hst, o]; rfl), rfl, ?_⟩⟩
            exact ⟨by rw [k3 pl (Nat.le_refl pl)]; exact h18, by rw [b3 pl (by omega), gw_upN (show 19 ≠ 18 by omega), gw_upE, gw_rs], rw5⟩
theorem fo_s (hR : sR so np nb) (hnp : np ≤ 24) : ∀ (s n0 : Nat), s ≤ ms → s < n0 → FP so np nb ms (f_X1_follow n0) s
  | s, n0 + 1, hs, hn => fun pl S b T hpl h hb h18 hT => by
    have hnb := hR.1
    have hF : ∀ s', s = s' + 1 → FP so np nb ms (f_X1_follow n0) s' := fun s' e => fo_s hR hnp s' n0 (by omega) (by omega)
    unfold f_X1_follow f_X1_follow_e
    rw [if_neg (show ¬ (4 : Int32) ≤ nI pl from pn_le (n := 4) (by omega) (by omega)), gw_gdT (pi_in (show pl < 4 by omega) (by omega)), nI_clamp (show pl < 2 ^ 31 by omega), h18, nearOf (by omega), gw_bdS, gw_letS]
    by_cases c : S 17 b ≤ nI s
    · rw [if_pos c]
      obtain ⟨r, S', a1, a2⟩ := fo_l (T := T) hR hnp hF hpl hb np gw_F S (Nat.le_refl np) (Nat.lt_of_le_of_lt hnp (by decide)) h h18 hT
      rw [Nat.sub_self, show nI 0 = (0 : Int32) from rfl] at a1
      rw [← fN_e] at a2
      exact ⟨r, S', a1, a2⟩
    · rw [if_neg c]
      refine ⟨0, S, rfl, fun _ _ _ => rfl, fun _ _ => rfl, fun _ _ => rfl, Or.inl ⟨?_, rfl⟩⟩
      cases e : fN so np s b T with
      | none => rfl
      | some l =>
        have := h.2.2 s hs b hb (fN_ok hR s b T l hb e).1
        rw [ps_leI, nI_toInt (by omega)] at c
        omega
end RCE
end
