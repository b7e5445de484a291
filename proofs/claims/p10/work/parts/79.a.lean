section RRU
variable {w np nb t i j p c a b f nd : Nat} {S M S' M' : gw_S} {x k x1 x2 x3 x4 x5 x6 u z d v : Int32}
theorem p_mul6 : ∀ i, i < 6 → ∀ j, j < 6 → nI i * 6 + nI j = nI (6 * i + j) := by decide +kernel
theorem sp_of (ha : a < 6) (hb : b < 6) : f_X3_spanOf (nI a) (nI b) S = some (S 8 (6 * a + b)) := by
  unfold f_X3_spanOf
  rw [p_mul6 a ha b hb, gw_letS, if_neg (pn_n0 (by omega)), if_neg (show ¬ (36 : Int32) ≤ nI (6 * a + b) from pn_le (n := 36) (by omega) (by omega)), gw_gdT (pi_in (by omega) (by omega)), nI_clamp (by omega)]
/-- a span is tightened -/
theorem tg_s (ha : a < 6) (hb : b < 6) : ∃ S1, f_X3_tighten (nI a) (nI b) v S = some S1 ∧ (∀ x y, x < 6 → y < 6 → lD S1 x y = if x = a ∧ y = b then (if v.toInt < lD S a b then v.toInt else lD S a b) else lD S x y) ∧ ∀ r, r ≠ 8 → S1 r = S r := by
  unfold f_X3_tighten
  rw [p_mul6 a ha b hb, gw_letS, if_neg (pn_n0 (by omega)), if_neg (show ¬ (36 : Int32) ≤ nI (6 * a + b) from pn_le (n := 36) (by omega) (by omega)), gw_gdT (pi_in (by omega) (by omega)), nI_clamp (by omega), gw_letS]
  by_cases c1 : S 8 (6 * a + b) ≤ v
  · rw [if_pos c1]
    rw [ps_leI] at c1
    refine ⟨S, rfl, fun x y hx hy => ?_, fun _ _ => rfl⟩
    by_cases e : x = a ∧ y = b
    · rw [if_pos e, if_neg (by unfold lD; omega), e.1, e.2]
    · rw [if_neg e]
  · rw [if_neg c1]
    rw [ps_leI] at c1
    refine ⟨_, rfl, fun x y hx hy => ?_, fun r hr => gw_upN hr⟩
    unfold lD
    rw [gw_upE]
    by_cases e : x = a ∧ y = b
    · rw [if_pos e, if_pos (by omega), e.1, e.2, gw_rs]
    · rw [if_neg e, gw_ru (by omega)]
end RRU
section RRV
variable {w np nb t i j p c a b f nd : Nat} {S S0 M S' M' : gw_S} {x k x1 x2 x3 x4 x5 x6 u z d v : Int32}
theorem pn_addB {x y : Int32} (h : -1000000000 ≤ x.toInt ∧ x.toInt ≤ 1000000000) (h2 : -1000000000 ≤ y.toInt ∧ y.toInt ≤ 1000000000) : (x + y).toInt = x.toInt + y.toInt := by
  rw [Int32.toInt_add, Int.bmod_eq_of_le] <;> omega
/-- the spans inside one step of closing -/
def fwI (k : Nat) (B : Int) (D0 : Nat → Nat → Int) (pos : Nat) (S0 S : gw_S) : Prop :=
  (∀ x y, x < 6 → y < 6 → pos ≤ 6 * x + y → lD S x y = D0 x y) ∧
  (∀ x y, x < 6 → y < 6 → 6 * x + y < pos → lD S x y ≤ D0 x y ∧ -(6 * B) ≤ lD S x y ∧ ((x = k ∨ y = k) → -(3 * B) ≤ lD S x y) ∧ (x = k → y = k → -(2 * B) ≤ lD S x y) ∧ (0 ≤ D0 k k → lD S x y = min (D0 x y) (D0 x k + D0 k y))) ∧
  (∀ l : Nat → Int, (∀ x y, x < 6 → y < 6 → l y - l x ≤ D0 x y) → ∀ x y, x < 6 → y < 6 → l y - l x ≤ lD S x y) ∧ ∀ r, r ≠ 8 → S r = S0 r
theorem fw_step {k : Nat} {B : Int} {D0 : Nat → Nat → Int} (hB : 0 ≤ B ∧ B ≤ 100000000) (hD : ∀ x y, x < 6 → y < 6 → -B ≤ D0 x y ∧ D0 x y ≤ 40) (hk : k < 6) (ha : a < 6) (hb : b < 6) (h : fwI k B D0 (6 * a + b) S0 S) : ∃ r1 r2 S1, f_X3_spanOf (nI a) (nI k) S = some r1 ∧ f_X3_spanOf (nI k) (nI b) S = some r2 ∧ f_X3_tighten (nI a) (nI b) (r1 + r2) S = some S1 ∧ fwI k B D0 (6 * a + b + 1) S0 S1 := by
  obtain ⟨h1, h2, h3, h4⟩ := h
  obtain ⟨S1, t1, t2, t3⟩ := tg_s (S := S) (v := S 8 (6 * a + k) + S 8 (6 * k + b)) ha hb
  refine ⟨_, _, S1, sp_of ha hk, sp_of hk hb, t1, ?_⟩
  have bd : ∀ x y, x < 6 → y < 6 → -(6 * B) ≤ lD S x y ∧ lD S x y ≤ 40 := fun x y hx hy => by
    have := hD x y hx hy
    by_cases e : 6 * x + y < 6 * a + b
    · have := h2 x y hx hy e; omega
    · rw [h1 x y hx hy (by omega)]; omega
  have ev : (S 8 (6 * a + k) + S 8 (6 * k + b)).toInt = lD S a k + lD S k b := by
    have u1 := bd a k ha hk
    have u2 := bd k b hk hb
    exact pn_addB (by unfold lD at u1; omega) (by unfold lD at u2; omega)
  have Dab : lD S a b = D0 a b := h1 a b ha hb (Nat.le_refl _)
  rw [ev] at t2
  refine ⟨fun x y hx hy hp => ?_, fun x y hx hy hp => ?_, fun l hl x y hx hy => ?_, fun r hr => by rw [t3 r hr, h4 r hr]⟩
  · rw [t2 x y hx hy, if_neg (by omega)]; exact h1 x y hx hy (by omega)
  · by_cases e : x = a ∧ y = b
    · obtain ⟨rfl, rfl⟩ := e
      rw [t2 x y hx hy, if_pos ⟨rfl, rfl⟩, Dab]
      have q0 := hD x y hx hy
      have q1 := hD x k hx hk
      have q2 := hD k y hk hy
      have q3 := hD k k hk hk
      -- what stands at (x, k) and (k, y) now
      have r1 : lD S x k ≤ D0 x k ∧ -(3 * B) ≤ lD S x k ∧ (x = k → -(2 * B) ≤ lD S x k) ∧ (6 * x + y ≤ 6 * x + k → lD S x k = D0 x k) ∧ (0 ≤ D0 k k → lD S x k = D0 x k) := by
        by_cases e : 6 * x + k < 6 * x + y
        · obtain ⟨g1, g2, g3, g4, g5⟩ := h2 x k hx hk e
          refine ⟨g1, g3 (Or.inr rfl), fun e1 => g4 e1 rfl, fun q => absurd q (by omega), fun q => ?_⟩
          rw [g5 q]; omega
        · have := h1 x k hx hk (by omega)
          rw [this]; exact ⟨Int.le_refl _, by omega, fun _ => by omega, fun _ => rfl, fun _ => rfl⟩
      have r2 : lD S k y ≤ D0 k y ∧ -(3 * B) ≤ lD S k y ∧ (y = k → -(2 * B) ≤ lD S k y) ∧ (6 * x + y ≤ 6 * k + y → lD S k y = D0 k y) ∧ (0 ≤ D0 k k → lD S k y = D0 k y) := by
        by_cases e : 6 * k + y < 6 * x + y
        · obtain ⟨g1, g2, g3, g4, g5⟩ := h2 k y hk hy e
          refine ⟨g1, g3 (Or.inl rfl), fun e1 => g4 rfl e1, fun q => absurd q (by omega), fun q => ?_⟩
          rw [g5 q]; omega
        · have := h1 k y hk hy (by omega)
          rw [this]; exact ⟨Int.le_refl _, by omega, fun _ => by omega, fun _ => rfl, fun _ => rfl⟩
      obtain ⟨a1, a2, a3, a4, a5⟩ := r1
      obtain ⟨b1, b2, b3, b4, b5⟩ := r2
      refine ⟨by split <;> omega, by split <;> omega, fun q => ?_, fun q1 q2 => ?_, fun q => ?_⟩
      · rcases q with rfl | rfl
        · -- x = k: (k, k) is at hand, (k, y) is not done
          have := b4 (by omega); have := a3 rfl
          split <;> omega
        · -- y = k: (x, k) is not done
          have := a4 (by omega); have := b3 rfl
          split <;> omega
      · subst q1; subst q2
        have := a4 (by omega); have := b4 (by omega)
        split <;> omega
      · rw [a5 q, b5 q]; split <;> omega
    · rw [t2 x y hx hy, if_neg e]
      exact h2 x y hx hy (by omega)
  · have u1 := h3 l hl
    rw [t2 x y hx hy]
    by_cases e : x = a ∧ y = b
    · obtain ⟨rfl, rfl⟩ := e
      rw [if_pos ⟨rfl, rfl⟩]
      have v1 := u1 x k hx hk
      have v2 := u1 k y hk hy
      have v3 := u1 x y hx hy
      split <;> omega
    · rw [if_neg e]; exact u1 x y hx hy
end RRV
section RRW
variable {w np nb t i j p c a b f nd : Nat} {S S0 M S' M' : gw_S} {x x1 x2 x3 x4 x5 x6 u z d v : Int32}
theorem fw_18 {K2 : Int32 → gw_S → Option gw_S} {K10 : Int32 → Int32 → gw_S → Option gw_S} {k : Nat} {B : Int} {D0 : Nat → Nat → Int} (hB : 0 ≤ B ∧ B ≤ 100000000) (hD : ∀ x y, x < 6 → y < 6 → -B ≤ D0 x y ∧ D0 x y ≤ 40) (hk : k < 6) (ha : a < 6) : ∀ (q n b : Nat) (S : gw_S), b + q = 6 → q < n → fwI k B D0 (6 * a + b) S0 S → ∃ S1, f_X3_close_b18 K2 K10 n (nI k) (nI a) (nI b) S = K10 (nI k) (nI (a + 1)) S1 ∧ fwI k B D0 (6 * a + 6) S0 S1
  | 0, n + 1, b, S, hb, _, h => by
    have e : b = 6 := by omega
    subst e
    rw [f_X3_close_b18, if_pos (by decide), gw_letS, pn_a1]
    exact ⟨S, rfl, h⟩
  | q + 1, n + 1, b, S, hb, hn, h => by
    obtain ⟨r1, r2, S1, e1, e2, e3, e4⟩ := fw_step hB hD hk ha (show b < 6 by omega) h
    rw [f_X3_close_b18, if_neg (show ¬ (6 : Int32) ≤ nI b from pn_le (n := 6) (by omega) (by omega)), e1, gw_bdS, e2, gw_bdS, e3, gw_bdS, gw_letS, pn_a1]
    exact fw_18 hB hD hk ha q n (b + 1) S1 (by omega) (by omega) e4
theorem fw_10 {K2 : Int32 → gw_S → Option gw_S} {k : Nat} {B : Int} {D0 : Nat → Nat → Int} (hB : 0 ≤ B ∧ B ≤ 100000000) (hD : ∀ x y, x < 6 → y < 6 → -B ≤ D0 x y ∧ D0 x y ≤ 40) (hk : k < 6) : ∀ (q n a : Nat) (S : gw_S), a + q = 6 → q < n → fwI k B D0 (6 * a) S0 S → ∃ S1, f_X3_close_b10 K2 n (nI k) (nI a) S = K2 (nI (k + 1)) S1 ∧ fwI k B D0 36 S0 S1
  | 0, n + 1, a, S, ha, _, h => by
    have e : a = 6 := by omega
    subst e
    rw [f_X3_close_b10, if_pos (by decide), gw_letS, pn_a1]
    exact ⟨S, rfl, h⟩
  | q + 1, n + 1, a, S, ha, hn, h => by
    rw [f_X3_close_b10, if_neg (show ¬ (6 : Int32) ≤ nI a from pn_le (n := 6) (by omega) (by omega))]
    obtain ⟨S1, e1, e2⟩ := fw_18 (K2 := K2) (K10 := f_X3_close_b10 K2 n) hB hD hk (show a < 6 by omega) 6 gw_F 0 S (by omega) (by decide) h
    rw [show nI 0 = (0 : Int32) from rfl] at e1
    rw [e1]
    exact fw_10 hB hD hk q n (a + 1) S1 (by omega) (by omega) e2
/-- the spans behind some steps -/
def fwJ (k : Nat) (B : Int) (Di : Nat → Nat → Int) (S0 S : gw_S) : Prop :=
  (∀ x y, x < 6 → y < 6 → -B ≤ lD S x y ∧ lD S x y ≤ Di x y) ∧ ((∃ x, x < 6 ∧ lD S x x < 0) ∨ ∀ v x y, v < k → x < 6 → y < 6 → lD S x y ≤ lD S x v + lD S v y) ∧ (∀ l : Nat → Int, (∀ x y, x < 6 → y < 6 → l y - l x ≤ Di x y) → ∀ x y, x < 6 → y < 6 → l y - l x ≤ lD S x y) ∧ ∀ r, r ≠ 8 → S r = S0 r
theorem fw_via {K2 : Int32 → gw_S → Option gw_S} {k : Nat} {B : Int} {Di : Nat → Nat → Int} (hB : 0 ≤ B ∧ B ≤ 10000000) (hi : ∀ x y, x < 6 → y < 6 → Di x y ≤ 40) (hk : k < 6) (h : fwJ k B Di S0 S) : ∃ S1, f_X3_close_b10 K2 gw_F (nI k) 0 S = K2 (nI (k + 1)) S1 ∧ fwJ (k + 1) (6 * B) Di S0 S1 := by
  obtain ⟨h1, h2, h3, h4⟩ := h
  obtain ⟨S1, e1, g1, g2, g3, g4⟩ := fw_10 (K2 := K2) (S0 := S0) (k := k) (B := B) (D0 := lD S) (by omega) (fun x y hx hy => by have := h1 x y hx hy; have := hi x y hx hy; omega) hk 6 gw_F 0 S (by omega) (by decide) ⟨fun _ _ _ _ _ => rfl, fun x y _ _ hp => absurd hp (by omega), fun l hl => hl, h4⟩
  rw [show nI 0 = (0 : Int32) from rfl] at e1
  refine ⟨S1, e1, fun x y hx hy => ?_, ?_, fun l hl => g3 l (h3 l hl), g4⟩
  · have u := g2 x y hx hy (by omega)
    have := h1 x y hx hy
    exact ⟨u.2.1, by omega⟩
  · by_cases hn : ∃ x, x < 6 ∧ lD S x x < 0
    · obtain ⟨x, hx, hq⟩ := hn
      have u := g2 x x hx hx (by omega)
      exact Or.inl ⟨x, hx, by omega⟩
    · have hkk : 0 ≤ lD S k k := by
        by_cases q : 0 ≤ lD S k k
        · exact q
        · exact absurd ⟨k, hk, by omega⟩ hn
      rcases h2 with h2 | h2
      · exact absurd h2 hn
      · refine Or.inr (fun v x y hv hx hy => ?_)
        have d : ∀ x y, x < 6 → y < 6 → lD S1 x y = min (lD S x y) (lD S x k + lD S k y) := fun x y hx hy => (g2 x y hx hy (by omega)).2.2.2.2 hkk
        have hv6 : v < 6 := by omega
        rw [d x y hx hy, d x v hx hv6, d v y hv6 hy]
        by_cases e : v = k
        · subst e; omega
        · have hv' : v < k := by omega
          have t1 := h2 v x y hv' hx hy
          have t2 := h2 v x k hv' hx hk
          have t3 := h2 v k y hv' hk hy
          have t4 := h2 v k k hv' hk hk
          omega
end RRW
section RRX
variable {w np nb t i j p c a b f nd : Nat} {S S0 M S' M' : gw_S} {x x1 x2 x3 x4 x5 x6 u z d v : Int32}
theorem fw_63 : ∀ (q n m : Nat) (S : gw_S), m + q = 6 → q < n → ∃ S1, f_X3_close_b63 n (nI m) S = some S1 ∧ ((∃ x, m ≤ x ∧ x < 6 ∧ lD S x x < 0) ∧ S1 7 4 = 1 ∨ (∀ x, m ≤ x → x < 6 → 0 ≤ lD S x x) ∧ S1 7 4 = S 7 4) ∧ S1 7 3 = S 7 3 ∧ ∀ r, r ≠ 7 → S1 r = S r
  | 0, n + 1, m, S, hm, _ => by
    have e : m = 6 := by omega
    subst e
    rw [f_X3_close_b63, if_pos (by decide)]
    exact ⟨S, rfl, Or.inr ⟨fun x h1 h2 => absurd h2 (by omega), rfl⟩, rfl, fun _ _ => rfl⟩
  | q + 1, n + 1, m, S, hm, hn => by
    have hm6 : m < 6 := by omega
    rw [f_X3_close_b63, if_neg (show ¬ (6 : Int32) ≤ nI m from pn_le (n := 6) hm6 (by omega)), sp_of hm6 hm6, gw_bdS]
    unfold f_X3_close_b83
    simp only [gw_letS, pn_a1]
    by_cases c0 : 0 ≤ S 8 (6 * m + m)
    · rw [if_pos c0]
      rw [ps_leI, Int32.toInt_zero] at c0
      obtain ⟨S1, e1, e2, e3, e4⟩ := fw_63 q n (m + 1) S (by omega) (by omega)
      refine ⟨S1, e1, ?_, e3, e4⟩
      rcases e2 with ⟨⟨x, g1, g2, g3⟩, g4⟩ | ⟨g1, g2⟩
      · exact Or.inl ⟨⟨x, by omega, g2, g3⟩, g4⟩
      · refine Or.inr ⟨fun x h1 h2 => ?_, g2⟩
        by_cases e : x = m
        · subst e; exact c0
        · exact g1 x (by omega) h2
    · rw [if_neg c0]
      rw [ps_leI, Int32.toInt_zero] at c0
      obtain ⟨S1, e1, e2, e3, e4⟩ := fw_63 q n (m + 1) (gw_up S 7 4 1) (by omega) (by omega)
      refine ⟨S1, e1, Or.inl ⟨⟨m, Nat.le_refl m, hm6, by unfold lD; omega⟩, ?_⟩, by rw [e3, gw_upE, gw_ru (by omega)], fun r hr => by rw [e4 r hr, gw_upN hr]⟩
      rcases e2 with ⟨-, g4⟩ | ⟨-, g2⟩
      · exact g4
      · rw [g2, gw_upE, gw_rs]
theorem fw_2 {Di : Nat → Nat → Int} (hi : ∀ x y, x < 6 → y < 6 → Di x y ≤ 40) : ∀ (q n k : Nat) (B : Int) (S : gw_S), k + q = 6 → q < n → 0 ≤ B → B * 6 ^ q ≤ 10000000 → fwJ k B Di S0 S → ∃ S1 B', f_X3_close_b2 n (nI k) S = f_X3_close_b63 gw_F 0 S1 ∧ fwJ 6 B' Di S0 S1
  | 0, n + 1, k, B, S, hk, _, _, _, h => by
    have e : k = 6 := by omega
    subst e
    rw [f_X3_close_b2, if_pos (by decide)]
    exact ⟨S, B, rfl, h⟩
  | q + 1, n + 1, k, B, S, hk, hn, hB0, hB, h => by
    have hk6 : k < 6 := by omega
    have p6 : (1 : Int) ≤ 6 ^ (q + 1) := by
      have : (0 : Int) < 6 ^ (q + 1) := Int.pow_pos (by omega)
      omega
    have hB1 : B ≤ 10000000 := by
      have : B * 1 ≤ B * 6 ^ (q + 1) := Int.mul_le_mul_of_nonneg_left p6 hB0
      omega
    obtain ⟨S1, e1, e2⟩ := fw_via (K2 := f_X3_close_b2 n) (S0 := S0) ⟨hB0, hB1⟩ hi hk6 h
    rw [f_X3_close_b2, if_neg (show ¬ (6 : Int32) ≤ nI k from pn_le (n := 6) hk6 (by omega)), e1]
    refine fw_2 hi q n (k + 1) (6 * B) S1 (by omega) (by omega) (by omega) ?_ e2
    have e3 : 6 * B * 6 ^ q = B * 6 ^ (q + 1) := by rw [Int.pow_succ, Int.mul_comm 6 B, Int.mul_assoc, Int.mul_comm 6 (6 ^ q)]
    omega
/-- closed -/
theorem fw_close {Di : Nat → Nat → Int} (hi : ∀ x y, x < 6 → y < 6 → -40 ≤ Di x y ∧ Di x y ≤ 40) (hS : ∀ x y, x < 6 → y < 6 → lD S x y = Di x y) : ∃ S1, f_X3_close S = some S1 ∧ (∀ x y, x < 6 → y < 6 → lD S1 x y ≤ Di x y) ∧ (∀ l : Nat → Int, (∀ x y, x < 6 → y < 6 → l y - l x ≤ Di x y) → ∀ x y, x < 6 → y < 6 → l y - l x ≤ lD S1 x y) ∧ (((∃ x, x < 6 ∧ lD S1 x x < 0) ∧ S1 7 4 = 1) ∨ ((∀ x, x < 6 → 0 ≤ lD S1 x x) ∧ S1 7 4 = S 7 4 ∧ ∀ v x y, v < 6 → x < 6 → y < 6 → lD S1 x y ≤ lD S1 x v + lD S1 v y)) ∧ S1 7 3 = S 7 3 ∧ ∀ r, r ≠ 7 → r ≠ 8 → S1 r = S r := by
  obtain ⟨S1, B', e1, g1, g2, g3, g4⟩ := fw_2 (S0 := S) (Di := Di) (fun x y hx hy => (hi x y hx hy).2) 6 gw_F 0 40 S (by omega) (by decide) (by omega) (by decide) ⟨fun x y hx hy => by rw [hS x y hx hy]; have := hi x y hx hy; omega, Or.inr (fun v x y hv => absurd hv (by omega)), fun l hl x y hx hy => by rw [hS x y hx hy]; exact hl x y hx hy, fun _ _ => rfl⟩
  rw [show nI 0 = (0 : Int32) from rfl] at e1
  obtain ⟨S2, k1, k2, k3, k4⟩ := fw_63 6 gw_F 0 S1 (by omega) (by decide)
  rw [show nI 0 = (0 : Int32) from rfl] at k1
  have l2 : ∀ x y, lD S2 x y = lD S1 x y := fun x y => by unfold lD; rw [k4 8 (by omega)]
  unfold f_X3_close
  rw [e1, k1]
  refine ⟨S2, rfl, fun x y hx hy => by rw [l2]; exact (g1 x y hx hy).2, fun l hl x y hx hy => by rw [l2]; exact g3 l hl x y hx hy, ?_, by rw [k3, g4 7 (by omega)], fun r h7 h8 => by rw [k4 r h7, g4 r h8]⟩
  rcases k2 with ⟨⟨x, -, hx, hq⟩, h4⟩ | ⟨hq, h4⟩
  · exact Or.inl ⟨⟨x, hx, by rw [l2]; exact hq⟩, h4⟩
  · refine Or.inr ⟨fun x hx => by rw [l2]; exact hq x (by omega) hx, by rw [h4, g4 7 (by omega)], fun v x y hv hx hy => ?_⟩
    rw [l2, l2, l2]
    rcases g2 with ⟨x', hx', hn⟩ | g2
    · have := hq x' (by omega) hx'; omega
    · exact g2 v x y hv hx hy
end RRX
section RRY
variable {S S1 : gw_S}
theorem re_l : ∀ (q n m : Nat) (S : gw_S), m + q = 6 → q < n → ∃ S1, f_X3_readEnds_b2 n (nI m) S = some S1 ∧ (∀ x, m ≤ x → x < 6 → S1 9 x = (if S 7 4 = 0 then -(S 8 (6 * x + 0)) else -9) ∧ S1 10 x = (if S 7 4 = 0 then S 8 (6 * 0 + x) else 9)) ∧ (∀ x, x < m → S1 9 x = S 9 x ∧ S1 10 x = S 10 x) ∧ ∀ r, r ≠ 9 → r ≠ 10 → S1 r = S r
  | 0, n + 1, m, S, hm, _ => by
    have e : m = 6 := by omega
    subst e
    rw [f_X3_readEnds_b2, if_pos (by decide)]
    exact ⟨S, rfl, fun x h1 h2 => absurd h2 (by omega), fun x _ => ⟨rfl, rfl⟩, fun _ _ _ => rfl⟩
  | q + 1, n + 1, m, S, hm, hn => by
    have hm6 : m < 6 := by omega
    have hg : gw_in (nI m) 6 := pi_in hm6 (by omega)
    have gen : ∀ v1 v2 : Int32, v1 = (if S 7 4 = 0 then -(S 8 (6 * m + 0)) else -9) → v2 = (if S 7 4 = 0 then S 8 (6 * 0 + m) else 9) → ∃ S1, f_X3_readEnds_b2 n (nI (m + 1)) (gw_up (gw_up S 9 m v1) 10 m v2) = some S1 ∧ (∀ x, m ≤ x → x < 6 → S1 9 x = (if S 7 4 = 0 then -(S 8 (6 * x + 0)) else -9) ∧ S1 10 x = (if S 7 4 = 0 then S 8 (6 * 0 + x) else 9)) ∧ (∀ x, x < m → S1 9 x = S 9 x ∧ S1 10 x = S 10 x) ∧ ∀ r, r ≠ 9 → r ≠ 10 → S1 r = S r := fun v1 v2 w1 w2 => by
      obtain ⟨S1, e1, e2, e3, e4⟩ := re_l q n (m + 1) (gw_up (gw_up S 9 m v1) 10 m v2) (by omega) (by omega)
      refine ⟨S1, e1, fun x h1 h2 => ?_, fun x h1 => ?_, fun r h1 h2 => by rw [e4 r h1 h2, gw_upN h2, gw_upN h1]⟩
      · by_cases e : x = m
        · subst e
          have := e3 x (by omega)
          rw [this.1, this.2, gw_upN (show 9 ≠ 10 by omega), gw_upE, gw_upE, gw_rs, gw_rs]
          exact ⟨w1, w2⟩
        · exact e2 x (by omega) h2
      · have := e3 x (by omega)
        rw [this.1, this.2, gw_upN (show 9 ≠ 10 by omega), gw_upE, gw_upE, gw_ru (by omega), gw_ru (by omega), gw_upN (show 10 ≠ 9 by omega)]
        exact ⟨rfl, rfl⟩
    rw [f_X3_readEnds_b2, if_neg (show ¬ (6 : Int32) ≤ nI m from pn_le (n := 6) hm6 (by omega)), show (0 : Int32) = nI 0 from rfl, sp_of hm6 (show 0 < 6 by omega), gw_bdS]
    unfold f_X3_readEnds_b32 f_X3_readEnds_b56
    simp only [gw_gdT hg, gw_letS, pn_a1, nI_clamp (show m < 2 ^ 31 by omega)]
    have sp : ∀ v : Int32, f_X3_spanOf 0 (nI m) (gw_up S 9 m v) = some (S 8 (6 * 0 + m)) := fun v => sp_of (S := gw_up S 9 m v) (a := 0) (show 0 < 6 by omega) hm6
    have z : ∀ v : Int32, gw_up S 9 m v 7 4 = S 7 4 := fun v => rfl
    rw [show nI 0 = (0 : Int32) from rfl]
    simp only [sp, z, gw_bdS]
    by_cases c : S 7 4 = 0
    · rw [if_pos c, if_pos c]
      exact gen _ _ (by rw [if_pos c]) (by rw [if_pos c])
    · rw [if_neg c, if_neg c]
      exact gen _ _ (by rw [if_neg c]) (by rw [if_neg c])
end RRY
section RRZ
variable {w np nb t i j p c a b f nd : Nat} {S S0 M S' M' : gw_S} {x x1 x2 x3 x4 x5 x6 u z d v : Int32}
/-- one DOUBLE more, here -/
def sDb (nd : Nat) (M : gw_S) (x1 x2 x3 x4 : Int32) : gw_S := gw_up (gw_up (gw_up (gw_up (gw_up M 19 nd x1) 20 nd x2) 21 nd x3) 22 nd x4) 0 21 (nI (nd + 1))
theorem lF_more {l : Nat → Int} (ha : x1 = nI a) (hb : x3 = nI b) (ha6 : a < 6) (hb6 : b < 6) : lF (nd + 1) (sDb nd M x1 x2 x3 x4) l ↔ lF nd M l ∧ x4.toInt - x2.toInt - 1 ≤ l a - l b ∧ l a - l b ≤ x4.toInt - x2.toInt + 1 := by
  have e19 : sDb nd M x1 x2 x3 x4 19 = upd (M 19) nd x1 := rfl
  have e20 : sDb nd M x1 x2 x3 x4 20 = upd (M 20) nd x2 := rfl
  have e21 : sDb nd M x1 x2 x3 x4 21 = upd (M 21) nd x3 := rfl
  have e22 : sDb nd M x1 x2 x3 x4 22 = upd (M 22) nd x4 := rfl
  unfold lF
  rw [e19, e20, e21, e22]
  constructor
  · rintro ⟨h1, h2, h3⟩
    refine ⟨⟨h1, h2, fun k hk => ?_⟩, ?_⟩
    · have := h3 k (by omega)
      rw [gw_ru (by omega), gw_ru (by omega), gw_ru (by omega), gw_ru (by omega)] at this
      exact this
    · have := h3 nd (by omega)
      rw [gw_rs, gw_rs, gw_rs, gw_rs, ha, hb, nI_clamp (by omega), nI_clamp (by omega)] at this
      exact this
  · rintro ⟨⟨h1, h2, h3⟩, h4⟩
    refine ⟨h1, h2, fun k hk => ?_⟩
    by_cases e : k = nd
    · subst e
      rw [gw_rs, gw_rs, gw_rs, gw_rs, ha, hb, nI_clamp (by omega), nI_clamp (by omega)]
      exact h4
    · rw [gw_ru e, gw_ru e, gw_ru e, gw_ru e]
      exact h3 k (by omega)
end RRZ
section RSA
variable {w np nb t i j p c a b f nd : Nat} {S S0 M S' M' : gw_S} {x x1 x2 x3 x4 x5 x6 u z d v : Int32}
theorem le_s (h : rLd nd S M) (hn : nd < 20) (ha : a < 6) (hb : b < 6) (hab : ¬ a = b) (h2 : 1 ≤ x2.toInt ∧ x2.toInt ≤ 40) (h4 : 1 ≤ x4.toInt ∧ x4.toInt ≤ 40) : ∃ S1, f_X3_learn (nI a) x2 (nI b) x4 S = some S1 ∧ rLd (nd + 1) S1 (sDb nd M (nI a) x2 (nI b) x4) ∧ ∀ r, r ≠ 7 → r ≠ 8 → r ≠ 9 → r ≠ 10 → S1 r = S r := by
  obtain ⟨⟨g1, g2, g3⟩, g4, ⟨g5, g6⟩, g7⟩ := h
  have ranges : ∀ k, k < nd + 1 → rg 0 5 (sDb nd M (nI a) x2 (nI b) x4 19 k) ∧ rg 1 40 (sDb nd M (nI a) x2 (nI b) x4 20 k) ∧ rg 0 5 (sDb nd M (nI a) x2 (nI b) x4 21 k) ∧ rg 1 40 (sDb nd M (nI a) x2 (nI b) x4 22 k) := fun k hk => by
    show rg 0 5 (upd (M 19) nd _ k) ∧ rg 1 40 (upd (M 20) nd _ k) ∧ rg 0 5 (upd (M 21) nd _ k) ∧ rg 1 40 (upd (M 22) nd _ k)
    by_cases e : k = nd
    · subst e
      rw [gw_rs, gw_rs, gw_rs, gw_rs]
      exact ⟨⟨by rw [nI_toInt (by omega)]; omega, by rw [nI_toInt (by omega)]; omega⟩, h2, ⟨by rw [nI_toInt (by omega)]; omega, by rw [nI_toInt (by omega)]; omega⟩, h4⟩
    · rw [gw_ru e, gw_ru e, gw_ru e, gw_ru e]; exact g4 k (by omega)
  have e3 : S 7 3 + 1 = nI (nd + 1) := by rw [g2, nI_1]
  unfold f_X3_learn
  rw [gw_letS, e3]
  rcases g7 with ⟨q1, q2, q3⟩ | ⟨q1, q2, q3, q4, q5, q6, q7⟩
  · rw [if_neg (show ¬ gw_up S 7 3 (nI (nd + 1)) 7 4 = 0 by rw [gw_upE, gw_ru (by omega), q1]; decide)]
    refine ⟨_, rfl, ⟨⟨by omega, rfl, rfl⟩, ranges, ⟨g5, g6⟩, Or.inl ⟨by rw [gw_upE, gw_ru (by omega)]; exact q1, fun l hl => ?_, q3⟩⟩, fun r h7 _ _ _ => gw_upN h7⟩
    exact q2 l ((lF_more rfl rfl ha hb).mp hl).1
  · rw [if_pos (show gw_up S 7 3 (nI (nd + 1)) 7 4 = 0 by rw [gw_upE, gw_ru (by omega)]; exact q1)]
    obtain ⟨S1, t1, t2, t3⟩ := tg_s (S := gw_up S 7 3 (nI (nd + 1))) (v := (1 + x2) - x4) ha hb
    obtain ⟨S2, s1, s2, s3⟩ := tg_s (S := S1) (v := (1 + x4) - x2) hb ha
    have v1 : ((1 + x2) - x4).toInt = 1 + x2.toInt - x4.toInt := by
      have := pn_add (x := 1) (y := x2) (by rw [pz_1]; omega) (by omega)
      rw [pn_sbi (by rw [this, pz_1]; omega) (by omega), this, pz_1]
    have v2 : ((1 + x4) - x2).toInt = 1 + x4.toInt - x2.toInt := by
      have := pn_add (x := 1) (y := x4) (by rw [pz_1]; omega) (by omega)
      rw [pn_sbi (by rw [this, pz_1]; omega) (by omega), this, pz_1]
    have l0 : ∀ x y, lD (gw_up S 7 3 (nI (nd + 1))) x y = lD S x y := fun x y => rfl
    rw [v1] at t2
    rw [v2] at s2
    simp only [l0] at t2
    have lo : ∀ x y, x < 6 → y < 6 → -18 ≤ lD S x y ∧ lD S x y ≤ 18 := fun x y hx hy => by
      have u1 := q5 x y hx hy
      have u2 := q5 y x hy hx
      have u3 := q4 x x y hx hx hy
      have u4 := q3 x hx
      have bx : ∀ x y, lBox x y ≤ 18 := fun x y => by unfold lBox; split <;> split <;> omega
      have b1 := bx x y
      have b2 := bx y x
      omega
    have d1 : ∀ x y, x < 6 → y < 6 → lD S1 x y ≤ lD S x y ∧ -40 ≤ lD S1 x y := fun x y hx hy => by
      have u := lo x y hx hy
      have ua := lo a b ha hb
      rw [t2 x y hx hy]
      by_cases e : x = a ∧ y = b
      · rw [if_pos e]; obtain ⟨rfl, rfl⟩ := e; split <;> omega
      · rw [if_neg e]; omega
    have d2 : ∀ x y, x < 6 → y < 6 → lD S2 x y ≤ lD S1 x y ∧ -40 ≤ lD S2 x y := fun x y hx hy => by
      have u := d1 x y hx hy
      have ua := d1 b a hb ha
      rw [s2 x y hx hy]
      by_cases e : x = b ∧ y = a
      · rw [if_pos e]; obtain ⟨rfl, rfl⟩ := e; split <;> omega
      · rw [if_neg e]; omega
    have nab : lD S2 a b ≤ 1 + x2.toInt - x4.toInt := by
      have h1 := (d2 a b ha hb).1
      have h2 := t2 a b ha hb
      rw [if_pos ⟨rfl, rfl⟩] at h2
      split at h2 <;> omega
    have nba : lD S2 b a ≤ 1 + x4.toInt - x2.toInt := by
      have h2 := s2 b a hb ha
      rw [if_pos ⟨rfl, rfl⟩] at h2
      split at h2 <;> omega
    obtain ⟨S3, c1, c2, c3, c4, c5, c6⟩ := fw_close (S := S2) (Di := lD S2) (fun x y hx hy => ⟨(d2 x y hx hy).2, by have := (d2 x y hx hy).1; have := (d1 x y hx hy).1; have := lo x y hx hy; omega⟩) (fun _ _ _ _ => rfl)
    obtain ⟨S4, r1, r2, r3, r4⟩ := re_l 5 gw_F 1 S3 (by omega) (by decide)
    rw [show nI 1 = (1 : Int32) from rfl] at r1
    unfold f_X3_readEnds
    rw [t1, gw_bdS, s1, gw_bdS, c1, gw_bdS, r1, gw_bdS]
    have fr : ∀ r, r ≠ 7 → r ≠ 8 → r ≠ 9 → r ≠ 10 → S4 r = S r := fun r h7 h8 h9 h10 => by rw [r4 r h9 h10, c6 r h7 h8, s3 r h8, t3 r h8, gw_upN h7]
    have f74 : S2 7 4 = 0 := by rw [s3 7 (by omega), t3 7 (by omega), gw_upE, gw_ru (by omega)]; exact q1
    have f73 : S4 7 3 = nI (nd + 1) := by rw [r4 7 (by omega) (by omega), c5, s3 7 (by omega), t3 7 (by omega), gw_upE, gw_rs]
    have l4 : ∀ x y, lD S4 x y = lD S3 x y := fun x y => by unfold lD; rw [r4 8 (by omega) (by omega)]
    have z9 : S4 9 0 = 0 ∧ S4 10 0 = 0 := by
      have := r3 0 (by omega)
      rw [this.1, this.2, c6 9 (by omega) (by omega), c6 10 (by omega) (by omega), s3 9 (by omega), s3 10 (by omega), t3 9 (by omega), t3 10 (by omega)]
      exact ⟨g5, g6⟩
    -- what all LIES that meet the DOUBLES keep to
    have snd : ∀ l, lF (nd + 1) (sDb nd M (nI a) x2 (nI b) x4) l → ∀ x y, x < 6 → y < 6 → l y - l x ≤ lD S3 x y := fun l hl => by
      obtain ⟨k1, k2, k3⟩ := (lF_more rfl rfl ha hb).mp hl
      refine c3 l (fun x y hx hy => ?_)
      have u0 := q6 l k1 x y hx hy
      have u1 : l y - l x ≤ lD S1 x y := by
        rw [t2 x y hx hy]
        by_cases e : x = a ∧ y = b
        · rw [if_pos e]; obtain ⟨rfl, rfl⟩ := e; split <;> omega
        · rw [if_neg e]; exact u0
      rw [s2 x y hx hy]
      by_cases e : x = b ∧ y = a
      · rw [if_pos e]; obtain ⟨rfl, rfl⟩ := e; split <;> omega
      · rw [if_neg e]; exact u1
    have fall : ∀ x y, x < 6 → y < 6 → lD S3 x y ≤ lD S x y := fun x y hx hy => by
      have h1 := c2 x y hx hy; have h2 := (d2 x y hx hy).1; have h3 := (d1 x y hx hy).1; omega
    refine ⟨S4, rfl, ⟨⟨by omega, f73, rfl⟩, ranges, z9, ?_⟩, fr⟩
    rcases c4 with ⟨⟨x, hx, hneg⟩, hfl⟩ | ⟨hpos, hfl, htri⟩
    · have f4 : S4 7 4 = 1 := by rw [r4 7 (by omega) (by omega)]; exact hfl
      refine Or.inl ⟨f4, fun l hl => ?_, fun m hm1 hm6 => ?_⟩
      · have := snd l hl x x hx hx; omega
      · have := r2 m hm1 hm6
        rw [this.1, this.2, if_neg (by rw [hfl]; decide), if_neg (by rw [hfl]; decide)]; exact ⟨rfl, rfl⟩
    · have f3 : S3 7 4 = 0 := by rw [hfl]; exact f74
      have f4 : S4 7 4 = 0 := by rw [r4 7 (by omega) (by omega)]; exact f3
      have diag : ∀ x, x < 6 → lD S3 x x = 0 := fun x hx => by
        have h1 := hpos x hx; have h2 := fall x x hx hx; have h3 := q3 x hx; omega
      refine Or.inr ⟨f4, fun m hm1 hm6 => ?_, fun x hx => by rw [l4]; exact diag x hx, fun x y v hx hy hv => by rw [l4, l4, l4]; exact htri v x y hv hx hy, fun x y hx hy => by rw [l4]; have h1 := fall x y hx hy; have h2 := q5 x y hx hy; omega, fun l hl x y hx hy => by rw [l4]; exact snd l hl x y hx hy, fun k hk => ?_⟩
      · have := r2 m hm1 hm6
        rw [this.1, this.2, if_pos f3, if_pos f3, l4, l4]
        have h1 := fall m 0 hm6 (by omega)
        have h2 := lo m 0 hm6 (by omega)
        have h3 := htri 0 0 m (by omega) (by omega) hm6
        have h4 : -1000 ≤ lD S3 m 0 := by
          have h5 := htri m 0 0 hm6 (by omega) (by omega)
          have h6 := diag 0 (by omega)
          have h7 := fall 0 m (by omega) hm6
          have h8 := lo 0 m (by omega) hm6
          omega
        refine ⟨?_, rfl⟩
        unfold lD at *
        rw [pn_neg (by omega)]
      · show lD S4 (upd (M 21) nd (nI b) k).toNatClampNeg (upd (M 19) nd (nI a) k).toNatClampNeg ≤ (upd (M 22) nd x4 k).toInt - (upd (M 20) nd x2 k).toInt + 1 ∧ lD S4 (upd (M 19) nd (nI a) k).toNatClampNeg (upd (M 21) nd (nI b) k).toNatClampNeg ≤ 1 - ((upd (M 22) nd x4 k).toInt - (upd (M 20) nd x2 k).toInt)
        rw [l4, l4]
        by_cases e : k = nd
        · subst e
          rw [gw_rs, gw_rs, gw_rs, gw_rs, nI_clamp (by omega), nI_clamp (by omega)]
          have h1 := c2 a b ha hb
          have h2 := c2 b a hb ha
          omega
        · rw [gw_ru e, gw_ru e, gw_ru e, gw_ru e]
          have h := q7 k (by omega)
          obtain ⟨y1, y2, y3, y4⟩ := g4 k (by omega)
          obtain ⟨a', -, ha', ea⟩ := rg_nI (lo := 0) (n := 5) y1 (by omega)
          obtain ⟨b', -, hb', eb⟩ := rg_nI (lo := 0) (n := 5) y3 (by omega)
          rw [ea, eb, nI_clamp (by omega), nI_clamp (by omega)] at h ⊢
          have h1 := fall b' a' (by omega) (by omega)
          have h2 := fall a' b' (by omega) (by omega)
          omega
end RSA
