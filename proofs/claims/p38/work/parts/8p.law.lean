section RPH
variable {np nb i j p q c a b f n k m L g : Nat} {S S0 S1 M M0 N S' M' : gw_S} {x x1 x2 x3 x4 x5 x6 u z d v r y v4 v5 v6 : Int32} {xs : Nat → Int32}
/-- what the law keeps -/
def kI (np nb : Nat) (N S M : gw_S) : Prop := gK np nb S M ∧ iI np nb S M ∧ aN nb N M ∧ (∀ x, x < nb → M 31 x = -1) ∧ M 6 = gw_zM 6
theorem kI.to (h : kI np nb N S M) (h1 : gK np nb S' M') (h2 : iI np nb S' M') (v : vS S S' M M') : kI np nb N S' M' := by
  obtain ⟨-, -, a, b, c⟩ := h
  have m := v.2
  refine ⟨h1, h2, fun x hx => ?_, fun x hx => ?_, ?_⟩
  · rw [m 25 (by omega) (by omega) (by omega), m 26 (by omega) (by omega) (by omega), m 27 (by omega) (by omega) (by omega)]; exact a x hx
  · rw [m 31 (by omega) (by omega) (by omega)]; exact b x hx
  · rw [m 6 (by omega) (by omega) (by omega)]; exact c
theorem pn_m4 (h : k < 2 ^ 31) : ¬ (-4 : Int32) = nI k := fun e => by have := congrArg Int32.toInt e; rw [nI_toInt h, show ((-4 : Int32)).toInt = -4 by decide] at this; omega
theorem kl_475 {K76 : Int32 → Int32 → Int32 → gw_S → gw_S → Option Int32} {K396 : Int32 → Int32 → Int32 → Int32 → gw_S → gw_S → Option Int32} (h : kI np nb N S M) (hi : i < nb) (hp : p < np) (e : M 32 i = nI p) (hK : K396 v4 v5 v6 (nI (i + 1)) S N = some 1) : ∀ (k n : Nat), k ≤ i → k < n → f_L_law_b475 xs L K76 K396 n v4 v5 v6 (nI i) (nI p) (nI (i - k)) S N = some 1
  | 0, n + 1, _, _ => by
    have hnb := h.1.1.1.1.2
    rw [f_L_law_b475, if_pos (nI_le (by omega) (by omega)), gw_letS, pn_a1]
    exact hK
  | k + 1, n + 1, hk, hn => by
    have hA := h.1.1
    have hnb := hA.1.1.2
    have hnp := hA.1.1.1
    obtain ⟨g, eg⟩ : ∃ g, i - (k + 1) = g := ⟨_, rfl⟩
    have hg : g < i := by omega
    have hgb : g < nb := by omega
    have next := kl_475 (K76 := K76) h hi hp e hK k n (by omega) (by omega)
    rw [show i - k = g + 1 by omega] at next
    rw [eg, f_L_law_b475, if_neg (pn_le hg (by omega)), kg_has h.1 hgb, gw_bdS, pn_a1]
    by_cases c1 : (if M 32 g = -1 then (-4 : Int32) else M 32 g) = nI p
    · rw [if_pos c1]
      have e3 : M 32 g = nI p := by
        by_cases c2 : M 32 g = -1
        · rw [if_pos c2] at c1; exact absurd c1 (pn_m4 (by omega))
        · rw [if_neg c2] at c1; exact c1
      obtain ⟨a1, a2⟩ := kg_away h.1 hp hi
      obtain ⟨b1, b2⟩ := kg_away h.1 hp hgb
      rw [a1, gw_bdS, b2, gw_bdS]
      by_cases c2 : aLa M p g < aFa M p i
      · rw [if_pos c2, gw_letS]; exact next
      · rw [if_neg c2, b1, gw_bdS, a2, gw_bdS]
        by_cases c3 : aLa M p i < aFa M p g
        · rw [if_pos c3, gw_letS]; exact next
        · exfalso
          have := kg_meet h.1 hp hi hgb (by rw [ps_leI]; rw [ps_ltI] at c2; omega) (by rw [ps_leI]; rw [ps_ltI] at c3; omega)
          exact h.2.1.2.1 i g p hi hgb (by omega) hp e e3 this
    · rw [if_neg c1, gw_letS]; exact next
theorem kl_396 {K76 : Int32 → Int32 → Int32 → gw_S → gw_S → Option Int32} (h : kI np nb N S M) (hq : nb ≤ 10) (hK : K76 (nI np) (nI nb) (v6 + 1) S N = some 1) : ∀ (k n : Nat), k ≤ nb → k < n → f_L_law_b396 xs L K76 n (nI np) (nI nb) v6 (nI (nb - k)) S N = some 1
  | 0, n + 1, _, _ => by
    rw [f_L_law_b396, if_pos (nI_le (by omega) (by omega)), gw_letS]
    exact hK
  | k + 1, n + 1, hk, hn => by
    have hA := h.1.1
    have hnp := hA.1.1.1
    obtain ⟨i, ei⟩ : ∃ i, nb - (k + 1) = i := ⟨_, rfl⟩
    have hi : i < nb := by omega
    have next := kl_396 h hq hK k n (by omega) (by omega)
    rw [show nb - k = i + 1 by omega] at next
    have e4 := kl_4 i (by omega)
    have g0 : gw_in ((4 : Int32) * nI i) 40 := by rw [e4]; exact pi_in (by omega) (by omega)
    have g1 : gw_in (((4 : Int32) * nI i) + (1 : Int32)) 40 := by rw [e4, pn_a1]; exact pi_in (by omega) (by omega)
    have g2 : gw_in (((4 : Int32) * nI i) + (2 : Int32)) 40 := by rw [e4, pn_a2]; exact pi_in (by omega) (by omega)
    have k0 : ((4 : Int32) * nI i).toNatClampNeg = 4 * i := by rw [e4, nI_clamp (by omega)]
    have k1 : (((4 : Int32) * nI i) + (1 : Int32)).toNatClampNeg = 4 * i + 1 := by rw [e4, pn_a1, nI_clamp (by omega)]
    have k2 : (((4 : Int32) * nI i) + (2 : Int32)).toNatClampNeg = 4 * i + 2 := by rw [e4, pn_a2, nI_clamp (by omega)]
    obtain ⟨n0, n1, n2⟩ := h.2.2.1 i hi
    rw [ei, f_L_law_b396, if_neg (pn_le hi (by omega)), kg_has h.1 hi, gw_bdS]
    rcases (hA.b hi).2.2.1.2 with c1 | ⟨p, hp, c1⟩
    · rw [if_pos c1, if_pos (show (-4 : Int32) < 0 by decide), gw_letS, pn_a1]; exact next
    · have c2 : ¬ M 32 i = -1 := by rw [c1]; exact hA.np1 hp
      obtain ⟨w, w1, w2⟩ := kg_fits h.1 hp hi
      have ia := h.2.1.1 i p hi hp c1
      rw [ia.1] at w1
      obtain rfl := Option.some.inj w1
      have K := kl_475 (xs := xs) (L := L) (K76 := K76) h hi hp c1 next i gw_F (Nat.le_refl i) (Nat.lt_of_le_of_lt (show i ≤ 10 by omega) (by decide))
      rw [Nat.sub_self, show nI 0 = (0 : Int32) from rfl] at K
      rw [if_neg c2, c1, if_neg (pn_n0 (by omega)), gw_gdT g0, gw_gdT g1, k0, k1, n0, n1, w2, gw_bdS, if_pos rfl, kg_told h.1 hp, gw_bdS]
      by_cases c3 : M 17 p = 0
      · rw [if_pos c3, if_pos (show (-4 : Int32) < 0 by decide)]; exact K
      · rw [if_neg c3]
        by_cases c4 : M 18 p < 0
        · rw [if_pos c4]; exact K
        · rw [if_neg c4, gw_bdS, gw_gdT g2, k2, n2, if_pos (ia.2.resolve_left c3)]; exact K
theorem kl_393 {K76 : Int32 → Int32 → Int32 → gw_S → gw_S → Option Int32} (h : kI np nb N S M) (hq : nb ≤ 10) (hK : K76 (nI np) (nI nb) (v6 + 1) S N = some 1) : f_L_law_b393 xs L K76 (nI np) (nI nb) v6 S N = some 1 := by
  have := kl_396 (xs := xs) (L := L) h hq hK nb gw_F (Nat.le_refl nb) (Nat.lt_of_le_of_lt hq (by decide))
  rw [Nat.sub_self, show nI 0 = (0 : Int32) from rfl] at this
  exact this
theorem kl_209 {K76 : Int32 → Int32 → Int32 → gw_S → gw_S → Option Int32} (h : kI np nb N S M) (hq : nb ≤ 10) (hK : K76 (nI np) (nI nb) (v6 + 1) S N = some 1) (hc : nI (cHad (M 32) nb) = v + if x < 0 then 0 else 1) : f_L_law_b209 xs L K76 (nI np) (nI nb) v6 v x S N = some 1 := by
  unfold f_L_law_b209
  show gw_bd (f_X8_count 6 S) _ = some 1
  rw [kg_count6 h.1, gw_bdS]
  by_cases c : x < 0
  · rw [if_pos c] at hc; rw [if_pos c, if_pos hc]; exact kl_393 h hq hK
  · rw [if_neg c] at hc; rw [if_neg c, if_pos hc]; exact kl_393 h hq hK
theorem kl_158 {K76 : Int32 → Int32 → Int32 → gw_S → gw_S → Option Int32} (h : kI np nb N S M) (hq : nb ≤ 10) (hb : b < nb) (no : ∀ i, i < np → f_X2_isFree (nI i) (nI b) S = some 1 → f_X2_fitOf (nI i) (M 25 b) (M 26 b) S = some 2 → False) (hK : f_L_law_b209 xs L K76 (nI np) (nI nb) v6 v x S N = some 1) : ∀ (k n : Nat), k ≤ np → k < n → f_L_law_b158 xs L K76 n (nI np) (nI nb) v6 (nI b) v x (nI (np - k)) S N = some 1
  | 0, n + 1, _, _ => by
    have hnp := h.1.1.1.1.1
    rw [f_L_law_b158, if_pos (nI_le (by omega) (by omega))]
    exact hK
  | k + 1, n + 1, hk, hn => by
    have hA := h.1.1
    have hnp := hA.1.1.1
    obtain ⟨i, ei⟩ : ∃ i, np - (k + 1) = i := ⟨_, rfl⟩
    have hi : i < np := by omega
    have next := kl_158 h hq hb no hK k n (by omega) (by omega)
    rw [show np - k = i + 1 by omega] at next
    have e4 := kl_4 b (by omega)
    have g0 : gw_in ((4 : Int32) * nI b) 40 := by rw [e4]; exact pi_in (by omega) (by omega)
    have g1 : gw_in (((4 : Int32) * nI b) + (1 : Int32)) 40 := by rw [e4, pn_a1]; exact pi_in (by omega) (by omega)
    have k0 : ((4 : Int32) * nI b).toNatClampNeg = 4 * b := by rw [e4, nI_clamp (by omega)]
    have k1 : (((4 : Int32) * nI b) + (1 : Int32)).toNatClampNeg = 4 * b + 1 := by rw [e4, pn_a1, nI_clamp (by omega)]
    obtain ⟨n0, n1, -⟩ := h.2.2.1 b hb
    obtain ⟨r, -, a1, a2⟩ := kg_free h.1 hi hb
    rw [ei, f_L_law_b158, if_neg (pn_le hi (by omega)), a2, gw_bdS]
    by_cases c1 : r = 1
    · obtain ⟨w, w1, w2⟩ := kg_fits h.1 hi hb
      rw [if_pos c1, gw_gdT g0, gw_gdT g1, k0, k1, n0, n1, w2, gw_bdS]
      by_cases c2 : w = 2
      · exfalso
        rw [c1] at a1
        rw [c2] at w1
        exact no i hi a1 w1
      · rw [if_neg c2, gw_letS, pn_a1]; exact next
    · rw [if_neg c1, gw_letS, pn_a1]; exact next
/-- bits -/
theorem bt_iff {a : Int32} (hk : k < 6) : ((a >>> (nI k &&& 31)) &&& (1 : Int32)) = 0 ↔ a.toBitVec.getLsbD k = false := by
  have e : ∀ k, k < 6 → ((nI k &&& 31).toBitVec.smod 32#32).toNat = k := by decide +kernel
  have z : ∀ i, i < 32 → i ≠ 0 → (1#32).getLsbD i = false := by decide
  rw [← Int32.toBitVec_inj, Int32.toBitVec_and, Int32.toBitVec_shiftRight]
  show (a.toBitVec.sshiftRight (((nI k &&& 31).toBitVec.smod 32#32).toNat)) &&& 1#32 = 0#32 ↔ _
  rw [e k hk]
  have gs : (a.toBitVec.sshiftRight k).getLsbD 0 = a.toBitVec.getLsbD k := by
    rw [BitVec.getLsbD_sshiftRight, if_pos (show k + 0 < 32 by omega)]; rfl
  constructor
  · intro h
    have h3 : (a.toBitVec.sshiftRight k &&& 1#32).getLsbD 0 = false := by rw [h]; rfl
    rw [BitVec.getLsbD_and, gs, show (1#32).getLsbD 0 = true from rfl, Bool.and_true] at h3
    exact h3
  · intro h
    apply BitVec.eq_of_getLsbD_eq
    intro i hi
    by_cases e0 : i = 0
    · subst e0
      rw [BitVec.getLsbD_and, gs, h]; rfl
    · rw [BitVec.getLsbD_and, z i hi e0]; simp
theorem bt_or {a b : Int32} : (a ||| b).toBitVec.getLsbD k = (a.toBitVec.getLsbD k || b.toBitVec.getLsbD k) := by rw [Int32.toBitVec_or, BitVec.getLsbD_or]
theorem bt_one : ∀ k, k < 6 → ((1 : Int32) <<< (nI k &&& 31)).toBitVec.getLsbD k = true := by decide +kernel
/-- posts -/
theorem kg_post (h : gK np nb S M) (ha : a ≤ 8) (hb : b ≤ 8) (hab : ¬ a = b) (h5 : ∀ i, i < 81 → (M 6 i).toInt ≤ 5) : ∃ r S' M', f_X8_post (nI a) (nI b) 5 S = some (r, S') ∧ ¬ r < 0 ∧ gK np nb S' M' ∧ (∀ r, r ≠ 6 → M' r = M r) ∧ ∀ i, i < 81 → (M 6 i).toInt ≤ (M' 6 i).toInt ∧ (M' 6 i).toInt ≤ 5 := by
  obtain ⟨hA, ⟨t, hT, hY, hO, hS, hI, hL⟩, hF⟩ := h
  have ia : 0 ≤ (nI a).toInt ∧ (nI a).toInt ≤ 8 := by rw [nI_toInt (by omega)]; omega
  have ib : 0 ≤ (nI b).toInt ∧ (nI b).toInt ≤ 8 := by rw [nI_toInt (by omega)]; omega
  have h9 : rg 0 9 (5 : Int32) := ⟨by decide, by decide⟩
  have o := (hO (9 * a + b) (by omega)).2
  unfold rg at o
  unfold f_X8_post
  rw [ps_isTown, ps_br, ps_isTown, ps_br, ps_isIn, ps_br, if_pos ia, if_pos ib, if_neg (fun e => hab ((nI_eq (by omega) (by omega)).mp e)), if_pos (by decide), hO.post ha hb, gw_bdS]
  unfold f_X2_setPost
  rw [ps_isTown, ps_br, if_pos ia, ps_isTown, ps_br, if_pos ib, (p_mul9 a ha b hb).1, (p_mul9 b hb a ha).1, gw_gdT (pi_in (by omega) (by omega)), gw_letS, gw_gdT (pi_in (by omega) (by omega)), gw_letS, gw_bdS, nI_clamp (by omega), nI_clamp (by omega)]
  refine ⟨_, _, gw_up (gw_up M 6 (9 * a + b) 5) 6 (9 * b + a) 5, rfl, by rw [ps_ltI, Int32.toInt_zero]; omega, ⟨hA.fr rfl rfl rfl rfl rfl rfl (fun i => ?_) (fun i => ?_) rfl rfl (fun k hk => ?_), ⟨t, hT.fr rfl rfl rfl rfl, hY.fr rfl rfl rfl rfl, (hO.set (b := 0) (by omega) h9).set (b := 0) (by omega) h9, hS.fr (fun k hk hk' => ?_) rfl rfl rfl, hI.fr rfl, hL.fr rfl rfl rfl rfl rfl rfl rfl rfl rfl⟩, hF⟩, fun r hr => by rw [gw_upN hr, gw_upN hr], fun i hi => ?_⟩
  · rw [gw_upN (by omega), gw_upN (by omega)]
  · rw [gw_upN (by omega), gw_upN (by omega)]
  · rw [gw_upN (by omega), gw_upN (by omega)]
  · rw [gw_upN (by omega), gw_upN (by omega)]
  · have := h5 i hi
    simp only [gw_upE]
    by_cases c1 : i = 9 * b + a
    · subst c1; rw [gw_rs]; exact ⟨this, by decide⟩
    · rw [gw_ru c1]
      by_cases c2 : i = 9 * a + b
      · subst c2; rw [gw_rs]; exact ⟨this, by decide⟩
      · rw [gw_ru c2]; exact ⟨Int.le_refl _, this⟩
/-- longer posts free nothing -/
theorem kg_freem (h : gK np nb S M) (h' : gK np nb S' M') (m : ∀ r, r ≠ 6 → M' r = M r) (le : ∀ i, i < 81 → (M 6 i).toInt ≤ (M' 6 i).toInt) (hi : i < np) (hb : b < nb) (hf : f_X2_isFree (nI i) (nI b) S' = some 1) : f_X2_isFree (nI i) (nI b) S = some 1 := by
  obtain ⟨w, nh⟩ := h'.cC.free1 hi hb hf
  have po : ∀ j, j < nb → (aPo M i j).toInt ≤ (aPo M' i j).toInt := fun j hj => by
    unfold aPo
    rw [m 11 (by omega), m 28 (by omega)]
    obtain ⟨k1, -, h1, e1⟩ := rg_nI (lo := 0) (n := 8) (h.1.p hi).2.2.2.1.2.2.2.2.1 (by omega)
    obtain ⟨k2, -, h2, e2⟩ := rg_nI (lo := 0) (n := 8) (h.1.b hj).2.2.2.2.2.2.2.2.1 (by omega)
    rw [e1, e2, nI_clamp (by omega), nI_clamp (by omega)]
    exact le _ (by omega)
  refine h.cC.free2 hi hb ?_ (fun c hc q => nh c hc ⟨q.1, ?_, ?_⟩)
  · unfold aWe aRet at w ⊢
    rw [m 16 (by omega), m 15 (by omega), m 13 (by omega), m 17 (by omega), m 27 (by omega), m 18 (by omega)] at w
    exact w
  · rw [m 32 (by omega)]; exact q.2.1
  · obtain ⟨q1, q2⟩ := q.2.2
    have p1 := po b hb
    have p2 := po c hc
    unfold aMe
    rw [m 27 (by omega), m 3 (by omega)]
    omega
/-- the table of what is FREE -/
def wI (np nb : Nat) (S N : gw_S) (k0 x0 : Nat) : Prop := ∀ k x, k < np → x < nb → (k < k0 ∨ (k = k0 ∧ x < x0)) → f_X2_isFree (nI k) (nI x) S = some 1 → (N 2 x).toBitVec.getLsbD k = true
theorem kl_574 {K564 : Int32 → Int32 → Int32 → gw_S → gw_S → Option Int32} (h : gK np nb S M) (hq : nb ≤ 10) (h6 : np ≤ 6) (hp : p < np) (hK : ∀ N', wI np nb S N' (p + 1) 0 → K564 (nI np) (nI nb) (nI (p + 1)) S N' = some 1) : ∀ (k n : Nat) (N : gw_S), k ≤ nb → k < n → wI np nb S N p (nb - k) → f_L_law_b574 xs L K564 n (nI np) (nI nb) (nI p) (nI (nb - k)) S N = some 1
  | 0, n + 1, N, _, _, hN => by
    rw [f_L_law_b574, if_pos (nI_le (by omega) (by omega)), gw_letS, pn_a1]
    exact hK N (fun k x hk hx hc hf => hN k x hk hx (by omega) hf)
  | k + 1, n + 1, N, hk, hn, hN => by
    obtain ⟨i, ei⟩ : ∃ i, nb - (k + 1) = i := ⟨_, rfl⟩
    have hi : i < nb := by omega
    obtain ⟨r, -, a1, a2⟩ := kg_free h hp hi
    rw [ei] at hN
    rw [ei, f_L_law_b574, if_neg (pn_le hi (by omega)), gw_gdT (pi_in (show i < 10 by omega) (by omega)), a2, gw_bdS, gw_letS, h.1.cb hi, gw_letS, pn_a1, show i + 1 = nb - k by omega]
    refine kl_574 h hq h6 hp hK k n _ (by omega) (by omega) (fun k' x hk' hx hc hf => ?_)
    by_cases ex : x = i
    · subst ex
      rw [gw_upE, gw_rs, bt_or]
      by_cases ek : k' = p
      · subst ek
        rw [hf] at a1
        rw [← Option.some.inj a1, bt_one k' (by omega)]; simp
      · rw [hN k' x hk' hx (by omega) hf]; rfl
    · rw [gw_upE, gw_ru ex]; exact hN k' x hk' hx (by omega) hf
theorem kl_660 {K650 : Int32 → Int32 → Int32 → gw_S → gw_S → Option Int32} (h : gK np nb S M) (hq : nb ≤ 10) (h6 : np ≤ 6) (hp : p < np) (W : ∀ k x, k < np → x < nb → f_X2_isFree (nI k) (nI x) S = some 1 → (N 2 x).toBitVec.getLsbD k = true) (hK : K650 (nI np) (nI nb) (nI (p + 1)) S N = some 1) : ∀ (k n : Nat), k ≤ nb → k < n → f_L_law_b660 xs L K650 n (nI np) (nI nb) (nI p) (nI (nb - k)) S N = some 1
  | 0, n + 1, _, _ => by
    rw [f_L_law_b660, if_pos (nI_le (by omega) (by omega)), gw_letS, pn_a1]
    exact hK
  | k + 1, n + 1, hk, hn => by
    obtain ⟨i, ei⟩ : ∃ i, nb - (k + 1) = i := ⟨_, rfl⟩
    have hi : i < nb := by omega
    have next := kl_660 h hq h6 hp W hK k n (by omega) (by omega)
    rw [show nb - k = i + 1 by omega] at next
    obtain ⟨r, -, a1, a2⟩ := kg_free h hp hi
    rw [ei, f_L_law_b660, if_neg (pn_le hi (by omega)), a2, gw_bdS]
    by_cases c1 : r = 1
    · rw [c1] at a1
      have w := W p i hp hi a1
      rw [if_pos c1, gw_gdT (pi_in (show i < 10 by omega) (by omega)), h.1.cb hi, if_neg (fun q => by rw [(bt_iff (by omega)).mp q] at w; exact absurd w (by decide)), gw_letS, pn_a1]
      exact next
    · rw [if_neg c1, gw_letS, pn_a1]; exact next
theorem kl_650 (h : gK np nb S M) (hq : nb ≤ 10) (h6 : np ≤ 6) (h31 : ∀ j, j < nb → M 31 j = -1) (W : ∀ k x, k < np → x < nb → f_X2_isFree (nI k) (nI x) S = some 1 → (N 2 x).toBitVec.getLsbD k = true) : ∀ (k n : Nat), k ≤ np → k < n → f_L_law_b650 xs L n (nI np) (nI nb) (nI (np - k)) S N = some 1
  | 0, n + 1, _, _ => by
    obtain ⟨c0, c4, c5, c7⟩ := kg_counts h h31
    rw [f_L_law_b650, if_pos (nI_le (by omega) (by omega)), c0, gw_bdS, if_pos rfl, c4, gw_bdS, if_pos rfl, c5, gw_bdS, if_pos rfl, c7, gw_bdS, if_pos rfl]
  | k + 1, n + 1, hk, hn => by
    obtain ⟨p, ep⟩ : ∃ p, np - (k + 1) = p := ⟨_, rfl⟩
    have hp : p < np := by omega
    have next := kl_650 h hq h6 h31 W k n (by omega) (by omega)
    rw [show np - k = p + 1 by omega] at next
    have K := kl_660 (xs := xs) (L := L) h hq h6 hp W next nb gw_F (Nat.le_refl nb) (Nat.lt_of_le_of_lt hq (by decide))
    rw [Nat.sub_self, show nI 0 = (0 : Int32) from rfl] at K
    rw [ep, f_L_law_b650, if_neg (pn_le hp (by omega))]
    exact K
theorem z_po : ∀ i, i < 81 → (gw_zM 6 i).toInt ≤ 5 := by decide +kernel
theorem kl_564 (h : gK np nb S M) (hq : nb ≤ 10) (h6 : np ≤ 6) (h31 : ∀ j, j < nb → M 31 j = -1) (hz : M 6 = gw_zM 6) : ∀ (k n : Nat) (N : gw_S), k ≤ np → k < n → wI np nb S N (np - k) 0 → f_L_law_b564 xs L n (nI np) (nI nb) (nI (np - k)) S N = some 1
  | 0, n + 1, N, _, _, hN => by
    obtain ⟨r1, S1, M1, a1, a2, a3, a4, a5⟩ := kg_post h (a := 0) (b := 1) (by omega) (by omega) (by omega) (fun i hi => by rw [hz]; exact z_po i hi)
    obtain ⟨r2, S2, M2, b1, b2, b3, b4, b5⟩ := kg_post a3 (a := 1) (b := 2) (by omega) (by omega) (by omega) (fun i hi => (a5 i hi).2)
    obtain ⟨r3, S3, M3, c1, c2, c3, c4, c5⟩ := kg_post b3 (a := 0) (b := 2) (by omega) (by omega) (by omega) (fun i hi => (b5 i hi).2)
    have a1 : f_X8_post (0 : Int32) (1 : Int32) (5 : Int32) S = some (r1, S1) := a1
    have b1 : f_X8_post (1 : Int32) (2 : Int32) (5 : Int32) S1 = some (r2, S2) := b1
    have c1 : f_X8_post (0 : Int32) (2 : Int32) (5 : Int32) S2 = some (r3, S3) := c1
    have c2' : 0 ≤ r3 := by rw [ps_ltI] at c2; rw [ps_leI]; omega
    rw [f_L_law_b564, if_pos (nI_le (by omega) (by omega)), a1, gw_b2S, if_neg a2, b1, gw_b2S, if_neg b2, c1, gw_b2S, if_pos c2']
    have m : ∀ r, r ≠ 6 → M3 r = M r := fun r hr => by rw [c4 r hr, b4 r hr, a4 r hr]
    have K := kl_650 (xs := xs) (L := L) (N := N) c3 hq h6 (fun j hj => by rw [m 31 (by omega)]; exact h31 j hj) (fun k x hk hx hf => hN k x hk hx (by omega) (kg_freem h c3 m (fun i hi => by have := (a5 i hi).1; have := (b5 i hi).1; have := (c5 i hi).1; omega) hk hx hf)) np gw_F (Nat.le_refl np) (Nat.lt_of_le_of_lt h6 (by decide))
    rw [Nat.sub_self, show nI 0 = (0 : Int32) from rfl] at K
    exact K
  | k + 1, n + 1, N, hk, hn, hN => by
    obtain ⟨p, ep⟩ : ∃ p, np - (k + 1) = p := ⟨_, rfl⟩
    have hp : p < np := by omega
    rw [ep] at hN
    have K := kl_574 (xs := xs) (L := L) (K564 := f_L_law_b564 xs L n) h hq h6 hp (fun N' hN' => by
      have := kl_564 h hq h6 h31 hz k n N' (by omega) (by omega) (by rw [show np - k = p + 1 by omega]; exact hN')
      rw [show np - k = p + 1 by omega] at this
      exact this) nb gw_F N (Nat.le_refl nb) (Nat.lt_of_le_of_lt hq (by decide)) (by rw [Nat.sub_self]; exact hN)
    rw [Nat.sub_self, show nI 0 = (0 : Int32) from rfl] at K
    rw [ep, f_L_law_b564, if_neg (pn_le hp (by omega))]
    exact K
theorem kl_561 (h : kI np nb N S M) (hq : nb ≤ 10) (h6 : np ≤ 6) : f_L_law_b561 xs L (nI np) (nI nb) S (gw_m3 N) = some 1 := by
  have K := kl_564 (xs := xs) (L := L) h.1 hq h6 h.2.2.2.1 h.2.2.2.2 np gw_F (gw_m3 N) (Nat.le_refl np) (Nat.lt_of_le_of_lt h6 (by decide)) (fun k x hk hx hc => by omega)
  rw [Nat.sub_self, show nI 0 = (0 : Int32) from rfl] at K
  exact K
/-- the thirty calls -/
theorem kl_76 (hL : L < 2 ^ 31) (h1 : 0 < np) (h6 : np ≤ 6) (h3 : 0 < nb) (hq : nb ≤ 10) : ∀ (k n : Nat) (S M : gw_S), k ≤ 30 → k < n → kI np nb N S M → f_L_law_b76 xs L n (nI np) (nI nb) (nI (30 - k)) S N = some 1
  | 0, n + 1, S, M, _, _, h => by
    rw [f_L_law_b76, if_pos (show (30 : Int32) ≤ nI (30 - 0) by decide)]
    exact kl_561 h hq h6
  | k + 1, n + 1, S, M, hk, hn, h => by
    obtain ⟨g, eg⟩ : ∃ g, 30 - (k + 1) = g := ⟨_, rfl⟩
    have hg : g < 30 := by omega
    have hF := h.1.1.1.1
    obtain ⟨y, ey⟩ := kl_cell (xs := xs) hL (show 20 + g < 2 ^ 31 by omega)
    obtain ⟨c0, d0, s0⟩ := kl_some y (m := 6) (by omega) (by omega)
    obtain ⟨b, hb, s1⟩ := kl_some (y >>> ((4 : Int32) &&& 31)) (m := nb) h3 (by omega)
    obtain ⟨p, hp, s2⟩ := kl_some (y >>> ((8 : Int32) &&& 31)) (m := np) h1 (by omega)
    obtain ⟨c3, d3, s3⟩ := kl_some (y >>> ((12 : Int32) &&& 31)) (m := 14) (by omega) (by omega)
    have s0 : f_L_some y (6 : Int32) = some (nI c0) := s0
    have s3 : f_L_some (y >>> ((12 : Int32) &&& 31)) (14 : Int32) = some (nI c3) := s3
    have K : ∀ S' M', kI np nb N S' M' → f_L_law_b76 xs L n (nI np) (nI nb) (nI g + 1) S' N = some 1 := fun S' M' h' => by
      have := kl_76 hL h1 h6 h3 hq k n S' M' (by omega) (by omega) h'
      rw [show 30 - k = g + 1 by omega] at this
      rw [pn_a1]; exact this
    have K3 : ∀ S' M', kI np nb N S' M' → f_L_law_b393 xs L (f_L_law_b76 xs L n) (nI np) (nI nb) (nI g) S' N = some 1 := fun S' M' h' => kl_393 h' hq (K S' M' h')
    have cb : ∀ M : gw_S, cHad (M 32) nb ≤ 10 := fun M => Nat.le_trans (cHad_b nb) hq
    rw [eg, f_L_law_b76, if_neg (show ¬ (30 : Int32) ≤ nI g from pn_le (n := 30) hg (by omega)), show (20 : Int32) + nI g = nI (20 + g) from nI_add 20 g, ey, gw_bdS, s0, gw_bdS, s1, gw_bdS, s2, gw_bdS, kg_count6 h.1, gw_bdS]
    have C : c0 < 3 ∨ c0 = 3 ∨ c0 = 4 ∨ c0 = 5 := by omega
    rcases C with C | rfl | rfl | rfl
    · rw [if_neg (show ¬ (3 : Int32) ≤ nI c0 from pn_le (n := 3) C (by omega))]
      obtain ⟨r, S', M', a1, a2, a3, a4, a5, a6⟩ := kg_give h.1 h.2.1 hb
      have h' := h.to a2 a3 a4
      rw [a1, gw_b2S]
      have K2 := kl_209 (xs := xs) (L := L) (v := nI (cHad (M 32) nb)) (x := r) h' hq (K S' M' h') (by
        rw [a5]
        by_cases c : r < 0
        · rw [if_pos c, if_neg (show ¬ 0 ≤ r by rw [ps_leI]; rw [ps_ltI] at c; omega), Int32.add_zero]; rfl
        · rw [if_neg c, if_pos (show 0 ≤ r by rw [ps_leI]; rw [ps_ltI] at c; omega), pn_a1])
      by_cases c : r = -4
      · have K4 := kl_158 h' hq hb (fun i hi q1 q2 => a6 c i hi q1 (by rw [a4.2 25 (by omega) (by omega) (by omega), a4.2 26 (by omega) (by omega) (by omega)] at q2; exact q2)) K2 np gw_F (Nat.le_refl np) (Nat.lt_of_le_of_lt h6 (by decide))
        rw [Nat.sub_self, show nI 0 = (0 : Int32) from rfl] at K4
        rw [if_pos c]; exact K4
      · rw [if_neg c]; exact K2
    · obtain ⟨r, S1, S2, M2, a1, a2, a3, a4, a5, a6, a7, a8⟩ := kg_swap h.1 h.2.1 hb
      have h' := h.to a3 a4 a5
      have t7 := (h'.1.cC.2.1 7 (by omega)).2.1
      have m37 : M2 3 7 = M 3 7 := by rw [a5.2 3 (by omega) (by omega) (by omega)]
      have t7' : 0 ≤ (M2 3 7).toInt ∧ (M2 3 7).toInt ≤ 3 := t7
      have le : r ≤ M2 3 7 + 1 := by
        rw [ps_leI, pn_add (by omega) (by decide), m37, pz_1]; exact a8
      rw [if_pos (show (3 : Int32) ≤ nI 3 by decide), if_pos (show nI 3 = (3 : Int32) from rfl), a1, gw_b2S, a2, gw_b2S, if_pos rfl, kg_count6 h'.1, gw_bdS]
      by_cases c : 0 < r
      · have c' : ¬ r ≤ 0 := by rw [ps_leI]; rw [ps_ltI] at c; omega
        rw [if_pos c] at a6
        have hh : ∃ p, p < np ∧ M2 32 b = nI p := (h'.1.1.b hb).2.2.1.2.resolve_left (a7 c)
        obtain ⟨p', hp', e'⟩ := hh
        rw [if_neg c', if_pos (show nI (cHad (M2 32) nb) = nI (cHad (M 32) nb) + (1 : Int32) by rw [a6, pn_a1]), if_neg c', kg_has h'.1 hb, gw_bdS, if_neg (a7 c), e', if_neg (pn_n0 (by omega)), kg_term h'.1, gw_bdS, if_pos le]
        exact K3 S2 M2 h'
      · have c' : r ≤ 0 := by rw [ps_leI]; rw [ps_ltI] at c; omega
        rw [if_neg c] at a6
        rw [if_pos c', if_pos (show nI (cHad (M2 32) nb) = nI (cHad (M 32) nb) + (0 : Int32) by rw [a6, Int32.add_zero]; rfl), if_pos c', kg_term h'.1, gw_bdS, if_pos le]
        exact K3 S2 M2 h'
    · obtain ⟨r, S', M', a1, a2, a3, a4, a5⟩ := kg_tear h.1 h.2.1 hp (d := nI (100 + c3)) (by rw [nI_toInt (by omega)]; omega)
      have h' := h.to a2 a3 a4
      have c9 := cb M
      rw [if_pos (show (3 : Int32) ≤ nI 4 by decide), if_neg (show ¬ nI 4 = (3 : Int32) by decide), if_pos (show nI 4 = (4 : Int32) from rfl), s3, gw_bdS, show (100 : Int32) + nI c3 = nI (100 + c3) from nI_add 100 c3, a1, gw_b2S]
      have z0 : ∀ k, nI k - (0 : Int32) = nI k := fun k => Int32.sub_zero (nI k)
      rcases a5 with ⟨rfl, e⟩ | ⟨t, ht, rfl, e⟩
      · rw [if_neg (show ¬ (-2 : Int32) < -2 by decide), kg_count6 h'.1, gw_bdS, if_pos (show (-2 : Int32) ≤ 0 by decide), if_pos (show nI (cHad (M' 32) nb) = nI (cHad (M 32) nb) - (0 : Int32) by rw [z0, e])]
        exact K3 S' M' h'
      · rw [if_neg (show ¬ nI t < -2 by rw [ps_ltI, nI_toInt (by omega), show (-2 : Int32).toInt = -2 by decide]; omega), kg_count6 h'.1, gw_bdS]
        by_cases c : t = 0
        · subst c
          rw [if_pos (show nI 0 ≤ (0 : Int32) by decide), if_pos (show nI (cHad (M' 32) nb) = nI (cHad (M 32) nb) - (0 : Int32) by rw [z0, ← e]; rfl)]
          exact K3 S' M' h'
        · rw [if_neg (show ¬ nI t ≤ (0 : Int32) by rw [ps_leI, nI_toInt (by omega), Int32.toInt_zero]; omega), if_pos (show nI (cHad (M' 32) nb) = nI (cHad (M 32) nb) - nI t by
            apply Int32.toInt_inj.mp
            rw [pn_sub (by omega) (by omega), nI_toInt (by omega)]; omega)]
          exact K3 S' M' h'
    · obtain ⟨r, S', M', a1, a2, a3, a4, -, a6⟩ := kg_mend h.1 h.2.1 hp
      have h' := h.to a2 a3 a4
      rw [if_pos (show (3 : Int32) ≤ nI 5 by decide), if_neg (show ¬ nI 5 = (3 : Int32) by decide), if_neg (show ¬ nI 5 = (4 : Int32) by decide), a1, gw_b2S, if_neg a6]
      exact K3 S' M' h'
theorem gw_b3S {β : Type} {r : Int32} {S N : gw_S} {k : Int32 → gw_S → gw_S → Option β} : gw_b3 (some (r, S, N)) k = k r S N := rfl
/-- the law holds -/
theorem law_true38 (xs : Nat → Int32) {L : Nat} (hL : L < 2 ^ 31) (N : gw_S) : f_L_law_b18 xs L z_S N = some 1 := by
  obtain ⟨y, ey⟩ := kl_cell (xs := xs) hL (show 0 < 2 ^ 31 by omega)
  obtain ⟨c, hc, s0⟩ := kl_some y (m := 6) (by omega) (by omega)
  obtain ⟨y', ey'⟩ := kl_cell (xs := xs) hL (show 1 < 2 ^ 31 by omega)
  obtain ⟨d, hd, s1⟩ := kl_some y' (m := 9) (by omega) (by omega)
  have ey : f_L_cell xs L (0 : Int32) = some y := ey
  have ey' : f_L_cell xs L (1 : Int32) = some y' := ey'
  have s0 : f_L_some y (6 : Int32) = some (nI c) := s0
  have s1 : f_L_some y' (9 : Int32) = some (nI d) := s1
  obtain ⟨M0, h0, hz⟩ := kg_start
  obtain ⟨S1, M1, N1, a1, a2, a3⟩ := kl_pieces (xs := xs) hL (show 1 + c ≤ 6 by omega) (1 + c) 7 z_S M0 N (Nat.le_refl _) (by omega) (by rw [Nat.sub_self]; exact h0) hz
  rw [Nat.sub_self, show nI 0 = (0 : Int32) from rfl] at a1
  obtain ⟨S2, M2, N2, b1, b2, b3, b4, b5⟩ := kl_books (xs := xs) hL (show 2 + d ≤ 10 by omega) (2 + d) 11 S1 M1 N1 (Nat.le_refl _) (by omega) (by rw [Nat.sub_self]; exact a2) (by rw [Nat.sub_self]; exact fun x hx => absurd hx (by omega)) (by rw [Nat.sub_self]; exact fun x hx => absurd hx (by omega)) a3
  rw [Nat.sub_self, show nI 0 = (0 : Int32) from rfl] at b1
  have iv : iI (1 + c) (2 + d) S2 M2 := ⟨fun x q hx hq e => absurd (by rw [← e]; exact (b3 x hx).2.1) (pn_m1 (show q < 2 ^ 31 by omega)), fun x y q hx hy hxy hq ex ey => absurd (by rw [← ex]; exact (b3 x hx).2.1) (pn_m1 (show q < 2 ^ 31 by omega)), fun x hx => (b3 x hx).2.2⟩
  have K := kl_76 (xs := xs) hL (show 0 < 1 + c by omega) (show 1 + c ≤ 6 by omega) (show 0 < 2 + d by omega) (show 2 + d ≤ 10 by omega) 30 gw_F S2 M2 (Nat.le_refl _) (by decide) ⟨b2, iv, b4, fun x hx => (b3 x hx).1, b5⟩
  rw [Nat.sub_self, show nI 0 = (0 : Int32) from rfl] at K
  unfold f_L_law_b18
  show gw_bd (f_L_cell xs L 0) _ = some 1
  rw [ey, gw_bdS, s0, gw_bdS, gw_letS, ey', gw_bdS, s1, gw_bdS, gw_letS, show (1 : Int32) + nI c = nI (1 + c) from nI_add 1 c, show (2 : Int32) + nI d = nI (2 + d) from nI_add 2 d]
  unfold f_L_pieces f_L_books
  rw [a1, gw_b3S, if_neg pn_10, b1, gw_b3S, if_neg pn_10]
  exact K
end RPH
