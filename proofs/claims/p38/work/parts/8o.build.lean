section RPF
variable {np nb i j p q c a b f n k m L : Nat} {S S0 S1 M M0 N S' M' : gw_S} {x x1 x2 x3 x4 x5 x6 u z d v r y : Int32} {xs : Nat → Int32}
theorem kl_rg {lo hi : Int} (h1 : lo ≤ (m : Int)) (h2 : (m : Int) ≤ hi) (hm : m < 2 ^ 31) : lo ≤ (nI m).toInt ∧ (nI m).toInt ≤ hi := by rw [nI_toInt hm]; omega
theorem kl_4 : ∀ i, i < 11 → (4 : Int32) * nI i = nI (4 * i) := by decide +kernel
theorem kl_cell (hL : L < 2 ^ 31) (hk : k < 2 ^ 31) : ∃ r, f_L_cell xs L (nI k) = some r := by
  unfold f_L_cell
  by_cases h : L ≤ k
  · rw [if_pos (show Int32.ofNat L ≤ nI k from nI_le h hk)]; exact ⟨_, rfl⟩
  · rw [if_neg (show ¬ Int32.ofNat L ≤ nI k from pn_le (by omega) hL), gw_gdT (pi_in (by omega) hL)]; exact ⟨_, rfl⟩
theorem kl_some (y : Int32) (hm : 0 < m) (hm2 : m < 2 ^ 31) : ∃ c, c < m ∧ f_L_some y (nI m) = some (nI c) := by
  have hx : 0 ≤ (y &&& (2147483647 : Int32)).toInt := by
    show 0 ≤ (y.toBitVec &&& 2147483647#32).toInt
    have h : (y.toBitVec &&& 2147483647#32).toNat ≤ 2147483647 := by rw [BitVec.toNat_and]; exact Nat.and_le_right
    rw [BitVec.toInt_eq_toNat_cond, if_pos (by omega)]; omega
  have hx2 := Int32.toInt_lt (y &&& (2147483647 : Int32))
  obtain ⟨k, hk, e⟩ := ps_nI (n := 2147483647) ⟨hx, by omega⟩ (by omega)
  have le : k / m * m ≤ k := Nat.div_mul_le_self k m
  have le2 : k / m ≤ k := Nat.div_le_self k m
  have d1 : nI k / nI m = nI (k / m) := by
    clear le
    obtain ⟨d, ed⟩ : ∃ d, k / m = d := ⟨_, rfl⟩
    rw [ed] at le2 ⊢
    apply Int32.toInt_inj.mp
    rw [Int32.toInt_div, nI_toInt (by omega), nI_toInt hm2, nI_toInt (by omega), ← Int.ofNat_tdiv, ed]
    clear ed
    rw [Int.bmod_eq_of_le] <;> omega
  have d2 : nI (k / m) * nI m = nI (k / m * m) := by
    apply Int32.toInt_inj.mp
    rw [Int32.toInt_mul, nI_toInt (by omega), nI_toInt hm2, nI_toInt (by omega), ← Int.natCast_mul, Int.bmod_eq_of_le] <;> omega
  have d3 : nI k - nI (k / m * m) = nI (k % m) := by
    have h1 := Nat.div_add_mod k m
    rw [Nat.mul_comm] at h1
    have h2 := Nat.mod_lt k hm
    apply Int32.toInt_inj.mp
    rw [pn_sub le (by omega), nI_toInt (by omega)]; omega
  refine ⟨k % m, Nat.mod_lt k hm, ?_⟩
  unfold f_L_some
  rw [gw_gdT (show ¬ nI m = 0 from fun h => by have := (nI_eq (by omega) (by omega)).mp (show nI m = nI 0 from h); omega), e, d1, d2, d3]
def nU (N : gw_S) (r i : Nat) (a0 a1 a2 a3 : Int32) : gw_S := gw_up (gw_up (gw_up (gw_up N r (4 * i) a0) r (4 * i + 1) a1) r (4 * i + 2) a2) r (4 * i + 3) a3
theorem nU_r {a0 a1 a2 a3 : Int32} {r : Nat} : nU N r i a0 a1 a2 a3 r (4 * i) = a0 ∧ nU N r i a0 a1 a2 a3 r (4 * i + 1) = a1 ∧ nU N r i a0 a1 a2 a3 r (4 * i + 2) = a2 ∧ nU N r i a0 a1 a2 a3 r (4 * i + 3) = a3 ∧ ∀ c, c < 4 * i → nU N r i a0 a1 a2 a3 r c = N r c := by
  unfold nU
  simp only [gw_upE]
  refine ⟨?_, ?_, ?_, ?_, fun c hc => ?_⟩
  · rw [gw_ru (by omega), gw_ru (by omega), gw_ru (by omega), gw_rs]
  · rw [gw_ru (by omega), gw_ru (by omega), gw_rs]
  · rw [gw_ru (by omega), gw_rs]
  · rw [gw_rs]
  · rw [gw_ru (by omega), gw_ru (by omega), gw_ru (by omega), gw_ru (by omega)]
/-- a PIECE comes -/
def sPm (np : Nat) (M : gw_S) (k x1 x2 x3 x4 x5 x6 : Int32) : gw_S := gw_up (gw_up (gw_up (gw_up (gw_up (gw_up (gw_up (gw_up M 7 np k) 8 np x1) 9 np x2) 10 np x3) 11 np x4) 12 np x5) 13 np x6) 0 8 (nI (np + 1))
theorem sPm_o {r : Nat} (h1 : ¬ (7 ≤ r ∧ r ≤ 13)) (h2 : ¬ r = 0) : sPm np M x x1 x2 x3 x4 x5 x6 r = M r := by unfold sPm; rw [gw_upN h2, gw_upN (by omega), gw_upN (by omega), gw_upN (by omega), gw_upN (by omega), gw_upN (by omega), gw_upN (by omega), gw_upN (by omega)]
theorem sP_o {r : Nat} (h1 : ¬ r = 2 * np + 30) (h2 : ¬ r = 2 * gw_np S + 30) (h3 : ¬ r = 29) (h4 : ¬ r = 12) (h5 : ¬ r = 3) : sP np S x x1 x2 x3 x4 x5 x6 r = S r := by unfold sP; rw [gw_upN h5, gw_upN h4, gw_upN h1, gw_addPo h2 h3]
theorem kg_add (h : gK np nb S M) (hn : np < 24) (hk : 0 ≤ x.toInt ∧ x.toInt ≤ 2) (h1 : 0 ≤ x1.toInt ∧ x1.toInt ≤ 5) (h2 : 1 ≤ x2.toInt ∧ x2.toInt ≤ 40) (h3 : 0 ≤ x3.toInt ∧ x3.toInt ≤ 9) (h4 : 0 ≤ x4.toInt ∧ x4.toInt ≤ 8) (h5 : 1 ≤ x5.toInt ∧ x5.toInt ≤ 9999) (h6 : 1 ≤ x6.toInt ∧ x6.toInt ≤ 99) : f_X8_addPiece x x1 x2 x3 x4 x5 x6 S = some (nI np, sP np S x x1 x2 x3 x4 x5 x6) ∧ gK (np + 1) nb (sP np S x x1 x2 x3 x4 x5 x6) (sPm np M x x1 x2 x3 x4 x5 x6) := by
  obtain ⟨hA, ⟨t, hT, hY, hO, hS, hI, hL⟩, hF⟩ := h
  have hN := hA.1
  have hnp := hN.1.1
  have e1 := hN.gnp
  have q : ∀ r, r ≠ 3 → r ≠ 12 → r < 29 → sP np S x x1 x2 x3 x4 x5 x6 r = S r := fun r q1 q2 q3 => sP_o (by omega) (by omega) (by omega) q2 q1
  have p : ∀ r, ¬ (7 ≤ r ∧ r ≤ 13) → ¬ r = 0 → sPm np M x x1 x2 x3 x4 x5 x6 r = M r := fun r q1 q2 => sPm_o q1 q2
  constructor
  · unfold f_X8_addPiece
    rw [ps_isMaker, ps_br, ps_isLabel, ps_br, ps_isIn, ps_br, ps_isTown, ps_br, ps_isIn, ps_br, ps_isIn, ps_br, pz_0, pz_1, pz_9, pz_9999, pz_99, if_pos h1, if_pos h2, if_pos h3, if_pos h4, if_pos h5, if_pos h6, hN.2.1.1, if_pos (show nI np < (24 : Int32) from pn_lt (n := 24) hn (by omega)), gw_gdT (rN.okP hA hn), gw_letS, hN.2.1.2.2.1, hN.keep hn, gw_b2S]
  · refine ⟨hA.addP (k := x) (x1 := x1) (x2 := x2) (x3 := x3) (x4 := x4) (x5 := x5) (x6 := x6) hn ⟨hk, h1, h2, h3, h4, h5, h6⟩ rfl ?_ ?_ ?_ ?_ ?_ (fun i hi => ?_) (fun i => ?_) ?_ rfl rfl ⟨rfl, rfl, rfl, rfl, rfl, rfl, rfl⟩ (fun k hk => p k (by omega) (by omega)), ⟨t, hT.fr (q 5 (by omega) (by omega) (by omega)) rfl rfl rfl, hY.fr (by rw [q 1 (by omega) (by omega) (by omega)]) (q 2 (by omega) (by omega) (by omega)) rfl rfl, hO.fr (q 11 (by omega) (by omega) (by omega)) rfl, hS.fr (fun k q1 q2 => q k (by omega) (by omega) (by omega)) rfl rfl rfl, hI.fr (q 14 (by omega) (by omega) (by omega)), hL.fr (q 7 (by omega) (by omega) (by omega)) (q 8 (by omega) (by omega) (by omega)) (q 9 (by omega) (by omega) (by omega)) (q 10 (by omega) (by omega) (by omega)) rfl rfl rfl rfl rfl⟩, ?_⟩
    · unfold sP; rw [gw_upE, gw_ru (by omega), gw_upN (by omega), gw_upN (by omega), gw_addPo (by omega) (by omega)]
    · unfold sP; rw [gw_upN (by omega), gw_upN (by omega), gw_upN (by omega), gw_addP9, gw_rs, hN.2.1.2.2.1, nI_1]
    · unfold sP; rw [gw_upN (by omega), gw_upN (by omega), gw_upN (by omega), gw_addP9, gw_ru (by omega)]
    · unfold sP; rw [gw_upN (by omega), gw_upE, gw_upN (by omega), gw_addPo (by omega) (by omega)]
    · exact q 13 (by omega) (by omega) (by omega)
    · exact sP_o (by omega) (by omega) (by omega) (by omega) (by omega)
    · exact sP_o (by omega) (by omega) (by omega) (by omega) (by omega)
    · unfold sP; rw [gw_upN (by omega), gw_upN (by omega), gw_upE, ← e1, gw_addPn]
    · unfold lFd lLo lHi at hF ⊢
      rw [q 9 (by omega) (by omega) (by omega), q 10 (by omega) (by omega) (by omega), p 23 (by omega) (by omega), p 24 (by omega) (by omega)]
      exact hF
/-- a BOOKING comes -/
theorem kg_book (h : gK np nb S M) (hn : nb < 30) (hr : bOK x1 x2 x3 x4 x5 x6) : f_X8_book x1 x2 x3 x4 x5 x6 S = some (nI nb, sB nb S x1 x2 x3 x4 x5 x6) ∧ gK np (nb + 1) (sB nb S x1 x2 x3 x4 x5 x6) (sBm nb M x1 x2 x3 x4 x5 x6) := by
  obtain ⟨hA, ⟨t, hT, hY, hO, hS, hI, hL⟩, hF⟩ := h
  have hN := hA.1
  have e2 := hN.gnb
  constructor
  · unfold f_X8_book
    rw [ps_isB, ps_br, if_pos hr, hN.room1, ps_br, if_pos hn, hA.addBooking hn, gw_bdS]
    have e : sB nb S x1 x2 x3 x4 x5 x6 3 7 = nI (nb + 1) := rfl
    rw [e, pn_pred]
  · obtain ⟨k1, k2, k3, k4, k5, k6⟩ := rR.addB hA hT hY hO hS hI hL hn hr
    refine ⟨hA.addB' hn hr, ⟨t, k1, k2, k3, k4, k5, k6⟩, ?_⟩
    unfold lFd lLo lHi at hF ⊢
    rw [sB_o (r := 9) (by omega) (by omega) (by omega) (by omega), sB_o (r := 10) (by omega) (by omega) (by omega) (by omega), sBm_o (r := 23) (by omega) (by omega), sBm_o (r := 24) (by omega) (by omega)]
    exact hF
theorem kg_start : ∃ M, gK 0 0 z_S M ∧ M 6 = gw_zM 6 := by
  have h := rR.start
  obtain ⟨np, nb, t, hA, hT, hY, hO, hS, hI, hL⟩ := h
  have z : np = 0 ∧ nb = 0 := by
    have h1 := hA.1.2.1.1
    have h2 := hA.1.2.1.2.1
    have h3 := hA.1.1
    rw [st_1.1.1] at h1
    rw [st_1.1.2.1] at h2
    exact ⟨((nI_eq (by omega) (by omega)).mp (show nI 0 = nI np from h1)).symm, ((nI_eq (by omega) (by omega)).mp (show nI 0 = nI nb from h2)).symm⟩
  obtain ⟨rfl, rfl⟩ := z
  obtain ⟨M', e, m1, m2, m3, -⟩ := hL.find
  refine ⟨M', ⟨?_, ⟨t, ?_⟩, m3⟩, m1 6 (by omega) (by omega) (by omega)⟩
  · exact hA.fr rfl rfl rfl rfl rfl rfl (fun _ => rfl) (fun _ => rfl) (m2 8 (by omega)) (m2 29 (by omega)) (fun k hk => m1 k (by omega) (by omega) (by omega))
  · exact (show rC t z_S gw_zM from ⟨hT, hY, hO, hS, hI, hL⟩).lies m1 m2
/-- the PIECES -/
theorem kl_pieces (hL : L < 2 ^ 31) (hq : q ≤ 6) : ∀ (k n : Nat) (S M N : gw_S), k ≤ q → k < n → gK (q - k) 0 S M → M 6 = gw_zM 6 → ∃ S' M' N', f_L_pieces_b3 xs L n 2 (nI q) (nI (q - k)) S N = some (1, S', N') ∧ gK q 0 S' M' ∧ M' 6 = gw_zM 6
  | 0, n + 1, S, M, N, _, _, h, h6 => by
    rw [f_L_pieces_b3, if_pos (nI_le (by omega) (by omega))]
    exact ⟨S, M, N, rfl, h, h6⟩
  | k + 1, n + 1, S, M, N, hk, hn, h, h6 => by
    obtain ⟨i, ei⟩ : ∃ i, q - (k + 1) = i := ⟨_, rfl⟩
    have hi : i < q := by omega
    have e2 : q - k = i + 1 := by omega
    rw [ei] at h ⊢
    obtain ⟨y, ey⟩ := kl_cell (xs := xs) hL (show 2 + i < 2 ^ 31 by omega)
    obtain ⟨c0, b0, s0⟩ := kl_some y (m := 3) (by omega) (by omega)
    obtain ⟨c1, b1, s1⟩ := kl_some (y >>> ((2 : Int32) &&& 31)) (m := 4) (by omega) (by omega)
    obtain ⟨c2, b2, s2⟩ := kl_some (y >>> ((4 : Int32) &&& 31)) (m := 3) (by omega) (by omega)
    obtain ⟨c3, b3, s3⟩ := kl_some (y >>> ((6 : Int32) &&& 31)) (m := 3) (by omega) (by omega)
    obtain ⟨c4, b4, s4⟩ := kl_some (y >>> ((8 : Int32) &&& 31)) (m := 5000) (by omega) (by omega)
    obtain ⟨c5, b5, s5⟩ := kl_some (y >>> ((20 : Int32) &&& 31)) (m := 30) (by omega) (by omega)
    have s0 : f_L_some y (3 : Int32) = some (nI c0) := s0
    have s1 : f_L_some (y >>> ((2 : Int32) &&& 31)) (4 : Int32) = some (nI c1) := s1
    have s2 : f_L_some (y >>> ((4 : Int32) &&& 31)) (3 : Int32) = some (nI c2) := s2
    have s3 : f_L_some (y >>> ((6 : Int32) &&& 31)) (3 : Int32) = some (nI c3) := s3
    have s4 : f_L_some (y >>> ((8 : Int32) &&& 31)) (5000 : Int32) = some (nI c4) := s4
    have s5 : f_L_some (y >>> ((20 : Int32) &&& 31)) (30 : Int32) = some (nI c5) := s5
    have e4 := kl_4 i (by omega)
    have g0 : gw_in ((4 : Int32) * nI i) 24 := by rw [e4]; exact pi_in (by omega) (by omega)
    have g1 : gw_in (((4 : Int32) * nI i) + (1 : Int32)) 24 := by rw [e4, pn_a1]; exact pi_in (by omega) (by omega)
    have g2 : gw_in (((4 : Int32) * nI i) + (2 : Int32)) 24 := by rw [e4, pn_a2]; exact pi_in (by omega) (by omega)
    have g3 : gw_in (((4 : Int32) * nI i) + (3 : Int32)) 24 := by rw [e4, pn_a3]; exact pi_in (by omega) (by omega)
    have k0 : ((4 : Int32) * nI i).toNatClampNeg = 4 * i := by rw [e4, nI_clamp (by omega)]
    have k1 : (((4 : Int32) * nI i) + (1 : Int32)).toNatClampNeg = 4 * i + 1 := by rw [e4, pn_a1, nI_clamp (by omega)]
    have k2 : (((4 : Int32) * nI i) + (2 : Int32)).toNatClampNeg = 4 * i + 2 := by rw [e4, pn_a2, nI_clamp (by omega)]
    have k3 : (((4 : Int32) * nI i) + (3 : Int32)).toNatClampNeg = 4 * i + 3 := by rw [e4, pn_a3, nI_clamp (by omega)]
    rw [f_L_pieces_b3, if_neg (pn_le hi (by omega)), show (2 : Int32) + nI i = nI (2 + i) from nI_add 2 i, ey, gw_bdS, s0, gw_bdS, gw_gdT g0, gw_letS, s1, gw_bdS, gw_gdT g1, gw_letS, s2, gw_bdS, gw_gdT g2, gw_letS, s3, gw_bdS, gw_gdT g3, gw_letS, s4, gw_bdS, gw_letS, s5, gw_bdS, gw_letS, k0, k1, k2, k3]
    obtain ⟨N4, eN⟩ : ∃ N4, nU N 0 i (nI c0) ((10 : Int32) + nI c1) (nI c2) (nI c3) = N4 := ⟨_, rfl⟩
    obtain ⟨r0, r1, r2, r3, -⟩ := nU_r (N := N) (i := i) (r := 0) (a0 := nI c0) (a1 := (10 : Int32) + nI c1) (a2 := nI c2) (a3 := nI c3)
    rw [eN] at r0 r1 r2 r3
    unfold nU at eN
    rw [eN, r0, r1, r2, r3, show (10 : Int32) + nI c1 = nI (10 + c1) from nI_add 10 c1, show (1000 : Int32) + nI c4 = nI (1000 + c4) from nI_add 1000 c4, show (1 : Int32) + nI c5 = nI (1 + c5) from nI_add 1 c5]
    have K : ∀ kd : Int32, (0 ≤ kd.toInt ∧ kd.toInt ≤ 2) → ∃ S1 M1, f_X8_addPiece kd 0 (nI (10 + c1)) (nI c2) (nI c3) (nI (1000 + c4)) (nI (1 + c5)) S = some (nI i, S1) ∧ gK (i + 1) 0 S1 M1 ∧ M1 6 = gw_zM 6 := fun kd hd => by
      obtain ⟨a1, a2⟩ := kg_add h (x := kd) (x1 := 0) (x2 := nI (10 + c1)) (x3 := nI c2) (x4 := nI c3) (x5 := nI (1000 + c4)) (x6 := nI (1 + c5)) (by omega) hd (by decide) (kl_rg (by omega) (by omega) (by omega)) (kl_rg (by omega) (by omega) (by omega)) (kl_rg (by omega) (by omega) (by omega)) (kl_rg (by omega) (by omega) (by omega)) (kl_rg (by omega) (by omega) (by omega))
      exact ⟨_, _, a1, a2, by rw [sPm_o (by omega) (by omega)]; exact h6⟩
    have c3' : c0 = 0 ∨ c0 = 1 ∨ c0 = 2 := by omega
    rcases c3' with rfl | rfl | rfl
    · obtain ⟨S1, M1, a1, a2, a3⟩ := K 0 (by decide)
      unfold f_X8_gown
      rw [if_pos (show nI 0 = (0 : Int32) from rfl), a1, gw_b2S, gw_b2S, if_pos rfl, gw_letS, pn_a1, ← e2]
      exact kl_pieces hL hq k n S1 M1 N4 (by omega) (by omega) (by rw [e2]; exact a2) a3
    · obtain ⟨S1, M1, a1, a2, a3⟩ := K 1 (by decide)
      unfold f_X8_longGown
      rw [if_neg (show ¬ nI 1 = (0 : Int32) by decide), if_pos (show nI 1 = (1 : Int32) from rfl), a1, gw_b2S, gw_b2S, if_pos rfl, gw_letS, pn_a1, ← e2]
      exact kl_pieces hL hq k n S1 M1 N4 (by omega) (by omega) (by rw [e2]; exact a2) a3
    · obtain ⟨S1, M1, a1, a2, a3⟩ := K 2 (by decide)
      unfold f_X8_suit
      rw [if_neg (show ¬ nI 2 = (0 : Int32) by decide), if_neg (show ¬ nI 2 = (1 : Int32) by decide), a1, gw_b2S, gw_b2S, if_pos rfl, gw_letS, pn_a1, ← e2]
      exact kl_pieces hL hq k n S1 M1 N4 (by omega) (by omega) (by rw [e2]; exact a2) a3
/-- the BOOKINGS -/
def bI (M : gw_S) (nb : Nat) : Prop := ∀ x, x < nb → M 31 x = -1 ∧ M 32 x = -1 ∧ M 33 x = 0
def aN (nb : Nat) (N M : gw_S) : Prop := ∀ x, x < nb → N 1 (4 * x) = M 25 x ∧ N 1 (4 * x + 1) = M 26 x ∧ N 1 (4 * x + 2) = M 27 x
theorem kl_books (hL : L < 2 ^ 31) (hq : q ≤ 10) : ∀ (k n : Nat) (S M N : gw_S), k ≤ q → k < n → gK np (q - k) S M → bI M (q - k) → aN (q - k) N M → M 6 = gw_zM 6 → ∃ S' M' N', f_L_books_b3 xs L n 8 (nI q) (nI (q - k)) S N = some (1, S', N') ∧ gK np q S' M' ∧ bI M' q ∧ aN q N' M' ∧ M' 6 = gw_zM 6
  | 0, n + 1, S, M, N, _, _, h, hB, hN, h6 => by
    rw [f_L_books_b3, if_pos (nI_le (by omega) (by omega))]
    exact ⟨S, M, N, rfl, h, hB, hN, h6⟩
  | k + 1, n + 1, S, M, N, hk, hn, h, hB, hN, h6 => by
    obtain ⟨i, ei⟩ : ∃ i, q - (k + 1) = i := ⟨_, rfl⟩
    have hi : i < q := by omega
    have e2 : q - k = i + 1 := by omega
    rw [ei] at h hB hN ⊢
    obtain ⟨y, ey⟩ := kl_cell (xs := xs) hL (show 8 + i < 2 ^ 31 by omega)
    obtain ⟨c0, b0, s0⟩ := kl_some y (m := 4) (by omega) (by omega)
    obtain ⟨c1, b1, s1⟩ := kl_some (y >>> ((2 : Int32) &&& 31)) (m := 5) (by omega) (by omega)
    obtain ⟨c2, b2, s2⟩ := kl_some (y >>> ((5 : Int32) &&& 31)) (m := 12) (by omega) (by omega)
    obtain ⟨c3, b3, s3⟩ := kl_some (y >>> ((9 : Int32) &&& 31)) (m := 3) (by omega) (by omega)
    obtain ⟨c4, b4, s4⟩ := kl_some (y >>> ((11 : Int32) &&& 31)) (m := 3) (by omega) (by omega)
    have s0 : f_L_some y (4 : Int32) = some (nI c0) := s0
    have s1 : f_L_some (y >>> ((2 : Int32) &&& 31)) (5 : Int32) = some (nI c1) := s1
    have s2 : f_L_some (y >>> ((5 : Int32) &&& 31)) (12 : Int32) = some (nI c2) := s2
    have s3 : f_L_some (y >>> ((9 : Int32) &&& 31)) (3 : Int32) = some (nI c3) := s3
    have s4 : f_L_some (y >>> ((11 : Int32) &&& 31)) (3 : Int32) = some (nI c4) := s4
    have e4 := kl_4 i (by omega)
    have g0 : gw_in ((4 : Int32) * nI i) 40 := by rw [e4]; exact pi_in (by omega) (by omega)
    have g1 : gw_in (((4 : Int32) * nI i) + (1 : Int32)) 40 := by rw [e4, pn_a1]; exact pi_in (by omega) (by omega)
    have g2 : gw_in (((4 : Int32) * nI i) + (2 : Int32)) 40 := by rw [e4, pn_a2]; exact pi_in (by omega) (by omega)
    have g3 : gw_in (((4 : Int32) * nI i) + (3 : Int32)) 40 := by rw [e4, pn_a3]; exact pi_in (by omega) (by omega)
    have k0 : ((4 : Int32) * nI i).toNatClampNeg = 4 * i := by rw [e4, nI_clamp (by omega)]
    have k1 : (((4 : Int32) * nI i) + (1 : Int32)).toNatClampNeg = 4 * i + 1 := by rw [e4, pn_a1, nI_clamp (by omega)]
    have k2 : (((4 : Int32) * nI i) + (2 : Int32)).toNatClampNeg = 4 * i + 2 := by rw [e4, pn_a2, nI_clamp (by omega)]
    have k3 : (((4 : Int32) * nI i) + (3 : Int32)).toNatClampNeg = 4 * i + 3 := by rw [e4, pn_a3, nI_clamp (by omega)]
    have c6 : -1 ≤ (nI c4 - 1).toInt ∧ (nI c4 - 1).toInt ≤ 4 := by rw [pn_dec c4 (by omega)]; omega
    have fin : ∀ w : Int32, (0 ≤ w.toInt ∧ w.toInt ≤ 2) → ∃ S1 M1, f_X8_book (nI (10 + c0)) w (nI (100 + c2)) (nI c3) 5 (nI c4 - 1) S = some (nI i, S1) ∧ gK np (i + 1) S1 M1 ∧ bI M1 (i + 1) ∧ aN (i + 1) (nU N 1 i (nI (10 + c0)) w (nI (100 + c2)) (nI c3)) M1 ∧ M1 6 = gw_zM 6 := fun w hw => by
      obtain ⟨a1, a2⟩ := kg_book h (x1 := nI (10 + c0)) (x2 := w) (x3 := nI (100 + c2)) (x4 := nI c3) (x5 := 5) (x6 := nI c4 - 1) (by omega) ⟨kl_rg (by omega) (by omega) (by omega), hw, kl_rg (by omega) (by omega) (by omega), kl_rg (by omega) (by omega) (by omega), by decide, c6⟩
      have w33 : (sBm i M (nI (10 + c0)) w (nI (100 + c2)) (nI c3) 5 (nI c4 - 1)) 33 = M 33 := sBm_o (by omega) (by omega)
      have w32 : (sBm i M (nI (10 + c0)) w (nI (100 + c2)) (nI c3) 5 (nI c4 - 1)) 32 = upd (M 32) i (-1) := rfl
      have w31 : (sBm i M (nI (10 + c0)) w (nI (100 + c2)) (nI c3) 5 (nI c4 - 1)) 31 = upd (M 31) i (-1) := rfl
      have w25 : (sBm i M (nI (10 + c0)) w (nI (100 + c2)) (nI c3) 5 (nI c4 - 1)) 25 = upd (M 25) i (nI (10 + c0)) := rfl
      have w26 : (sBm i M (nI (10 + c0)) w (nI (100 + c2)) (nI c3) 5 (nI c4 - 1)) 26 = upd (M 26) i w := rfl
      have w27 : (sBm i M (nI (10 + c0)) w (nI (100 + c2)) (nI c3) 5 (nI c4 - 1)) 27 = upd (M 27) i (nI (100 + c2)) := rfl
      refine ⟨_, _, a1, a2, fun x hx => ?_, fun x hx => ?_, by rw [sBm_o (by omega) (by omega)]; exact h6⟩
      · rw [w31, w32, w33]
        by_cases e : x = i
        · subst e; exact ⟨gw_rs, gw_rs, (h.1.2.2.2.2 x (Nat.le_refl x) (by omega)).1⟩
        · rw [gw_ru e, gw_ru e]; exact hB x (by omega)
      · rw [w25, w26, w27]
        obtain ⟨r0, r1, r2, -, r4⟩ := nU_r (N := N) (i := i) (r := 1) (a0 := nI (10 + c0)) (a1 := w) (a2 := nI (100 + c2)) (a3 := nI c3)
        by_cases e : x = i
        · subst e; rw [r0, r1, r2, gw_rs, gw_rs, gw_rs]; exact ⟨rfl, rfl, rfl⟩
        · rw [r4 _ (by omega), r4 _ (by omega), r4 _ (by omega), gw_ru e, gw_ru e, gw_ru e]; exact hN x (by omega)
    rw [f_L_books_b3, if_neg (pn_le hi (by omega)), show (8 : Int32) + nI i = nI (8 + i) from nI_add 8 i, ey, gw_bdS, s0, gw_bdS, gw_gdT g0, gw_letS, s1, gw_bdS]
    have W : c1 = 0 ∨ c1 = 1 ∨ 2 ≤ c1 := by omega
    rcases W with rfl | rfl | W
    · rw [if_pos (show nI 0 = (0 : Int32) from rfl), gw_gdT g1, gw_letS, s2, gw_bdS, gw_gdT g2, gw_letS, s3, gw_bdS, gw_gdT g3, gw_letS, s4, gw_bdS, k0, k1, k2, k3]
      obtain ⟨S1, M1, a1, a2, a3, a4, a5⟩ := fin 1 (by decide)
      obtain ⟨N4, eN⟩ : ∃ N4, nU N 1 i (nI (10 + c0)) 1 (nI (100 + c2)) (nI c3) = N4 := ⟨_, rfl⟩
      obtain ⟨r0, r1, r2, r3, -⟩ := nU_r (N := N) (i := i) (r := 1) (a0 := nI (10 + c0)) (a1 := 1) (a2 := nI (100 + c2)) (a3 := nI c3)
      rw [eN] at r0 r1 r2 r3 a4
      unfold nU at eN
      rw [show (10 : Int32) + nI c0 = nI (10 + c0) from nI_add 10 c0, show (100 : Int32) + nI c2 = nI (100 + c2) from nI_add 100 c2, eN, r0, r1, r2, r3, a1, gw_b2S, if_pos rfl, gw_letS, pn_a1, ← e2]
      exact kl_books hL hq k n S1 M1 N4 (by omega) (by omega) (by rw [e2]; exact a2) (by rw [e2]; exact a3) (by rw [e2]; exact a4) a5
    · rw [if_neg (show ¬ nI 1 = (0 : Int32) by decide), gw_bdS, if_pos (show nI 1 = (1 : Int32) from rfl), gw_gdT g1, gw_letS, s2, gw_bdS, gw_gdT g2, gw_letS, s3, gw_bdS, gw_gdT g3, gw_letS, s4, gw_bdS, k0, k1, k2, k3]
      obtain ⟨S1, M1, a1, a2, a3, a4, a5⟩ := fin 2 (by decide)
      obtain ⟨N4, eN⟩ : ∃ N4, nU N 1 i (nI (10 + c0)) 2 (nI (100 + c2)) (nI c3) = N4 := ⟨_, rfl⟩
      obtain ⟨r0, r1, r2, r3, -⟩ := nU_r (N := N) (i := i) (r := 1) (a0 := nI (10 + c0)) (a1 := 2) (a2 := nI (100 + c2)) (a3 := nI c3)
      rw [eN] at r0 r1 r2 r3 a4
      unfold nU at eN
      rw [show (10 : Int32) + nI c0 = nI (10 + c0) from nI_add 10 c0, show (100 : Int32) + nI c2 = nI (100 + c2) from nI_add 100 c2, eN, r0, r1, r2, r3, a1, gw_b2S, if_pos rfl, gw_letS, pn_a1, ← e2]
      exact kl_books hL hq k n S1 M1 N4 (by omega) (by omega) (by rw [e2]; exact a2) (by rw [e2]; exact a3) (by rw [e2]; exact a4) a5
    · rw [if_neg (show ¬ nI c1 = (0 : Int32) from fun e => by have := (nI_eq (by omega) (by omega)).mp (show nI c1 = nI 0 from e); omega), gw_bdS, if_neg (show ¬ nI c1 = (1 : Int32) from fun e => by have := (nI_eq (by omega) (by omega)).mp (show nI c1 = nI 1 from e); omega), gw_gdT g1, gw_letS, s2, gw_bdS, gw_gdT g2, gw_letS, s3, gw_bdS, gw_gdT g3, gw_letS, s4, gw_bdS, k0, k1, k2, k3]
      obtain ⟨S1, M1, a1, a2, a3, a4, a5⟩ := fin 0 (by decide)
      obtain ⟨N4, eN⟩ : ∃ N4, nU N 1 i (nI (10 + c0)) 0 (nI (100 + c2)) (nI c3) = N4 := ⟨_, rfl⟩
      obtain ⟨r0, r1, r2, r3, -⟩ := nU_r (N := N) (i := i) (r := 1) (a0 := nI (10 + c0)) (a1 := 0) (a2 := nI (100 + c2)) (a3 := nI c3)
      rw [eN] at r0 r1 r2 r3 a4
      unfold nU at eN
      rw [show (10 : Int32) + nI c0 = nI (10 + c0) from nI_add 10 c0, show (100 : Int32) + nI c2 = nI (100 + c2) from nI_add 100 c2, eN, r0, r1, r2, r3, a1, gw_b2S, if_pos rfl, gw_letS, pn_a1, ← e2]
      exact kl_books hL hq k n S1 M1 N4 (by omega) (by omega) (by rw [e2]; exact a2) (by rw [e2]; exact a3) (by rw [e2]; exact a4) a5
end RPF
