/-! contracts: printed by wip/gen -/
section
variable {l : Launch} {D : va_G} {t1 t2 : Nat} {cc : Nat → ClassId} {a b d : Nat → Nat}
theorem m_X4_detail_15 : Cond.fieldLink RX4 15 "GownLet$Piece" "kind" "I" ∈ wsX4_detail := by decide +kernel
theorem m_X4_detail_18 : Cond.fieldLink RX4 18 "GownLet$Piece" "maker" "I" ∈ wsX4_detail := by decide +kernel
theorem m_X4_detail_21 : Cond.fieldLink RX4 21 "GownLet$Piece" "label" "I" ∈ wsX4_detail := by decide +kernel
theorem m_X4_detail_24 : Cond.fieldLink RX4 24 "GownLet$Piece" "lot" "I" ∈ wsX4_detail := by decide +kernel
theorem m_X4_detail_27 : Cond.fieldLink RX4 27 "GownLet$Piece" "town" "I" ∈ wsX4_detail := by decide +kernel
theorem m_X4_detail_30 : Cond.fieldLink RX4 30 "GownLet$Piece" "price" "I" ∈ wsX4_detail := by decide +kernel
theorem m_X4_detail_40 : Cond.fieldLink RX4 40 "GownLet$Piece" "worn" "I" ∈ wsX4_detail := by decide +kernel
theorem m_X4_detail_9 : Cond.fieldLink RX4 9 "GownLet$Piece" "tornFrom" "I" ∈ wsX4_detail := by decide +kernel
theorem ly_X4_detail_4 : ∀ w ∈ wsX40, w ∈ wsX4_detail := by decide +kernel
set_option maxRecDepth 100000 in
set_option maxHeartbeats 4000000 in
theorem k_X4_detail (x0 : Int32) (x1 : Int32) (S : gw_S) {zr : Int32} (h : f_X4_detail x0 x1 S = some zr) : gw_M l yX4_detail wsX4_detail rm_X4_detail 0 0 D (gw_ty cc) t1 t2 [.ref (b x0.toNatClampNeg), .int x1] (gw_cw cc a b d S) (fun w => w = gw_cw cc a b d S) (some (.int zr)) := by
  refine gw_enter (cc := cX4_detail) (maxL := 2) (ret := (some .int)) (own := RX4) rfl (by decide) rfl (Nat.le_of_ble_eq_true rfl) ?_
  intro p e s m below meth c A B hin hI ls hl
  have hl : lv_has ls 2 [(0, .ref (b x0.toNatClampNeg)), (1, .int x1)] := hl
  generalize ([.ref (b x0.toNatClampNeg), .int x1] : List Value).toArray = args at B ⊢
  have hx := B.1.1
  have hb := B.1.2.1
  have hown : s.vm.findClass RX4 = some m.cls := B.1.2.2.2.1
  have hts := B.1.2.2.2.2
  unfold f_X4_detail at h
  refine lv_iload_n hx hb dX4_detail_0 rfl (lv_at hl 1 rfl) ?_
  by_cases c1 : x1 = 0
  · replace h := gw_ifT c1 h
    refine gw_tabIn (k := 0) (off := 55) (tgt := 56) B c1 dX4_detail_1 (by decide) (by decide) ?_
    refine lv_aload_n hx hb dX4_detail_56 rfl (lv_at hl 0 rfl) ?_
    obtain ⟨g2, h⟩ := gw_gdE h
    refine gw_get (T := TX4) (k := 0) (v := .int (S (2 * x0.toNatClampNeg + 30) 0)) B hI (gc_gp g2) rfl ly_X4_detail_4 (by decide) m_X4_detail_15 rfl rfl dX4_detail_57 ?_
    rw [← Option.some.inj h]
    exact gw_iret (W' := (fun w => w = gw_cw cc a b d S)) B hI rfl (Nat.zero_le _) (Nat.zero_le _) dX4_detail_60
  · replace h := gw_ifF c1 h
    by_cases c3 : x1 = 1
    · replace h := gw_ifT c3 h
      refine gw_tabIn (k := 1) (off := 60) (tgt := 61) B c3 dX4_detail_1 (by decide) (by decide) ?_
      refine lv_aload_n hx hb dX4_detail_61 rfl (lv_at hl 0 rfl) ?_
      obtain ⟨g4, h⟩ := gw_gdE h
      refine gw_get (T := TX4) (k := 1) (v := .int (S (2 * x0.toNatClampNeg + 30) 1)) B hI (gc_gp g4) rfl ly_X4_detail_4 (by decide) m_X4_detail_18 rfl rfl dX4_detail_62 ?_
      rw [← Option.some.inj h]
      exact gw_iret (W' := (fun w => w = gw_cw cc a b d S)) B hI rfl (Nat.zero_le _) (Nat.zero_le _) dX4_detail_65
    · replace h := gw_ifF c3 h
      by_cases c5 : x1 = 2
      · replace h := gw_ifT c5 h
        refine gw_tabIn (k := 2) (off := 65) (tgt := 66) B c5 dX4_detail_1 (by decide) (by decide) ?_
        refine lv_aload_n hx hb dX4_detail_66 rfl (lv_at hl 0 rfl) ?_
        obtain ⟨g6, h⟩ := gw_gdE h
        refine gw_get (T := TX4) (k := 2) (v := .int (S (2 * x0.toNatClampNeg + 30) 2)) B hI (gc_gp g6) rfl ly_X4_detail_4 (by decide) m_X4_detail_21 rfl rfl dX4_detail_67 ?_
        rw [← Option.some.inj h]
        exact gw_iret (W' := (fun w => w = gw_cw cc a b d S)) B hI rfl (Nat.zero_le _) (Nat.zero_le _) dX4_detail_70
      · replace h := gw_ifF c5 h
        by_cases c7 : x1 = 3
        · replace h := gw_ifT c7 h
          refine gw_tabIn (k := 3) (off := 70) (tgt := 71) B c7 dX4_detail_1 (by decide) (by decide) ?_
          refine lv_aload_n hx hb dX4_detail_71 rfl (lv_at hl 0 rfl) ?_
          obtain ⟨g8, h⟩ := gw_gdE h
          refine gw_get (T := TX4) (k := 3) (v := .int (S (2 * x0.toNatClampNeg + 30) 3)) B hI (gc_gp g8) rfl ly_X4_detail_4 (by decide) m_X4_detail_24 rfl rfl dX4_detail_72 ?_
          rw [← Option.some.inj h]
          exact gw_iret (W' := (fun w => w = gw_cw cc a b d S)) B hI rfl (Nat.zero_le _) (Nat.zero_le _) dX4_detail_75
        · replace h := gw_ifF c7 h
          by_cases c9 : x1 = 4
          · replace h := gw_ifT c9 h
            refine gw_tabIn (k := 4) (off := 75) (tgt := 76) B c9 dX4_detail_1 (by decide) (by decide) ?_
            refine lv_aload_n hx hb dX4_detail_76 rfl (lv_at hl 0 rfl) ?_
            obtain ⟨g10, h⟩ := gw_gdE h
            refine gw_get (T := TX4) (k := 4) (v := .int (S (2 * x0.toNatClampNeg + 30) 4)) B hI (gc_gp g10) rfl ly_X4_detail_4 (by decide) m_X4_detail_27 rfl rfl dX4_detail_77 ?_
            rw [← Option.some.inj h]
            exact gw_iret (W' := (fun w => w = gw_cw cc a b d S)) B hI rfl (Nat.zero_le _) (Nat.zero_le _) dX4_detail_80
          · replace h := gw_ifF c9 h
            by_cases c11 : x1 = 5
            · replace h := gw_ifT c11 h
              refine gw_tabIn (k := 5) (off := 80) (tgt := 81) B c11 dX4_detail_1 (by decide) (by decide) ?_
              refine lv_aload_n hx hb dX4_detail_81 rfl (lv_at hl 0 rfl) ?_
              obtain ⟨g12, h⟩ := gw_gdE h
              refine gw_get (T := TX4) (k := 5) (v := .int (S (2 * x0.toNatClampNeg + 30) 5)) B hI (gc_gp g12) rfl ly_X4_detail_4 (by decide) m_X4_detail_30 rfl rfl dX4_detail_82 ?_
              rw [← Option.some.inj h]
              exact gw_iret (W' := (fun w => w = gw_cw cc a b d S)) B hI rfl (Nat.zero_le _) (Nat.zero_le _) dX4_detail_85
            · replace h := gw_ifF c11 h
              by_cases c13 : x1 = 6
              · replace h := gw_ifT c13 h
                refine gw_tabIn (k := 6) (off := 85) (tgt := 86) B c13 dX4_detail_1 (by decide) (by decide) ?_
                refine lv_aload_n hx hb dX4_detail_86 rfl (lv_at hl 0 rfl) ?_
                obtain ⟨g14, h⟩ := gw_gdE h
                refine gw_get (T := TX4) (k := 9) (v := .int (S (2 * x0.toNatClampNeg + 30) 9)) B hI (gc_gp g14) rfl ly_X4_detail_4 (by decide) m_X4_detail_40 rfl rfl dX4_detail_87 ?_
                rw [← Option.some.inj h]
                exact gw_iret (W' := (fun w => w = gw_cw cc a b d S)) B hI rfl (Nat.zero_le _) (Nat.zero_le _) dX4_detail_90
              · replace h := gw_ifF c13 h
                by_cases c15 : x1 = 7
                · replace h := gw_ifT c15 h
                  refine gw_tabIn (k := 7) (off := 90) (tgt := 91) B c15 dX4_detail_1 (by decide) (by decide) ?_
                  refine lv_aload_n hx hb dX4_detail_91 rfl (lv_at hl 0 rfl) ?_
                  obtain ⟨g16, h⟩ := gw_gdE h
                  obtain ⟨r17, e18, h⟩ := gw_bdE h
                  refine gw_callV (As := []) (n := 0) B hI (k_X4_worth x0 S e18) gX4_detail_X4_worth rfl rfl rfl nd_X4_worth ⟨Nat.le_of_ble_eq_true rfl, Nat.le_of_ble_eq_true rfl⟩ (gc_gp g16) rfl rfl rfl hl.1 (Nat.zero_le _) dX4_detail_92 ⟨Nat.le_of_ble_eq_true rfl, Nat.le_of_ble_eq_true rfl⟩ rfl (fun w' H locs hw hI => ?_)
                  subst hw
                  rw [← Option.some.inj h]
                  exact gw_iret (W' := (fun w => w = gw_cw cc a b d S)) B hI rfl (Nat.zero_le _) (Nat.zero_le _) dX4_detail_95
                · replace h := gw_ifF c15 h
                  by_cases c19 : x1 = 8
                  · replace h := gw_ifT c19 h
                    refine gw_tabIn (k := 8) (off := 95) (tgt := 96) B c19 dX4_detail_1 (by decide) (by decide) ?_
                    refine lv_aload_n hx hb dX4_detail_96 rfl (lv_at hl 0 rfl) ?_
                    obtain ⟨g20, h⟩ := gw_gdE h
                    obtain ⟨r21, e22, h⟩ := gw_bdE h
                    refine gw_callV (As := []) (n := 0) B hI (k_X4_isRetired x0 S e22) gX4_detail_X4_isRetired rfl rfl rfl nd_X4_isRetired ⟨Nat.le_of_ble_eq_true rfl, Nat.le_of_ble_eq_true rfl⟩ (gc_gp g20) rfl rfl rfl hl.1 (Nat.zero_le _) dX4_detail_97 ⟨Nat.le_of_ble_eq_true rfl, Nat.le_of_ble_eq_true rfl⟩ rfl (fun w' H locs hw hI => ?_)
                    subst hw
                    refine lv_if_eq (tgt := 107) hx hb dX4_detail_100 (by decide) (fun c23 => ?_) (fun c23 => ?_)
                    · replace h := gw_ifT c23 h
                      refine lv_iconst (v := 0) hx hb dX4_detail_107 (by decide) ?_
                      rw [← Option.some.inj h]
                      exact gw_iret (W' := (fun w => w = gw_cw cc a b d S)) B hI rfl (Nat.zero_le _) (Nat.zero_le _) dX4_detail_108
                    · replace h := gw_ifF c23 h
                      refine lv_iconst (v := 1) hx hb dX4_detail_103 (by decide) ?_
                      refine lv_goto (tgt := 108) hx hb dX4_detail_104 (by decide) ?_
                      rw [← Option.some.inj h]
                      exact gw_iret (W' := (fun w => w = gw_cw cc a b d S)) B hI rfl (Nat.zero_le _) (Nat.zero_le _) dX4_detail_108
                  · replace h := gw_ifF c19 h
                    by_cases c24 : x1 = 9
                    · replace h := gw_ifT c24 h
                      refine gw_tabIn (k := 9) (off := 108) (tgt := 109) B c24 dX4_detail_1 (by decide) (by decide) ?_
                      refine lv_aload_n hx hb dX4_detail_109 rfl (lv_at hl 0 rfl) ?_
                      obtain ⟨g25, h⟩ := gw_gdE h
                      refine gw_get (T := TX4) (k := 10) (v := .int (S (2 * x0.toNatClampNeg + 30) 10)) B hI (gc_gp g25) rfl ly_X4_detail_4 (by decide) m_X4_detail_9 rfl rfl dX4_detail_110 ?_
                      rw [← Option.some.inj h]
                      exact gw_iret (W' := (fun w => w = gw_cw cc a b d S)) B hI rfl (Nat.zero_le _) (Nat.zero_le _) dX4_detail_113
                    · replace h := gw_ifF c24 h
                      refine lv_tableOut (tgt := 114) hx hb dX4_detail_1 (gw_out10 c1 c3 c5 c7 c9 c11 c13 c15 c19 c24) (by decide) ?_
                      refine lv_iconst (v := -1) hx hb dX4_detail_114 (by decide) ?_
                      rw [← Option.some.inj h]
                      exact gw_iret (W' := (fun w => w = gw_cw cc a b d S)) B hI rfl (Nat.zero_le _) (Nat.zero_le _) dX4_detail_115
theorem m_X7_placeOf_16 : Cond.fieldLink RX7 16 "GownLet$Terms" "LETTER" "[C" ∈ wsX7_placeOf := by decide +kernel
set_option maxRecDepth 100000 in
set_option maxHeartbeats 4000000 in
theorem k_X7_placeOf (x0 : Int32) (S : gw_S) {zr : Int32} (h : f_X7_placeOf x0 S = some zr) : gw_M l yX7_placeOf wsX7_placeOf rm_X7_placeOf 0 0 D (gw_ty cc) t1 t2 [.int x0] (gw_cw cc a b d S) (fun w => w = gw_cw cc a b d S) (some (.int zr)) := by
  refine gw_enter (cc := cX7_placeOf) (maxL := 2) (ret := (some .int)) (own := RX7) rfl (by decide) rfl (Nat.le_of_ble_eq_true rfl) ?_
  intro p e s m below meth c A B hin hI ls hl
  have hl : lv_has ls 2 [(0, .int x0)] := hl
  generalize ([.int x0] : List Value).toArray = args at B ⊢
  have hx := B.1.1
  have hb := B.1.2.1
  have hown : s.vm.findClass RX7 = some m.cls := B.1.2.2.2.1
  have hts := B.1.2.2.2.2
  have hb2 :  ∀ (n : Nat), ∀ (v0 : Int32) (v1 : Int32), f_X7_placeOf_b2 S  n v0 v1 = some zr → ∀ (H : Heap) (locs : List Loc) (ls : Array Slot), gw_I D A s.heap (gw_cw cc a b d S) H locs → lv_has ls 2 [(0, .int v0), (1, .int v1)] → W p l e rm_X7_placeOf s m args below meth c H locs 0 0 (MQ below (gw_Q (some (.int zr)) (gw_Pst D A (fun w => w = gw_cw cc a b d S)) A) args s 0 0 A) (F0 m 2 ls []) := by
    intro n
    induction n with
    | zero =>
      intro v0 v1 h
      cases h
    | succ n ih =>
      intro v0 v1 h H locs ls hI hl
      unfold f_X7_placeOf_b2 at h
      refine lv_iload_n hx hb dX7_placeOf_2 rfl (lv_at hl 1 rfl) ?_
      refine lv_bipush (v := 8) hx hb dX7_placeOf_3 (by decide) ?_
      refine lv_icmp_ge (tgt := 25) hx hb dX7_placeOf_5 (by decide) (fun c1 => ?_) (fun c1 => ?_)
      · replace h := gw_ifT c1 h
        refine lv_iconst (v := -1) hx hb dX7_placeOf_25 (by decide) ?_
        rw [← Option.some.inj h]
        exact gw_iret (W' := (fun w => w = gw_cw cc a b d S)) B hI rfl (Nat.zero_le _) (Nat.zero_le _) dX7_placeOf_26
      · replace h := gw_ifF c1 h
        refine gw_gets1 B hI m_X7_placeOf_16 dX7_placeOf_8 ?_
        refine lv_iload_n hx hb dX7_placeOf_11 rfl (lv_at hl 1 rfl) ?_
        obtain ⟨g2, h⟩ := gw_gdE h
        refine gw_t1 B hI g2 dX7_placeOf_12 ?_
        refine lv_iload_n hx hb dX7_placeOf_13 rfl (lv_at hl 0 rfl) ?_
        refine lv_icmp_ne (tgt := 19) hx hb dX7_placeOf_14 (by decide) (fun c3 => ?_) (fun c3 => ?_)
        · replace h := gw_ifF c3 h
          obtain ⟨y4, e5, h⟩ := gw_letE h
          refine lv_iinc (v := y4) (lv' := [(1, .int y4), (0, .int v0)]) hx hb dX7_placeOf_19 hl (k := 1) rfl (by rw [e5]; rfl) (by decide) rfl (fun ls hl => ?_)
          refine lv_goto (tgt := 2) hx hb dX7_placeOf_22 (by decide) ?_
          exact ih v0 y4 h _ _ _ hI (lv_sub hl [1, 0] rfl)
        · replace h := gw_ifT c3 h
          refine lv_iload_n hx hb dX7_placeOf_17 rfl (lv_at hl 1 rfl) ?_
          rw [← Option.some.inj h]
          exact gw_iret (W' := (fun w => w = gw_cw cc a b d S)) B hI rfl (Nat.zero_le _) (Nat.zero_le _) dX7_placeOf_18
  unfold f_X7_placeOf at h
  refine lv_iconst (v := 0) hx hb dX7_placeOf_0 (by decide) ?_
  refine lv_istore_n (lv' := [(1, .int (0 : Int32)), (0, .int x0)]) hx hb dX7_placeOf_1 rfl hl (by decide) rfl (fun ls hl => ?_)
  exact hb2  gw_F x0 (0 : Int32) h _ _ _ hI (lv_sub hl [1, 0] rfl)
theorem m_X8_term_19 : Cond.fieldLink RX8 19 "GownLet" "house" "LGownLet$House;" ∈ wsX8_term := by decide +kernel
theorem ly_X8_term_2 : ∀ w ∈ wsX20, w ∈ wsX8_term := by decide +kernel
theorem ly_X8_term_8 : ∀ w ∈ wsX80, w ∈ wsX8_term := by decide +kernel
set_option maxRecDepth 100000 in
set_option maxHeartbeats 4000000 in
theorem k_X8_term (x1 : Int32) (S : gw_S) {zr : Int32} (h : f_X8_term x1 S = some zr) : gw_M l yX8_term wsX8_term rm_X8_term 0 0 D (gw_ty cc) t1 t2 [.ref (a 0), .int x1] (gw_cw cc a b d S) (fun w => w = gw_cw cc a b d S) (some (.int zr)) := by
  refine gw_enter (cc := cX8_term) (maxL := 3) (ret := (some .int)) (own := RX8) rfl (by decide) rfl (Nat.le_of_ble_eq_true rfl) ?_
  intro p e s m below meth c A B hin hI ls hl
  have hl : lv_has ls 3 [(0, .ref (a 0)), (1, .int x1)] := hl
  generalize ([.ref (a 0), .int x1] : List Value).toArray = args at B ⊢
  have hx := B.1.1
  have hb := B.1.2.1
  have hown : s.vm.findClass RX8 = some m.cls := B.1.2.2.2.1
  have hts := B.1.2.2.2.2
  unfold f_X8_term at h
  refine lv_iload_n hx hb dX8_term_0 rfl (lv_at hl 1 rfl) ?_
  obtain ⟨r1, e2, h⟩ := gw_bdE h
  refine gw_callS (As := [.int x1]) (n := 1) B hI (k_X7_placeOf x1 S e2) gX8_term_X7_placeOf rfl rfl rfl nds_X7_placeOf ⟨Nat.le_of_ble_eq_true rfl, Nat.le_of_ble_eq_true rfl⟩ rfl hl.1 (Nat.zero_le _) dX8_term_1 ⟨Nat.le_of_ble_eq_true rfl, Nat.le_of_ble_eq_true rfl⟩ rfl (fun w' H locs hw hI => ?_)
  subst hw
  refine lv_istore_n (lv' := [(2, .int r1), (0, .ref (a 0)), (1, .int x1)]) hx hb dX8_term_4 rfl hl (by decide) rfl (fun ls hl => ?_)
  refine lv_iload_n hx hb dX8_term_5 rfl (lv_at hl 0 rfl) ?_
  refine lv_if_ge (tgt := 13) hx hb dX8_term_6 (by decide) (fun c3 => ?_) (fun c3 => ?_)
  · replace h := gw_ifT c3 h
    refine lv_aload_n hx hb dX8_term_13 rfl (lv_at hl 1 rfl) ?_
    refine gw_get (T := TX8) (k := 1) (v := .ref (a 3)) B hI gc_g0 rfl ly_X8_term_8 (by decide) m_X8_term_19 rfl rfl dX8_term_14 ?_
    refine gw_getN (T := TX2) (k := 0) (v := .ref (a 4)) B hI gc_g3 rfl ly_X8_term_2 (by decide) n_RX8_59 rfl rfl dX8_term_17 ?_
    refine lv_iload_n hx hb dX8_term_20 rfl (lv_at hl 0 rfl) ?_
    obtain ⟨r4, e5, h⟩ := gw_bdE h
    refine gw_callV (As := [.int r1]) (n := 1) B hI (k_X7_at r1 S e5) gX8_term_X7_at rfl rfl rfl nd_X7_at ⟨Nat.le_of_ble_eq_true rfl, Nat.le_of_ble_eq_true rfl⟩ gc_g4 rfl rfl rfl hl.1 (Nat.zero_le _) dX8_term_21 ⟨Nat.le_of_ble_eq_true rfl, Nat.le_of_ble_eq_true rfl⟩ rfl (fun w' H locs hw hI => ?_)
    subst hw
    rw [← Option.some.inj h]
    exact gw_iret (W' := (fun w => w = gw_cw cc a b d S)) B hI rfl (Nat.zero_le _) (Nat.zero_le _) dX8_term_24
  · replace h := gw_ifF c3 h
    refine lv_iconst (v := -1) hx hb dX8_term_9 (by decide) ?_
    refine lv_goto (tgt := 24) hx hb dX8_term_10 (by decide) ?_
    rw [← Option.some.inj h]
    exact gw_iret (W' := (fun w => w = gw_cw cc a b d S)) B hI rfl (Nat.zero_le _) (Nat.zero_le _) dX8_term_24
theorem m_X8_post_19 : Cond.fieldLink RX8 19 "GownLet" "house" "LGownLet$House;" ∈ wsX8_post := by decide +kernel
theorem ly_X8_post_8 : ∀ w ∈ wsX80, w ∈ wsX8_post := by decide +kernel
set_option maxRecDepth 100000 in
set_option maxHeartbeats 4000000 in
theorem k_X8_post (x1 : Int32) (x2 : Int32) (x3 : Int32) (S : gw_S) {zr : Int32} {zS : gw_S} (h : f_X8_post x1 x2 x3 S = some (zr, zS)) : gw_M l yX8_post wsX8_post rm_X8_post 0 0 D (gw_ty cc) t1 t2 [.ref (a 0), .int x1, .int x2, .int x3] (gw_cw cc a b d S) (fun w => w = gw_cw cc a b d zS) (some (.int zr)) := by
  refine gw_enter (cc := cX8_post) (maxL := 5) (ret := (some .int)) (own := RX8) rfl (by decide) rfl (Nat.le_of_ble_eq_true rfl) ?_
  intro p e s m below meth c A B hin hI ls hl
  have hl : lv_has ls 5 [(0, .ref (a 0)), (1, .int x1), (2, .int x2), (3, .int x3)] := hl
  generalize ([.ref (a 0), .int x1, .int x2, .int x3] : List Value).toArray = args at B ⊢
  have hx := B.1.1
  have hb := B.1.2.1
  have hown : s.vm.findClass RX8 = some m.cls := B.1.2.2.2.1
  have hts := B.1.2.2.2.2
  unfold f_X8_post at h
  refine lv_iload_n hx hb dX8_post_0 rfl (lv_at hl 1 rfl) ?_
  obtain ⟨r1, e2, h⟩ := gw_bdE h
  refine gw_callS (As := [.int x1]) (n := 1) B hI (k_X8_isTown x1 S e2) gX8_post_X8_isTown rfl rfl rfl nds_X8_isTown ⟨Nat.le_of_ble_eq_true rfl, Nat.le_of_ble_eq_true rfl⟩ rfl hl.1 (Nat.zero_le _) dX8_post_1 ⟨Nat.le_of_ble_eq_true rfl, Nat.le_of_ble_eq_true rfl⟩ rfl (fun w' H locs hw hI => ?_)
  subst hw
  refine lv_if_eq (tgt := 29) hx hb dX8_post_4 (by decide) (fun c3 => ?_) (fun c3 => ?_)
  · replace h := gw_ifT c3 h
    refine lv_iconst (v := -1) hx hb dX8_post_29 (by decide) ?_
    obtain ⟨h1, h2⟩ := Prod.mk.inj (Option.some.inj h)
    rw [h2] at hI
    rw [← h1]
    exact gw_iret (W' := (fun w => w = gw_cw cc a b d zS)) B hI rfl (Nat.zero_le _) (Nat.zero_le _) dX8_post_30
  · replace h := gw_ifF c3 h
    refine lv_iload_n hx hb dX8_post_7 rfl (lv_at hl 2 rfl) ?_
    obtain ⟨r4, e5, h⟩ := gw_bdE h
    refine gw_callS (As := [.int x2]) (n := 1) B hI (k_X8_isTown x2 S e5) gX8_post_X8_isTown rfl rfl rfl nds_X8_isTown ⟨Nat.le_of_ble_eq_true rfl, Nat.le_of_ble_eq_true rfl⟩ rfl hl.1 (Nat.zero_le _) dX8_post_8 ⟨Nat.le_of_ble_eq_true rfl, Nat.le_of_ble_eq_true rfl⟩ rfl (fun w' H locs hw hI => ?_)
    subst hw
    refine lv_if_eq (tgt := 29) hx hb dX8_post_11 (by decide) (fun c6 => ?_) (fun c6 => ?_)
    · replace h := gw_ifT c6 h
      refine lv_iconst (v := -1) hx hb dX8_post_29 (by decide) ?_
      obtain ⟨h1, h2⟩ := Prod.mk.inj (Option.some.inj h)
      rw [h2] at hI
      rw [← h1]
      exact gw_iret (W' := (fun w => w = gw_cw cc a b d zS)) B hI rfl (Nat.zero_le _) (Nat.zero_le _) dX8_post_30
    · replace h := gw_ifF c6 h
      refine lv_iload_n hx hb dX8_post_14 rfl (lv_at hl 1 rfl) ?_
      refine lv_iload_n hx hb dX8_post_15 rfl (lv_at hl 2 rfl) ?_
      refine lv_icmp_eq (tgt := 29) hx hb dX8_post_16 (by decide) (fun c7 => ?_) (fun c7 => ?_)
      · replace h := gw_ifT c7 h
        refine lv_iconst (v := -1) hx hb dX8_post_29 (by decide) ?_
        obtain ⟨h1, h2⟩ := Prod.mk.inj (Option.some.inj h)
        rw [h2] at hI
        rw [← h1]
        exact gw_iret (W' := (fun w => w = gw_cw cc a b d zS)) B hI rfl (Nat.zero_le _) (Nat.zero_le _) dX8_post_30
      · replace h := gw_ifF c7 h
        refine lv_iload_n hx hb dX8_post_19 rfl (lv_at hl 3 rfl) ?_
        refine lv_iconst (v := 0) hx hb dX8_post_20 (by decide) ?_
        refine lv_bipush (v := 9) hx hb dX8_post_21 (by decide) ?_
        obtain ⟨r8, e9, h⟩ := gw_bdE h
        refine gw_callS (As := [.int x3, .int (0 : Int32), .int (9 : Int32)]) (n := 3) B hI (k_X8_isIn x3 (0 : Int32) (9 : Int32) S e9) gX8_post_X8_isIn rfl rfl rfl nds_X8_isIn ⟨Nat.le_of_ble_eq_true rfl, Nat.le_of_ble_eq_true rfl⟩ rfl hl.1 (Nat.zero_le _) dX8_post_23 ⟨Nat.le_of_ble_eq_true rfl, Nat.le_of_ble_eq_true rfl⟩ rfl (fun w' H locs hw hI => ?_)
        subst hw
        refine lv_if_ne (tgt := 31) hx hb dX8_post_26 (by decide) (fun c10 => ?_) (fun c10 => ?_)
        · replace h := gw_ifF c10 h
          refine lv_aload_n hx hb dX8_post_31 rfl (lv_at hl 0 rfl) ?_
          refine gw_get (T := TX8) (k := 1) (v := .ref (a 3)) B hI gc_g0 rfl ly_X8_post_8 (by decide) m_X8_post_19 rfl rfl dX8_post_32 ?_
          refine lv_iload_n hx hb dX8_post_35 rfl (lv_at hl 1 rfl) ?_
          refine lv_iload_n hx hb dX8_post_36 rfl (lv_at hl 2 rfl) ?_
          obtain ⟨r11, e12, h⟩ := gw_bdE h
          refine gw_callV (As := [.int x1, .int x2]) (n := 2) B hI (k_X2_postBetween x1 x2 S e12) gX8_post_X2_postBetween rfl rfl rfl nd_X2_postBetween ⟨Nat.le_of_ble_eq_true rfl, Nat.le_of_ble_eq_true rfl⟩ gc_g3 rfl rfl rfl hl.1 (Nat.zero_le _) dX8_post_37 ⟨Nat.le_of_ble_eq_true rfl, Nat.le_of_ble_eq_true rfl⟩ rfl (fun w' H locs hw hI => ?_)
          subst hw
          refine lv_istore (lv' := [(4, .int r11), (0, .ref (a 0)), (1, .int x1), (2, .int x2), (3, .int x3)]) hx hb dX8_post_40 hl (by decide) rfl (fun ls hl => ?_)
          refine lv_aload_n hx hb dX8_post_42 rfl (lv_at hl 1 rfl) ?_
          refine gw_get (T := TX8) (k := 1) (v := .ref (a 3)) B hI gc_g0 rfl ly_X8_post_8 (by decide) m_X8_post_19 rfl rfl dX8_post_43 ?_
          refine lv_iload_n hx hb dX8_post_46 rfl (lv_at hl 2 rfl) ?_
          refine lv_iload_n hx hb dX8_post_47 rfl (lv_at hl 3 rfl) ?_
          refine lv_iload_n hx hb dX8_post_48 rfl (lv_at hl 4 rfl) ?_
          obtain ⟨S13, e14, h⟩ := gw_bdE h
          refine gw_callVv (As := [.int x1, .int x2, .int x3]) (n := 3) B hI (k_X2_setPost x1 x2 x3 S e14) gX8_post_X2_setPost rfl rfl rfl nd_X2_setPost ⟨Nat.le_of_ble_eq_true rfl, Nat.le_of_ble_eq_true rfl⟩ gc_g3 rfl rfl rfl hl.1 (Nat.zero_le _) dX8_post_49 ⟨Nat.le_of_ble_eq_true rfl, Nat.le_of_ble_eq_true rfl⟩ rfl (fun w' H locs hw hI => ?_)
          subst hw
          refine lv_iload hx hb dX8_post_52 (lv_at hl 0 rfl) ?_
          obtain ⟨h1, h2⟩ := Prod.mk.inj (Option.some.inj h)
          rw [h2] at hI
          rw [← h1]
          exact gw_iret (W' := (fun w => w = gw_cw cc a b d zS)) B hI rfl (Nat.zero_le _) (Nat.zero_le _) dX8_post_54
        · replace h := gw_ifT c10 h
          refine lv_iconst (v := -1) hx hb dX8_post_29 (by decide) ?_
          obtain ⟨h1, h2⟩ := Prod.mk.inj (Option.some.inj h)
          rw [h2] at hI
          rw [← h1]
          exact gw_iret (W' := (fun w => w = gw_cw cc a b d zS)) B hI rfl (Nat.zero_le _) (Nat.zero_le _) dX8_post_30
set_option maxRecDepth 100000 in
set_option maxHeartbeats 4000000 in
theorem k_X8_isMaker (x0 : Int32) (S : gw_S) {zr : Int32} (h : f_X8_isMaker x0 S = some zr) : gw_M l yX8_isMaker wsX8_isMaker rm_X8_isMaker 0 0 D (gw_ty cc) t1 t2 [.int x0] (gw_cw cc a b d S) (fun w => w = gw_cw cc a b d S) (some (.int zr)) := by
  refine gw_enter (cc := cX8_isMaker) (maxL := 1) (ret := (some .boolean)) (own := RX8) rfl (by decide) rfl (Nat.le_of_ble_eq_true rfl) ?_
  intro p e s m below meth c A B hin hI ls hl
  have hl : lv_has ls 1 [(0, .int x0)] := hl
  generalize ([.int x0] : List Value).toArray = args at B ⊢
  have hx := B.1.1
  have hb := B.1.2.1
  have hown : s.vm.findClass RX8 = some m.cls := B.1.2.2.2.1
  have hts := B.1.2.2.2.2
  unfold f_X8_isMaker at h
  refine lv_iload_n hx hb dX8_isMaker_0 rfl (lv_at hl 0 rfl) ?_
  refine lv_iconst (v := 0) hx hb dX8_isMaker_1 (by decide) ?_
  refine lv_iconst (v := 5) hx hb dX8_isMaker_2 (by decide) ?_
  obtain ⟨r1, e2, h⟩ := gw_bdE h
  refine gw_callS (As := [.int x0, .int (0 : Int32), .int (5 : Int32)]) (n := 3) B hI (k_X8_isIn x0 (0 : Int32) (5 : Int32) S e2) gX8_isMaker_X8_isIn rfl rfl rfl nds_X8_isIn ⟨Nat.le_of_ble_eq_true rfl, Nat.le_of_ble_eq_true rfl⟩ rfl hl.1 (Nat.zero_le _) dX8_isMaker_3 ⟨Nat.le_of_ble_eq_true rfl, Nat.le_of_ble_eq_true rfl⟩ rfl (fun w' H locs hw hI => ?_)
  subst hw
  obtain ⟨g3, h⟩ := gw_gdE h
  rw [← Option.some.inj h]
  exact gw_zret (W' := (fun w => w = gw_cw cc a b d S)) B hI rfl g3 (Nat.zero_le _) (Nat.zero_le _) dX8_isMaker_6
set_option maxRecDepth 100000 in
set_option maxHeartbeats 4000000 in
theorem k_X8_isLabel (x0 : Int32) (S : gw_S) {zr : Int32} (h : f_X8_isLabel x0 S = some zr) : gw_M l yX8_isLabel wsX8_isLabel rm_X8_isLabel 0 0 D (gw_ty cc) t1 t2 [.int x0] (gw_cw cc a b d S) (fun w => w = gw_cw cc a b d S) (some (.int zr)) := by
  refine gw_enter (cc := cX8_isLabel) (maxL := 1) (ret := (some .boolean)) (own := RX8) rfl (by decide) rfl (Nat.le_of_ble_eq_true rfl) ?_
  intro p e s m below meth c A B hin hI ls hl
  have hl : lv_has ls 1 [(0, .int x0)] := hl
  generalize ([.int x0] : List Value).toArray = args at B ⊢
  have hx := B.1.1
  have hb := B.1.2.1
  have hown : s.vm.findClass RX8 = some m.cls := B.1.2.2.2.1
  have hts := B.1.2.2.2.2
  unfold f_X8_isLabel at h
  refine lv_iload_n hx hb dX8_isLabel_0 rfl (lv_at hl 0 rfl) ?_
  refine lv_iconst (v := 1) hx hb dX8_isLabel_1 (by decide) ?_
  refine lv_bipush (v := 40) hx hb dX8_isLabel_2 (by decide) ?_
  obtain ⟨r1, e2, h⟩ := gw_bdE h
  refine gw_callS (As := [.int x0, .int (1 : Int32), .int (40 : Int32)]) (n := 3) B hI (k_X8_isIn x0 (1 : Int32) (40 : Int32) S e2) gX8_isLabel_X8_isIn rfl rfl rfl nds_X8_isIn ⟨Nat.le_of_ble_eq_true rfl, Nat.le_of_ble_eq_true rfl⟩ rfl hl.1 (Nat.zero_le _) dX8_isLabel_4 ⟨Nat.le_of_ble_eq_true rfl, Nat.le_of_ble_eq_true rfl⟩ rfl (fun w' H locs hw hI => ?_)
  subst hw
  obtain ⟨g3, h⟩ := gw_gdE h
  rw [← Option.some.inj h]
  exact gw_zret (W' := (fun w => w = gw_cw cc a b d S)) B hI rfl g3 (Nat.zero_le _) (Nat.zero_le _) dX8_isLabel_7
theorem m_X8_told_19 : Cond.fieldLink RX8 19 "GownLet" "house" "LGownLet$House;" ∈ wsX8_told := by decide +kernel
theorem ly_X8_told_8 : ∀ w ∈ wsX80, w ∈ wsX8_told := by decide +kernel
set_option maxRecDepth 100000 in
set_option maxHeartbeats 4000000 in
theorem k_X8_told (x1 : Int32) (x2 : Int32) (S : gw_S) {zr : Int32} (h : f_X8_told x1 x2 S = some zr) : gw_M l yX8_told wsX8_told rm_X8_told 0 0 D (gw_ty cc) t1 t2 [.ref (a 0), .int x1, .int x2] (gw_cw cc a b d S) (fun w => w = gw_cw cc a b d S) (some (.int zr)) := by
  refine gw_enter (cc := cX8_told) (maxL := 4) (ret := (some .int)) (own := RX8) rfl (by decide) rfl (Nat.le_of_ble_eq_true rfl) ?_
  intro p e s m below meth c A B hin hI ls hl
  have hl : lv_has ls 4 [(0, .ref (a 0)), (1, .int x1), (2, .int x2)] := hl
  generalize ([.ref (a 0), .int x1, .int x2] : List Value).toArray = args at B ⊢
  have hx := B.1.1
  have hb := B.1.2.1
  have hown : s.vm.findClass RX8 = some m.cls := B.1.2.2.2.1
  have hts := B.1.2.2.2.2
  unfold f_X8_told at h
  refine lv_aload_n hx hb dX8_told_0 rfl (lv_at hl 0 rfl) ?_
  refine gw_get (T := TX8) (k := 1) (v := .ref (a 3)) B hI gc_g0 rfl ly_X8_told_8 (by decide) m_X8_told_19 rfl rfl dX8_told_1 ?_
  refine lv_iload_n hx hb dX8_told_4 rfl (lv_at hl 1 rfl) ?_
  obtain ⟨r1, e2, h⟩ := gw_bdE h
  refine gw_callV (As := [.int x1]) (n := 1) B hI (k_X2_pieceAt x1 S e2) gX8_told_X2_pieceAt rfl rfl rfl nd_X2_pieceAt ⟨Nat.le_of_ble_eq_true rfl, Nat.le_of_ble_eq_true rfl⟩ gc_g3 rfl rfl rfl hl.1 (Nat.zero_le _) dX8_told_5 ⟨Nat.le_of_ble_eq_true rfl, Nat.le_of_ble_eq_true rfl⟩ rfl (fun w' H locs hw hI => ?_)
  subst hw
  refine gw_astore_n (lv' := [(3, va_rf (gw_rf b r1)), (0, .ref (a 0)), (1, .int x1), (2, .int x2)]) B dX8_told_8 rfl hl (by decide) rfl (fun ls hl => ?_)
  refine gw_aload_n B dX8_told_9 rfl (lv_at hl 0 rfl) ?_
  refine gw_ifnull (tgt := 23) B dX8_told_10 (by decide) (fun c3 => ?_) (fun c3 => ?_)
  · replace h := gw_ifT c3 h
    refine lv_iconst (v := -1) hx hb dX8_told_23 (by decide) ?_
    rw [← Option.some.inj h]
    exact gw_iret (W' := (fun w => w = gw_cw cc a b d S)) B hI rfl (Nat.zero_le _) (Nat.zero_le _) dX8_told_24
  · replace h := gw_ifF c3 h
    refine lv_iload_n hx hb dX8_told_13 rfl (lv_at hl 3 rfl) ?_
    refine lv_iconst (v := 0) hx hb dX8_told_14 (by decide) ?_
    refine lv_bipush (v := 9) hx hb dX8_told_15 (by decide) ?_
    obtain ⟨r4, e5, h⟩ := gw_bdE h
    refine gw_callS (As := [.int x2, .int (0 : Int32), .int (9 : Int32)]) (n := 3) B hI (k_X8_isIn x2 (0 : Int32) (9 : Int32) S e5) gX8_told_X8_isIn rfl rfl rfl nds_X8_isIn ⟨Nat.le_of_ble_eq_true rfl, Nat.le_of_ble_eq_true rfl⟩ rfl hl.1 (Nat.zero_le _) dX8_told_17 ⟨Nat.le_of_ble_eq_true rfl, Nat.le_of_ble_eq_true rfl⟩ rfl (fun w' H locs hw hI => ?_)
    subst hw
    refine lv_if_ne (tgt := 25) hx hb dX8_told_20 (by decide) (fun c6 => ?_) (fun c6 => ?_)
    · replace h := gw_ifF c6 h
      refine gw_aload_n B dX8_told_25 rfl (lv_at hl 0 rfl) ?_
      refine lv_iload_n hx hb dX8_told_26 rfl (lv_at hl 3 rfl) ?_
      rw [gw_rfP c3]
      obtain ⟨g7, h⟩ := gw_gdE h
      obtain ⟨r8, e9, h⟩ := gw_bdE h
      refine gw_callV (As := [.int x2]) (n := 1) B hI (k_X4_detail r1 x2 S e9) gX8_told_X4_detail rfl rfl rfl nd_X4_detail ⟨Nat.le_of_ble_eq_true rfl, Nat.le_of_ble_eq_true rfl⟩ (gc_gp g7) rfl rfl rfl hl.1 (Nat.zero_le _) dX8_told_27 ⟨Nat.le_of_ble_eq_true rfl, Nat.le_of_ble_eq_true rfl⟩ rfl (fun w' H locs hw hI => ?_)
      subst hw
      rw [← Option.some.inj h]
      exact gw_iret (W' := (fun w => w = gw_cw cc a b d S)) B hI rfl (Nat.zero_le _) (Nat.zero_le _) dX8_told_30
    · replace h := gw_ifT c6 h
      refine lv_iconst (v := -1) hx hb dX8_told_23 (by decide) ?_
      rw [← Option.some.inj h]
      exact gw_iret (W' := (fun w => w = gw_cw cc a b d S)) B hI rfl (Nat.zero_le _) (Nat.zero_le _) dX8_told_24
theorem m_X8_fits_19 : Cond.fieldLink RX8 19 "GownLet" "house" "LGownLet$House;" ∈ wsX8_fits := by decide +kernel
theorem ly_X8_fits_8 : ∀ w ∈ wsX80, w ∈ wsX8_fits := by decide +kernel
set_option maxRecDepth 100000 in
set_option maxHeartbeats 4000000 in
theorem k_X8_fits (x1 : Int32) (x2 : Int32) (x3 : Int32) (S : gw_S) {zr : Int32} (h : f_X8_fits x1 x2 x3 S = some zr) : gw_M l yX8_fits wsX8_fits rm_X8_fits 0 0 D (gw_ty cc) t1 t2 [.ref (a 0), .int x1, .int x2, .int x3] (gw_cw cc a b d S) (fun w => w = gw_cw cc a b d S) (some (.int zr)) := by
  refine gw_enter (cc := cX8_fits) (maxL := 5) (ret := (some .int)) (own := RX8) rfl (by decide) rfl (Nat.le_of_ble_eq_true rfl) ?_
  intro p e s m below meth c A B hin hI ls hl
  have hl : lv_has ls 5 [(0, .ref (a 0)), (1, .int x1), (2, .int x2), (3, .int x3)] := hl
  generalize ([.ref (a 0), .int x1, .int x2, .int x3] : List Value).toArray = args at B ⊢
  have hx := B.1.1
  have hb := B.1.2.1
  have hown : s.vm.findClass RX8 = some m.cls := B.1.2.2.2.1
  have hts := B.1.2.2.2.2
  unfold f_X8_fits at h
  refine lv_aload_n hx hb dX8_fits_0 rfl (lv_at hl 0 rfl) ?_
  refine gw_get (T := TX8) (k := 1) (v := .ref (a 3)) B hI gc_g0 rfl ly_X8_fits_8 (by decide) m_X8_fits_19 rfl rfl dX8_fits_1 ?_
  refine lv_iload_n hx hb dX8_fits_4 rfl (lv_at hl 1 rfl) ?_
  obtain ⟨r1, e2, h⟩ := gw_bdE h
  refine gw_callV (As := [.int x1]) (n := 1) B hI (k_X2_pieceAt x1 S e2) gX8_fits_X2_pieceAt rfl rfl rfl nd_X2_pieceAt ⟨Nat.le_of_ble_eq_true rfl, Nat.le_of_ble_eq_true rfl⟩ gc_g3 rfl rfl rfl hl.1 (Nat.zero_le _) dX8_fits_5 ⟨Nat.le_of_ble_eq_true rfl, Nat.le_of_ble_eq_true rfl⟩ rfl (fun w' H locs hw hI => ?_)
  subst hw
  refine gw_astore (lv' := [(4, va_rf (gw_rf b r1)), (0, .ref (a 0)), (1, .int x1), (2, .int x2), (3, .int x3)]) B dX8_fits_8 hl (by decide) rfl (fun ls hl => ?_)
  refine gw_aload B dX8_fits_10 (lv_at hl 0 rfl) ?_
  refine gw_ifnull (tgt := 31) B dX8_fits_12 (by decide) (fun c3 => ?_) (fun c3 => ?_)
  · replace h := gw_ifT c3 h
    refine lv_iconst (v := -1) hx hb dX8_fits_31 (by decide) ?_
    rw [← Option.some.inj h]
    exact gw_iret (W' := (fun w => w = gw_cw cc a b d S)) B hI rfl (Nat.zero_le _) (Nat.zero_le _) dX8_fits_32
  · replace h := gw_ifF c3 h
    refine lv_iload_n hx hb dX8_fits_15 rfl (lv_at hl 3 rfl) ?_
    obtain ⟨r4, e5, h⟩ := gw_bdE h
    refine gw_callS (As := [.int x2]) (n := 1) B hI (k_X8_isLabel x2 S e5) gX8_fits_X8_isLabel rfl rfl rfl nds_X8_isLabel ⟨Nat.le_of_ble_eq_true rfl, Nat.le_of_ble_eq_true rfl⟩ rfl hl.1 (Nat.zero_le _) dX8_fits_16 ⟨Nat.le_of_ble_eq_true rfl, Nat.le_of_ble_eq_true rfl⟩ rfl (fun w' H locs hw hI => ?_)
    subst hw
    refine lv_if_eq (tgt := 31) hx hb dX8_fits_19 (by decide) (fun c6 => ?_) (fun c6 => ?_)
    · replace h := gw_ifT c6 h
      refine lv_iconst (v := -1) hx hb dX8_fits_31 (by decide) ?_
      rw [← Option.some.inj h]
      exact gw_iret (W' := (fun w => w = gw_cw cc a b d S)) B hI rfl (Nat.zero_le _) (Nat.zero_le _) dX8_fits_32
    · replace h := gw_ifF c6 h
      refine lv_iload_n hx hb dX8_fits_22 rfl (lv_at hl 4 rfl) ?_
      refine lv_iconst (v := 0) hx hb dX8_fits_23 (by decide) ?_
      refine lv_iconst (v := 2) hx hb dX8_fits_24 (by decide) ?_
      obtain ⟨r7, e8, h⟩ := gw_bdE h
      refine gw_callS (As := [.int x3, .int (0 : Int32), .int (2 : Int32)]) (n := 3) B hI (k_X8_isIn x3 (0 : Int32) (2 : Int32) S e8) gX8_fits_X8_isIn rfl rfl rfl nds_X8_isIn ⟨Nat.le_of_ble_eq_true rfl, Nat.le_of_ble_eq_true rfl⟩ rfl hl.1 (Nat.zero_le _) dX8_fits_25 ⟨Nat.le_of_ble_eq_true rfl, Nat.le_of_ble_eq_true rfl⟩ rfl (fun w' H locs hw hI => ?_)
      subst hw
      refine lv_if_ne (tgt := 33) hx hb dX8_fits_28 (by decide) (fun c9 => ?_) (fun c9 => ?_)
      · replace h := gw_ifF c9 h
        refine lv_aload_n hx hb dX8_fits_33 rfl (lv_at hl 1 rfl) ?_
        refine gw_get (T := TX8) (k := 1) (v := .ref (a 3)) B hI gc_g0 rfl ly_X8_fits_8 (by decide) m_X8_fits_19 rfl rfl dX8_fits_34 ?_
        refine gw_aload B dX8_fits_37 (lv_at hl 0 rfl) ?_
        refine lv_iload_n hx hb dX8_fits_39 rfl (lv_at hl 3 rfl) ?_
        refine lv_iload_n hx hb dX8_fits_40 rfl (lv_at hl 4 rfl) ?_
        obtain ⟨r10, e11, h⟩ := gw_bdE h
        refine gw_callV (As := [va_rf (gw_rf b r1), .int x2, .int x3]) (n := 3) B hI (k_X2_fitOf r1 x2 x3 S e11) gX8_fits_X2_fitOf rfl rfl rfl nd_X2_fitOf ⟨Nat.le_of_ble_eq_true rfl, Nat.le_of_ble_eq_true rfl⟩ gc_g3 rfl rfl rfl hl.1 (Nat.zero_le _) dX8_fits_41 ⟨Nat.le_of_ble_eq_true rfl, Nat.le_of_ble_eq_true rfl⟩ rfl (fun w' H locs hw hI => ?_)
        subst hw
        rw [← Option.some.inj h]
        exact gw_iret (W' := (fun w => w = gw_cw cc a b d S)) B hI rfl (Nat.zero_le _) (Nat.zero_le _) dX8_fits_44
      · replace h := gw_ifT c9 h
        refine lv_iconst (v := -1) hx hb dX8_fits_31 (by decide) ?_
        rw [← Option.some.inj h]
        exact gw_iret (W' := (fun w => w = gw_cw cc a b d S)) B hI rfl (Nat.zero_le _) (Nat.zero_le _) dX8_fits_32
set_option maxRecDepth 100000 in
set_option maxHeartbeats 4000000 in
theorem k_X8_isDay (x0 : Int32) (S : gw_S) {zr : Int32} (h : f_X8_isDay x0 S = some zr) : gw_M l yX8_isDay wsX8_isDay rm_X8_isDay 0 0 D (gw_ty cc) t1 t2 [.int x0] (gw_cw cc a b d S) (fun w => w = gw_cw cc a b d S) (some (.int zr)) := by
  refine gw_enter (cc := cX8_isDay) (maxL := 1) (ret := (some .boolean)) (own := RX8) rfl (by decide) rfl (Nat.le_of_ble_eq_true rfl) ?_
  intro p e s m below meth c A B hin hI ls hl
  have hl : lv_has ls 1 [(0, .int x0)] := hl
  generalize ([.int x0] : List Value).toArray = args at B ⊢
  have hx := B.1.1
  have hb := B.1.2.1
  have hown : s.vm.findClass RX8 = some m.cls := B.1.2.2.2.1
  have hts := B.1.2.2.2.2
  unfold f_X8_isDay at h
  refine lv_iload_n hx hb dX8_isDay_0 rfl (lv_at hl 0 rfl) ?_
  refine lv_iconst (v := 0) hx hb dX8_isDay_1 (by decide) ?_
  refine lv_sipush (v := 399) hx hb dX8_isDay_2 (by decide) ?_
  obtain ⟨r1, e2, h⟩ := gw_bdE h
  refine gw_callS (As := [.int x0, .int (0 : Int32), .int (399 : Int32)]) (n := 3) B hI (k_X8_isIn x0 (0 : Int32) (399 : Int32) S e2) gX8_isDay_X8_isIn rfl rfl rfl nds_X8_isIn ⟨Nat.le_of_ble_eq_true rfl, Nat.le_of_ble_eq_true rfl⟩ rfl hl.1 (Nat.zero_le _) dX8_isDay_5 ⟨Nat.le_of_ble_eq_true rfl, Nat.le_of_ble_eq_true rfl⟩ rfl (fun w' H locs hw hI => ?_)
  subst hw
  obtain ⟨g3, h⟩ := gw_gdE h
  rw [← Option.some.inj h]
  exact gw_zret (W' := (fun w => w = gw_cw cc a b d S)) B hI rfl g3 (Nat.zero_le _) (Nat.zero_le _) dX8_isDay_8
set_option maxRecDepth 100000 in
set_option maxHeartbeats 4000000 in
theorem k_X8_isBookingAsTold (x0 : Int32) (x1 : Int32) (x2 : Int32) (x3 : Int32) (x4 : Int32) (x5 : Int32) (S : gw_S) {zr : Int32} (h : f_X8_isBookingAsTold x0 x1 x2 x3 x4 x5 S = some zr) : gw_M l yX8_isBookingAsTold wsX8_isBookingAsTold rm_X8_isBookingAsTold 0 0 D (gw_ty cc) t1 t2 [.int x0, .int x1, .int x2, .int x3, .int x4, .int x5] (gw_cw cc a b d S) (fun w => w = gw_cw cc a b d S) (some (.int zr)) := by
  refine gw_enter (cc := cX8_isBookingAsTold) (maxL := 6) (ret := (some .boolean)) (own := RX8) rfl (by decide) rfl (Nat.le_of_ble_eq_true rfl) ?_
  intro p e s m below meth c A B hin hI ls hl
  have hl : lv_has ls 6 [(0, .int x0), (1, .int x1), (2, .int x2), (3, .int x3), (4, .int x4), (5, .int x5)] := hl
  generalize ([.int x0, .int x1, .int x2, .int x3, .int x4, .int x5] : List Value).toArray = args at B ⊢
  have hx := B.1.1
  have hb := B.1.2.1
  have hown : s.vm.findClass RX8 = some m.cls := B.1.2.2.2.1
  have hts := B.1.2.2.2.2
  unfold f_X8_isBookingAsTold at h
  refine lv_iload_n hx hb dX8_isBookingAsTold_0 rfl (lv_at hl 0 rfl) ?_
  obtain ⟨r1, e2, h⟩ := gw_bdE h
  refine gw_callS (As := [.int x0]) (n := 1) B hI (k_X8_isLabel x0 S e2) gX8_isBookingAsTold_X8_isLabel rfl rfl rfl nds_X8_isLabel ⟨Nat.le_of_ble_eq_true rfl, Nat.le_of_ble_eq_true rfl⟩ rfl hl.1 (Nat.zero_le _) dX8_isBookingAsTold_1 ⟨Nat.le_of_ble_eq_true rfl, Nat.le_of_ble_eq_true rfl⟩ rfl (fun w' H locs hw hI => ?_)
  subst hw
  refine lv_if_eq (tgt := 57) hx hb dX8_isBookingAsTold_4 (by decide) (fun c3 => ?_) (fun c3 => ?_)
  · replace h := gw_ifT c3 h
    refine lv_iconst (v := 0) hx hb dX8_isBookingAsTold_57 (by decide) ?_
    rw [← Option.some.inj h]
    exact gw_zret (W' := (fun w => w = gw_cw cc a b d S)) B hI rfl (Or.inl rfl) (Nat.zero_le _) (Nat.zero_le _) dX8_isBookingAsTold_58
  · replace h := gw_ifF c3 h
    refine lv_iload_n hx hb dX8_isBookingAsTold_7 rfl (lv_at hl 1 rfl) ?_
    refine lv_iconst (v := 0) hx hb dX8_isBookingAsTold_8 (by decide) ?_
    refine lv_iconst (v := 2) hx hb dX8_isBookingAsTold_9 (by decide) ?_
    obtain ⟨r4, e5, h⟩ := gw_bdE h
    refine gw_callS (As := [.int x1, .int (0 : Int32), .int (2 : Int32)]) (n := 3) B hI (k_X8_isIn x1 (0 : Int32) (2 : Int32) S e5) gX8_isBookingAsTold_X8_isIn rfl rfl rfl nds_X8_isIn ⟨Nat.le_of_ble_eq_true rfl, Nat.le_of_ble_eq_true rfl⟩ rfl hl.1 (Nat.zero_le _) dX8_isBookingAsTold_10 ⟨Nat.le_of_ble_eq_true rfl, Nat.le_of_ble_eq_true rfl⟩ rfl (fun w' H locs hw hI => ?_)
    subst hw
    refine lv_if_eq (tgt := 57) hx hb dX8_isBookingAsTold_13 (by decide) (fun c6 => ?_) (fun c6 => ?_)
    · replace h := gw_ifT c6 h
      refine lv_iconst (v := 0) hx hb dX8_isBookingAsTold_57 (by decide) ?_
      rw [← Option.some.inj h]
      exact gw_zret (W' := (fun w => w = gw_cw cc a b d S)) B hI rfl (Or.inl rfl) (Nat.zero_le _) (Nat.zero_le _) dX8_isBookingAsTold_58
    · replace h := gw_ifF c6 h
      refine lv_iload_n hx hb dX8_isBookingAsTold_16 rfl (lv_at hl 2 rfl) ?_
      refine lv_bipush (v := 20) hx hb dX8_isBookingAsTold_17 (by decide) ?_
      refine lv_sipush (v := 380) hx hb dX8_isBookingAsTold_19 (by decide) ?_
      obtain ⟨r7, e8, h⟩ := gw_bdE h
      refine gw_callS (As := [.int x2, .int (20 : Int32), .int (380 : Int32)]) (n := 3) B hI (k_X8_isIn x2 (20 : Int32) (380 : Int32) S e8) gX8_isBookingAsTold_X8_isIn rfl rfl rfl nds_X8_isIn ⟨Nat.le_of_ble_eq_true rfl, Nat.le_of_ble_eq_true rfl⟩ rfl hl.1 (Nat.zero_le _) dX8_isBookingAsTold_22 ⟨Nat.le_of_ble_eq_true rfl, Nat.le_of_ble_eq_true rfl⟩ rfl (fun w' H locs hw hI => ?_)
      subst hw
      refine lv_if_eq (tgt := 57) hx hb dX8_isBookingAsTold_25 (by decide) (fun c9 => ?_) (fun c9 => ?_)
      · replace h := gw_ifT c9 h
        refine lv_iconst (v := 0) hx hb dX8_isBookingAsTold_57 (by decide) ?_
        rw [← Option.some.inj h]
        exact gw_zret (W' := (fun w => w = gw_cw cc a b d S)) B hI rfl (Or.inl rfl) (Nat.zero_le _) (Nat.zero_le _) dX8_isBookingAsTold_58
      · replace h := gw_ifF c9 h
        refine lv_iload_n hx hb dX8_isBookingAsTold_28 rfl (lv_at hl 3 rfl) ?_
        obtain ⟨r10, e11, h⟩ := gw_bdE h
        refine gw_callS (As := [.int x3]) (n := 1) B hI (k_X8_isTown x3 S e11) gX8_isBookingAsTold_X8_isTown rfl rfl rfl nds_X8_isTown ⟨Nat.le_of_ble_eq_true rfl, Nat.le_of_ble_eq_true rfl⟩ rfl hl.1 (Nat.zero_le _) dX8_isBookingAsTold_29 ⟨Nat.le_of_ble_eq_true rfl, Nat.le_of_ble_eq_true rfl⟩ rfl (fun w' H locs hw hI => ?_)
        subst hw
        refine lv_if_eq (tgt := 57) hx hb dX8_isBookingAsTold_32 (by decide) (fun c12 => ?_) (fun c12 => ?_)
        · replace h := gw_ifT c12 h
          refine lv_iconst (v := 0) hx hb dX8_isBookingAsTold_57 (by decide) ?_
          rw [← Option.some.inj h]
          exact gw_zret (W' := (fun w => w = gw_cw cc a b d S)) B hI rfl (Or.inl rfl) (Nat.zero_le _) (Nat.zero_le _) dX8_isBookingAsTold_58
        · replace h := gw_ifF c12 h
          refine lv_iload hx hb dX8_isBookingAsTold_35 (lv_at hl 4 rfl) ?_
          obtain ⟨r13, e14, h⟩ := gw_bdE h
          refine gw_callS (As := [.int x4]) (n := 1) B hI (k_X8_isDay x4 S e14) gX8_isBookingAsTold_X8_isDay rfl rfl rfl nds_X8_isDay ⟨Nat.le_of_ble_eq_true rfl, Nat.le_of_ble_eq_true rfl⟩ rfl hl.1 (Nat.zero_le _) dX8_isBookingAsTold_37 ⟨Nat.le_of_ble_eq_true rfl, Nat.le_of_ble_eq_true rfl⟩ rfl (fun w' H locs hw hI => ?_)
          subst hw
          refine lv_if_eq (tgt := 57) hx hb dX8_isBookingAsTold_40 (by decide) (fun c15 => ?_) (fun c15 => ?_)
          · replace h := gw_ifT c15 h
            refine lv_iconst (v := 0) hx hb dX8_isBookingAsTold_57 (by decide) ?_
            rw [← Option.some.inj h]
            exact gw_zret (W' := (fun w => w = gw_cw cc a b d S)) B hI rfl (Or.inl rfl) (Nat.zero_le _) (Nat.zero_le _) dX8_isBookingAsTold_58
          · replace h := gw_ifF c15 h
            refine lv_iload hx hb dX8_isBookingAsTold_43 (lv_at hl 5 rfl) ?_
            refine lv_iconst (v := -1) hx hb dX8_isBookingAsTold_45 (by decide) ?_
            refine lv_iconst (v := 4) hx hb dX8_isBookingAsTold_46 (by decide) ?_
            obtain ⟨r16, e17, h⟩ := gw_bdE h
            refine gw_callS (As := [.int x5, .int (-1 : Int32), .int (4 : Int32)]) (n := 3) B hI (k_X8_isIn x5 (-1 : Int32) (4 : Int32) S e17) gX8_isBookingAsTold_X8_isIn rfl rfl rfl nds_X8_isIn ⟨Nat.le_of_ble_eq_true rfl, Nat.le_of_ble_eq_true rfl⟩ rfl hl.1 (Nat.zero_le _) dX8_isBookingAsTold_47 ⟨Nat.le_of_ble_eq_true rfl, Nat.le_of_ble_eq_true rfl⟩ rfl (fun w' H locs hw hI => ?_)
            subst hw
            refine lv_if_eq (tgt := 57) hx hb dX8_isBookingAsTold_50 (by decide) (fun c18 => ?_) (fun c18 => ?_)
            · replace h := gw_ifT c18 h
              refine lv_iconst (v := 0) hx hb dX8_isBookingAsTold_57 (by decide) ?_
              rw [← Option.some.inj h]
              exact gw_zret (W' := (fun w => w = gw_cw cc a b d S)) B hI rfl (Or.inl rfl) (Nat.zero_le _) (Nat.zero_le _) dX8_isBookingAsTold_58
            · replace h := gw_ifF c18 h
              refine lv_iconst (v := 1) hx hb dX8_isBookingAsTold_53 (by decide) ?_
              refine lv_goto (tgt := 58) hx hb dX8_isBookingAsTold_54 (by decide) ?_
              rw [← Option.some.inj h]
              exact gw_zret (W' := (fun w => w = gw_cw cc a b d S)) B hI rfl (Or.inr rfl) (Nat.zero_le _) (Nat.zero_le _) dX8_isBookingAsTold_58
theorem m_X8_give_19 : Cond.fieldLink RX8 19 "GownLet" "house" "LGownLet$House;" ∈ wsX8_give := by decide +kernel
theorem ly_X8_give_0 : ∀ w ∈ wsX00, w ∈ wsX8_give := by decide +kernel
theorem ly_X8_give_8 : ∀ w ∈ wsX80, w ∈ wsX8_give := by decide +kernel
set_option maxRecDepth 100000 in
set_option maxHeartbeats 4000000 in
theorem k_X8_give (x1 : Int32) (S : gw_S) {zr : Int32} {zS : gw_S} (h : f_X8_give x1 S = some (zr, zS)) : gw_M l yX8_give wsX8_give rm_X8_give 0 0 D (gw_ty cc) t1 t2 [.ref (a 0), .int x1] (gw_cw cc a b d S) (fun w => w = gw_cw cc a b d zS) (some (.int zr)) := by
  refine gw_enter (cc := cX8_give) (maxL := 3) (ret := (some .int)) (own := RX8) rfl (by decide) rfl (Nat.le_of_ble_eq_true rfl) ?_
  intro p e s m below meth c A B hin hI ls hl
  have hl : lv_has ls 3 [(0, .ref (a 0)), (1, .int x1)] := hl
  generalize ([.ref (a 0), .int x1] : List Value).toArray = args at B ⊢
  have hx := B.1.1
  have hb := B.1.2.1
  have hown : s.vm.findClass RX8 = some m.cls := B.1.2.2.2.1
  have hts := B.1.2.2.2.2
  unfold f_X8_give at h
  refine lv_aload_n hx hb dX8_give_0 rfl (lv_at hl 0 rfl) ?_
  refine gw_get (T := TX8) (k := 1) (v := .ref (a 3)) B hI gc_g0 rfl ly_X8_give_8 (by decide) m_X8_give_19 rfl rfl dX8_give_1 ?_
  refine lv_iload_n hx hb dX8_give_4 rfl (lv_at hl 1 rfl) ?_
  obtain ⟨r1, e2, h⟩ := gw_bdE h
  refine gw_callV (As := [.int x1]) (n := 1) B hI (k_X2_bookingAt x1 S e2) gX8_give_X2_bookingAt rfl rfl rfl nd_X2_bookingAt ⟨Nat.le_of_ble_eq_true rfl, Nat.le_of_ble_eq_true rfl⟩ gc_g3 rfl rfl rfl hl.1 (Nat.zero_le _) dX8_give_5 ⟨Nat.le_of_ble_eq_true rfl, Nat.le_of_ble_eq_true rfl⟩ rfl (fun w' H locs hw hI => ?_)
  subst hw
  refine gw_astore_n (lv' := [(2, va_rf (gw_rf d r1)), (0, .ref (a 0)), (1, .int x1)]) B dX8_give_8 rfl hl (by decide) rfl (fun ls hl => ?_)
  refine gw_aload_n B dX8_give_9 rfl (lv_at hl 0 rfl) ?_
  refine gw_ifnonnull (tgt := 15) B dX8_give_10 (by decide) (fun c3 => ?_) (fun c3 => ?_)
  · replace h := gw_ifF c3 h
    refine gw_aload_n B dX8_give_15 rfl (lv_at hl 0 rfl) ?_
    rw [gw_rfP c3]
    obtain ⟨g4, h⟩ := gw_gdE h
    obtain ⟨r5, e6, h⟩ := gw_bdE h
    refine gw_callV (As := []) (n := 0) B hI (k_X0_waits r1 S e6) gX8_give_X0_waits rfl rfl rfl nd_X0_waits ⟨Nat.le_of_ble_eq_true rfl, Nat.le_of_ble_eq_true rfl⟩ (gc_gb g4) rfl rfl rfl hl.1 (Nat.zero_le _) dX8_give_16 ⟨Nat.le_of_ble_eq_true rfl, Nat.le_of_ble_eq_true rfl⟩ rfl (fun w' H locs hw hI => ?_)
    subst hw
    refine lv_if_ne (tgt := 25) hx hb dX8_give_19 (by decide) (fun c7 => ?_) (fun c7 => ?_)
    · replace h := gw_ifF c7 h
      refine gw_aload_n B dX8_give_25 rfl (lv_at hl 0 rfl) ?_
      refine lv_aload_n hx hb dX8_give_26 rfl (lv_at hl 1 rfl) ?_
      refine gw_get (T := TX8) (k := 1) (v := .ref (a 3)) B hI gc_g0 rfl ly_X8_give_8 (by decide) m_X8_give_19 rfl rfl dX8_give_27 ?_
      refine gw_aload_n B dX8_give_30 rfl (lv_at hl 0 rfl) ?_
      refine lv_iconst (v := -1) hx hb dX8_give_31 (by decide) ?_
      obtain ⟨r8, e9, h⟩ := gw_bdE h
      refine gw_callV (As := [va_rf (gw_rf d r1), .int (-1 : Int32)]) (n := 2) B hI (k_X2_bestFor r1 (-1 : Int32) S e9) gX8_give_X2_bestFor rfl rfl rfl nd_X2_bestFor ⟨Nat.le_of_ble_eq_true rfl, Nat.le_of_ble_eq_true rfl⟩ gc_g3 rfl rfl rfl hl.1 (by simp [gw_catq, gw_cI, gw_cR, gw_cL]) dX8_give_32 ⟨Nat.le_of_ble_eq_true rfl, Nat.le_of_ble_eq_true rfl⟩ rfl (fun w' H locs hw hI => ?_)
      subst hw
      rw [gw_rfP c3]
      obtain ⟨S10, e11, h⟩ := gw_letE h
      refine gw_putN (T := TX0) (k := 8) (w' := gw_cw cc a b d S10) B hI (gc_gb g4) rfl ly_X8_give_0 tyX0 tyX0_ok nmX0 (by decide) n_RX8_178 rfl rfl gw_rn gw_rfit (Nat.le_of_ble_eq_true rfl) (gc_sb_8 g4 e11) dX8_give_35 (fun H locs hI => ?_)
      refine gw_aload_n B dX8_give_38 rfl (lv_at hl 0 rfl) ?_
      rw [gw_rfP c3]
      obtain ⟨g12, h⟩ := gw_gdE h
      obtain ⟨r13, e14, h⟩ := gw_bdE h
      refine gw_callV (As := []) (n := 0) B hI (k_X0_pieceNumber r1 S10 e14) gX8_give_X0_pieceNumber rfl rfl rfl nd_X0_pieceNumber ⟨Nat.le_of_ble_eq_true rfl, Nat.le_of_ble_eq_true rfl⟩ (gc_gb g12) rfl rfl rfl hl.1 (Nat.zero_le _) dX8_give_39 ⟨Nat.le_of_ble_eq_true rfl, Nat.le_of_ble_eq_true rfl⟩ rfl (fun w' H locs hw hI => ?_)
      subst hw
      obtain ⟨h1, h2⟩ := Prod.mk.inj (Option.some.inj h)
      rw [h2] at hI
      rw [← h1]
      exact gw_iret (W' := (fun w => w = gw_cw cc a b d zS)) B hI rfl (Nat.zero_le _) (Nat.zero_le _) dX8_give_42
    · replace h := gw_ifT c7 h
      refine lv_bipush (v := -2) hx hb dX8_give_22 (by decide) ?_
      obtain ⟨h1, h2⟩ := Prod.mk.inj (Option.some.inj h)
      rw [h2] at hI
      rw [← h1]
      exact gw_iret (W' := (fun w => w = gw_cw cc a b d zS)) B hI rfl (Nat.zero_le _) (Nat.zero_le _) dX8_give_24
  · replace h := gw_ifT c3 h
    refine lv_iconst (v := -1) hx hb dX8_give_13 (by decide) ?_
    obtain ⟨h1, h2⟩ := Prod.mk.inj (Option.some.inj h)
    rw [h2] at hI
    rw [← h1]
    exact gw_iret (W' := (fun w => w = gw_cw cc a b d zS)) B hI rfl (Nat.zero_le _) (Nat.zero_le _) dX8_give_14
theorem m_X8_has_19 : Cond.fieldLink RX8 19 "GownLet" "house" "LGownLet$House;" ∈ wsX8_has := by decide +kernel
theorem ly_X8_has_8 : ∀ w ∈ wsX80, w ∈ wsX8_has := by decide +kernel
set_option maxRecDepth 100000 in
set_option maxHeartbeats 4000000 in
theorem k_X8_has (x1 : Int32) (S : gw_S) {zr : Int32} (h : f_X8_has x1 S = some zr) : gw_M l yX8_has wsX8_has rm_X8_has 0 0 D (gw_ty cc) t1 t2 [.ref (a 0), .int x1] (gw_cw cc a b d S) (fun w => w = gw_cw cc a b d S) (some (.int zr)) := by
  refine gw_enter (cc := cX8_has) (maxL := 3) (ret := (some .int)) (own := RX8) rfl (by decide) rfl (Nat.le_of_ble_eq_true rfl) ?_
  intro p e s m below meth c A B hin hI ls hl
  have hl : lv_has ls 3 [(0, .ref (a 0)), (1, .int x1)] := hl
  generalize ([.ref (a 0), .int x1] : List Value).toArray = args at B ⊢
  have hx := B.1.1
  have hb := B.1.2.1
  have hown : s.vm.findClass RX8 = some m.cls := B.1.2.2.2.1
  have hts := B.1.2.2.2.2
  unfold f_X8_has at h
  refine lv_aload_n hx hb dX8_has_0 rfl (lv_at hl 0 rfl) ?_
  refine gw_get (T := TX8) (k := 1) (v := .ref (a 3)) B hI gc_g0 rfl ly_X8_has_8 (by decide) m_X8_has_19 rfl rfl dX8_has_1 ?_
  refine lv_iload_n hx hb dX8_has_4 rfl (lv_at hl 1 rfl) ?_
  obtain ⟨r1, e2, h⟩ := gw_bdE h
  refine gw_callV (As := [.int x1]) (n := 1) B hI (k_X2_bookingAt x1 S e2) gX8_has_X2_bookingAt rfl rfl rfl nd_X2_bookingAt ⟨Nat.le_of_ble_eq_true rfl, Nat.le_of_ble_eq_true rfl⟩ gc_g3 rfl rfl rfl hl.1 (Nat.zero_le _) dX8_has_5 ⟨Nat.le_of_ble_eq_true rfl, Nat.le_of_ble_eq_true rfl⟩ rfl (fun w' H locs hw hI => ?_)
  subst hw
  refine gw_astore_n (lv' := [(2, va_rf (gw_rf d r1)), (0, .ref (a 0)), (1, .int x1)]) B dX8_has_8 rfl hl (by decide) rfl (fun ls hl => ?_)
  refine gw_aload_n B dX8_has_9 rfl (lv_at hl 0 rfl) ?_
  refine gw_ifnonnull (tgt := 17) B dX8_has_10 (by decide) (fun c3 => ?_) (fun c3 => ?_)
  · replace h := gw_ifF c3 h
    refine gw_aload_n B dX8_has_17 rfl (lv_at hl 0 rfl) ?_
    rw [gw_rfP c3]
    obtain ⟨g4, h⟩ := gw_gdE h
    obtain ⟨r5, e6, h⟩ := gw_bdE h
    refine gw_callV (As := []) (n := 0) B hI (k_X0_pieceNumber r1 S e6) gX8_has_X0_pieceNumber rfl rfl rfl nd_X0_pieceNumber ⟨Nat.le_of_ble_eq_true rfl, Nat.le_of_ble_eq_true rfl⟩ (gc_gb g4) rfl rfl rfl hl.1 (Nat.zero_le _) dX8_has_18 ⟨Nat.le_of_ble_eq_true rfl, Nat.le_of_ble_eq_true rfl⟩ rfl (fun w' H locs hw hI => ?_)
    subst hw
    rw [← Option.some.inj h]
    exact gw_iret (W' := (fun w => w = gw_cw cc a b d S)) B hI rfl (Nat.zero_le _) (Nat.zero_le _) dX8_has_21
  · replace h := gw_ifT c3 h
    refine lv_iconst (v := -1) hx hb dX8_has_13 (by decide) ?_
    refine lv_goto (tgt := 21) hx hb dX8_has_14 (by decide) ?_
    rw [← Option.some.inj h]
    exact gw_iret (W' := (fun w => w = gw_cw cc a b d S)) B hI rfl (Nat.zero_le _) (Nat.zero_le _) dX8_has_21
theorem m_X8_free_19 : Cond.fieldLink RX8 19 "GownLet" "house" "LGownLet$House;" ∈ wsX8_free := by decide +kernel
theorem ly_X8_free_8 : ∀ w ∈ wsX80, w ∈ wsX8_free := by decide +kernel
set_option maxRecDepth 100000 in
set_option maxHeartbeats 4000000 in
theorem k_X8_free (x1 : Int32) (x2 : Int32) (S : gw_S) {zr : Int32} (h : f_X8_free x1 x2 S = some zr) : gw_M l yX8_free wsX8_free rm_X8_free 0 0 D (gw_ty cc) t1 t2 [.ref (a 0), .int x1, .int x2] (gw_cw cc a b d S) (fun w => w = gw_cw cc a b d S) (some (.int zr)) := by
  refine gw_enter (cc := cX8_free) (maxL := 5) (ret := (some .int)) (own := RX8) rfl (by decide) rfl (Nat.le_of_ble_eq_true rfl) ?_
  intro p e s m below meth c A B hin hI ls hl
  have hl : lv_has ls 5 [(0, .ref (a 0)), (1, .int x1), (2, .int x2)] := hl
  generalize ([.ref (a 0), .int x1, .int x2] : List Value).toArray = args at B ⊢
  have hx := B.1.1
  have hb := B.1.2.1
  have hown : s.vm.findClass RX8 = some m.cls := B.1.2.2.2.1
  have hts := B.1.2.2.2.2
  unfold f_X8_free at h
  refine lv_aload_n hx hb dX8_free_0 rfl (lv_at hl 0 rfl) ?_
  refine gw_get (T := TX8) (k := 1) (v := .ref (a 3)) B hI gc_g0 rfl ly_X8_free_8 (by decide) m_X8_free_19 rfl rfl dX8_free_1 ?_
  refine lv_iload_n hx hb dX8_free_4 rfl (lv_at hl 1 rfl) ?_
  obtain ⟨r1, e2, h⟩ := gw_bdE h
  refine gw_callV (As := [.int x1]) (n := 1) B hI (k_X2_pieceAt x1 S e2) gX8_free_X2_pieceAt rfl rfl rfl nd_X2_pieceAt ⟨Nat.le_of_ble_eq_true rfl, Nat.le_of_ble_eq_true rfl⟩ gc_g3 rfl rfl rfl hl.1 (Nat.zero_le _) dX8_free_5 ⟨Nat.le_of_ble_eq_true rfl, Nat.le_of_ble_eq_true rfl⟩ rfl (fun w' H locs hw hI => ?_)
  subst hw
  refine gw_astore_n (lv' := [(3, va_rf (gw_rf b r1)), (0, .ref (a 0)), (1, .int x1), (2, .int x2)]) B dX8_free_8 rfl hl (by decide) rfl (fun ls hl => ?_)
  refine lv_aload_n hx hb dX8_free_9 rfl (lv_at hl 1 rfl) ?_
  refine gw_get (T := TX8) (k := 1) (v := .ref (a 3)) B hI gc_g0 rfl ly_X8_free_8 (by decide) m_X8_free_19 rfl rfl dX8_free_10 ?_
  refine lv_iload_n hx hb dX8_free_13 rfl (lv_at hl 3 rfl) ?_
  obtain ⟨r3, e4, h⟩ := gw_bdE h
  refine gw_callV (As := [.int x2]) (n := 1) B hI (k_X2_bookingAt x2 S e4) gX8_free_X2_bookingAt rfl rfl rfl nd_X2_bookingAt ⟨Nat.le_of_ble_eq_true rfl, Nat.le_of_ble_eq_true rfl⟩ gc_g3 rfl rfl rfl hl.1 (Nat.zero_le _) dX8_free_14 ⟨Nat.le_of_ble_eq_true rfl, Nat.le_of_ble_eq_true rfl⟩ rfl (fun w' H locs hw hI => ?_)
  subst hw
  refine gw_astore (i := 4) (lv' := [(4, va_rf (gw_rf d r3)), (3, va_rf (gw_rf b r1)), (0, .ref (a 0)), (1, .int x1), (2, .int x2)]) B dX8_free_17 hl (by decide) (by simp [gw_catq, gw_cI, gw_cR, gw_cL]) (fun ls hl => ?_)
  refine gw_aload_n B dX8_free_19 rfl (lv_at hl 1 rfl) ?_
  refine gw_ifnull (tgt := 28) B dX8_free_20 (by decide) (fun c5 => ?_) (fun c5 => ?_)
  · replace h := gw_ifT c5 h
    refine lv_iconst (v := -1) hx hb dX8_free_28 (by decide) ?_
    rw [← Option.some.inj h]
    exact gw_iret (W' := (fun w => w = gw_cw cc a b d S)) B hI rfl (Nat.zero_le _) (Nat.zero_le _) dX8_free_29
  · replace h := gw_ifF c5 h
    refine gw_aload B dX8_free_23 (lv_at hl 0 rfl) ?_
    refine gw_ifnonnull (tgt := 30) B dX8_free_25 (by decide) (fun c6 => ?_) (fun c6 => ?_)
    · replace h := gw_ifF c6 h
      refine lv_aload_n hx hb dX8_free_30 rfl (lv_at hl 2 rfl) ?_
      refine gw_get (T := TX8) (k := 1) (v := .ref (a 3)) B hI gc_g0 rfl ly_X8_free_8 (by decide) m_X8_free_19 rfl rfl dX8_free_31 ?_
      refine gw_aload_n B dX8_free_34 rfl (lv_at hl 1 rfl) ?_
      refine gw_aload B dX8_free_35 (lv_at hl 0 rfl) ?_
      obtain ⟨r7, e8, h⟩ := gw_bdE h
      refine gw_callV (As := [va_rf (gw_rf b r1), va_rf (gw_rf d r3)]) (n := 2) B hI (k_X2_isFree r1 r3 S e8) gX8_free_X2_isFree rfl rfl rfl nd_X2_isFree ⟨Nat.le_of_ble_eq_true rfl, Nat.le_of_ble_eq_true rfl⟩ gc_g3 rfl rfl rfl hl.1 (Nat.zero_le _) dX8_free_37 ⟨Nat.le_of_ble_eq_true rfl, Nat.le_of_ble_eq_true rfl⟩ rfl (fun w' H locs hw hI => ?_)
      subst hw
      refine lv_if_eq (tgt := 47) hx hb dX8_free_40 (by decide) (fun c9 => ?_) (fun c9 => ?_)
      · replace h := gw_ifT c9 h
        refine lv_iconst (v := 0) hx hb dX8_free_47 (by decide) ?_
        rw [← Option.some.inj h]
        exact gw_iret (W' := (fun w => w = gw_cw cc a b d S)) B hI rfl (Nat.zero_le _) (Nat.zero_le _) dX8_free_48
      · replace h := gw_ifF c9 h
        refine lv_iconst (v := 1) hx hb dX8_free_43 (by decide) ?_
        refine lv_goto (tgt := 48) hx hb dX8_free_44 (by decide) ?_
        rw [← Option.some.inj h]
        exact gw_iret (W' := (fun w => w = gw_cw cc a b d S)) B hI rfl (Nat.zero_le _) (Nat.zero_le _) dX8_free_48
    · replace h := gw_ifT c6 h
      refine lv_iconst (v := -1) hx hb dX8_free_28 (by decide) ?_
      rw [← Option.some.inj h]
      exact gw_iret (W' := (fun w => w = gw_cw cc a b d S)) B hI rfl (Nat.zero_le _) (Nat.zero_le _) dX8_free_29
theorem m_X8_away_19 : Cond.fieldLink RX8 19 "GownLet" "house" "LGownLet$House;" ∈ wsX8_away := by decide +kernel
theorem ly_X8_away_8 : ∀ w ∈ wsX80, w ∈ wsX8_away := by decide +kernel
set_option maxRecDepth 100000 in
set_option maxHeartbeats 4000000 in
theorem k_X8_away (x1 : Int32) (x2 : Int32) (x3 : Int32) (S : gw_S) {zr : Int32} (h : f_X8_away x1 x2 x3 S = some zr) : gw_M l yX8_away wsX8_away rm_X8_away 0 0 D (gw_ty cc) t1 t2 [.ref (a 0), .int x1, .int x2, .int x3] (gw_cw cc a b d S) (fun w => w = gw_cw cc a b d S) (some (.int zr)) := by
  refine gw_enter (cc := cX8_away) (maxL := 6) (ret := (some .int)) (own := RX8) rfl (by decide) rfl (Nat.le_of_ble_eq_true rfl) ?_
  intro p e s m below meth c A B hin hI ls hl
  have hl : lv_has ls 6 [(0, .ref (a 0)), (1, .int x1), (2, .int x2), (3, .int x3)] := hl
  generalize ([.ref (a 0), .int x1, .int x2, .int x3] : List Value).toArray = args at B ⊢
  have hx := B.1.1
  have hb := B.1.2.1
  have hown : s.vm.findClass RX8 = some m.cls := B.1.2.2.2.1
  have hts := B.1.2.2.2.2
  unfold f_X8_away at h
  refine lv_aload_n hx hb dX8_away_0 rfl (lv_at hl 0 rfl) ?_
  refine gw_get (T := TX8) (k := 1) (v := .ref (a 3)) B hI gc_g0 rfl ly_X8_away_8 (by decide) m_X8_away_19 rfl rfl dX8_away_1 ?_
  refine lv_iload_n hx hb dX8_away_4 rfl (lv_at hl 1 rfl) ?_
  obtain ⟨r1, e2, h⟩ := gw_bdE h
  refine gw_callV (As := [.int x1]) (n := 1) B hI (k_X2_pieceAt x1 S e2) gX8_away_X2_pieceAt rfl rfl rfl nd_X2_pieceAt ⟨Nat.le_of_ble_eq_true rfl, Nat.le_of_ble_eq_true rfl⟩ gc_g3 rfl rfl rfl hl.1 (Nat.zero_le _) dX8_away_5 ⟨Nat.le_of_ble_eq_true rfl, Nat.le_of_ble_eq_true rfl⟩ rfl (fun w' H locs hw hI => ?_)
  subst hw
  refine gw_astore (lv' := [(4, va_rf (gw_rf b r1)), (0, .ref (a 0)), (1, .int x1), (2, .int x2), (3, .int x3)]) B dX8_away_8 hl (by decide) rfl (fun ls hl => ?_)
  refine lv_aload_n hx hb dX8_away_10 rfl (lv_at hl 1 rfl) ?_
  refine gw_get (T := TX8) (k := 1) (v := .ref (a 3)) B hI gc_g0 rfl ly_X8_away_8 (by decide) m_X8_away_19 rfl rfl dX8_away_11 ?_
  refine lv_iload_n hx hb dX8_away_14 rfl (lv_at hl 3 rfl) ?_
  obtain ⟨r3, e4, h⟩ := gw_bdE h
  refine gw_callV (As := [.int x2]) (n := 1) B hI (k_X2_bookingAt x2 S e4) gX8_away_X2_bookingAt rfl rfl rfl nd_X2_bookingAt ⟨Nat.le_of_ble_eq_true rfl, Nat.le_of_ble_eq_true rfl⟩ gc_g3 rfl rfl rfl hl.1 (Nat.zero_le _) dX8_away_15 ⟨Nat.le_of_ble_eq_true rfl, Nat.le_of_ble_eq_true rfl⟩ rfl (fun w' H locs hw hI => ?_)
  subst hw
  refine gw_astore (i := 5) (lv' := [(5, va_rf (gw_rf d r3)), (4, va_rf (gw_rf b r1)), (0, .ref (a 0)), (1, .int x1), (2, .int x2), (3, .int x3)]) B dX8_away_18 hl (by decide) (by simp [gw_catq, gw_cI, gw_cR, gw_cL]) (fun ls hl => ?_)
  refine gw_aload B dX8_away_20 (lv_at hl 1 rfl) ?_
  refine gw_ifnull (tgt := 39) B dX8_away_22 (by decide) (fun c5 => ?_) (fun c5 => ?_)
  · replace h := gw_ifT c5 h
    refine lv_iconst (v := -1) hx hb dX8_away_39 (by decide) ?_
    rw [← Option.some.inj h]
    exact gw_iret (W' := (fun w => w = gw_cw cc a b d S)) B hI rfl (Nat.zero_le _) (Nat.zero_le _) dX8_away_40
  · replace h := gw_ifF c5 h
    refine gw_aload B dX8_away_25 (lv_at hl 0 rfl) ?_
    refine gw_ifnull (tgt := 39) B dX8_away_27 (by decide) (fun c6 => ?_) (fun c6 => ?_)
    · replace h := gw_ifT c6 h
      refine lv_iconst (v := -1) hx hb dX8_away_39 (by decide) ?_
      rw [← Option.some.inj h]
      exact gw_iret (W' := (fun w => w = gw_cw cc a b d S)) B hI rfl (Nat.zero_le _) (Nat.zero_le _) dX8_away_40
    · replace h := gw_ifF c6 h
      refine lv_iload_n hx hb dX8_away_30 rfl (lv_at hl 5 rfl) ?_
      refine lv_iconst (v := 0) hx hb dX8_away_31 (by decide) ?_
      refine lv_iconst (v := 1) hx hb dX8_away_32 (by decide) ?_
      obtain ⟨r7, e8, h⟩ := gw_bdE h
      refine gw_callS (As := [.int x3, .int (0 : Int32), .int (1 : Int32)]) (n := 3) B hI (k_X8_isIn x3 (0 : Int32) (1 : Int32) S e8) gX8_away_X8_isIn rfl rfl rfl nds_X8_isIn ⟨Nat.le_of_ble_eq_true rfl, Nat.le_of_ble_eq_true rfl⟩ rfl hl.1 (Nat.zero_le _) dX8_away_33 ⟨Nat.le_of_ble_eq_true rfl, Nat.le_of_ble_eq_true rfl⟩ rfl (fun w' H locs hw hI => ?_)
      subst hw
      refine lv_if_ne (tgt := 41) hx hb dX8_away_36 (by decide) (fun c9 => ?_) (fun c9 => ?_)
      · replace h := gw_ifF c9 h
        refine lv_iload_n hx hb dX8_away_41 rfl (lv_at hl 5 rfl) ?_
        refine lv_if_ne (tgt := 59) hx hb dX8_away_42 (by decide) (fun c10 => ?_) (fun c10 => ?_)
        · replace h := gw_ifF c10 h
          refine lv_aload_n hx hb dX8_away_59 rfl (lv_at hl 2 rfl) ?_
          refine gw_get (T := TX8) (k := 1) (v := .ref (a 3)) B hI gc_g0 rfl ly_X8_away_8 (by decide) m_X8_away_19 rfl rfl dX8_away_60 ?_
          refine gw_aload B dX8_away_63 (lv_at hl 1 rfl) ?_
          refine gw_aload B dX8_away_65 (lv_at hl 0 rfl) ?_
          obtain ⟨r11, e12, h⟩ := gw_bdE h
          refine gw_callV (As := [va_rf (gw_rf b r1), va_rf (gw_rf d r3)]) (n := 2) B hI (k_X2_lastAway r1 r3 S e12) gX8_away_X2_lastAway rfl rfl rfl nd_X2_lastAway ⟨Nat.le_of_ble_eq_true rfl, Nat.le_of_ble_eq_true rfl⟩ gc_g3 rfl rfl rfl hl.1 (Nat.zero_le _) dX8_away_67 ⟨Nat.le_of_ble_eq_true rfl, Nat.le_of_ble_eq_true rfl⟩ rfl (fun w' H locs hw hI => ?_)
          subst hw
          rw [← Option.some.inj h]
          exact gw_iret (W' := (fun w => w = gw_cw cc a b d S)) B hI rfl (Nat.zero_le _) (Nat.zero_le _) dX8_away_70
        · replace h := gw_ifT c10 h
          refine lv_aload_n hx hb dX8_away_45 rfl (lv_at hl 2 rfl) ?_
          refine gw_get (T := TX8) (k := 1) (v := .ref (a 3)) B hI gc_g0 rfl ly_X8_away_8 (by decide) m_X8_away_19 rfl rfl dX8_away_46 ?_
          refine gw_aload B dX8_away_49 (lv_at hl 1 rfl) ?_
          refine gw_aload B dX8_away_51 (lv_at hl 0 rfl) ?_
          obtain ⟨r13, e14, h⟩ := gw_bdE h
          refine gw_callV (As := [va_rf (gw_rf b r1), va_rf (gw_rf d r3)]) (n := 2) B hI (k_X2_firstAway r1 r3 S e14) gX8_away_X2_firstAway rfl rfl rfl nd_X2_firstAway ⟨Nat.le_of_ble_eq_true rfl, Nat.le_of_ble_eq_true rfl⟩ gc_g3 rfl rfl rfl hl.1 (Nat.zero_le _) dX8_away_53 ⟨Nat.le_of_ble_eq_true rfl, Nat.le_of_ble_eq_true rfl⟩ rfl (fun w' H locs hw hI => ?_)
          subst hw
          refine lv_goto (tgt := 70) hx hb dX8_away_56 (by decide) ?_
          rw [← Option.some.inj h]
          exact gw_iret (W' := (fun w => w = gw_cw cc a b d S)) B hI rfl (Nat.zero_le _) (Nat.zero_le _) dX8_away_70
      · replace h := gw_ifT c9 h
        refine lv_iconst (v := -1) hx hb dX8_away_39 (by decide) ?_
        rw [← Option.some.inj h]
        exact gw_iret (W' := (fun w => w = gw_cw cc a b d S)) B hI rfl (Nat.zero_le _) (Nat.zero_le _) dX8_away_40
theorem m_X8_tear_19 : Cond.fieldLink RX8 19 "GownLet" "house" "LGownLet$House;" ∈ wsX8_tear := by decide +kernel
theorem ly_X8_tear_4 : ∀ w ∈ wsX40, w ∈ wsX8_tear := by decide +kernel
theorem ly_X8_tear_8 : ∀ w ∈ wsX80, w ∈ wsX8_tear := by decide +kernel
set_option maxRecDepth 100000 in
set_option maxHeartbeats 4000000 in
theorem k_X8_tear (x1 : Int32) (x2 : Int32) (S : gw_S) {zr : Int32} {zS : gw_S} (h : f_X8_tear x1 x2 S = some (zr, zS)) : gw_M l yX8_tear wsX8_tear rm_X8_tear 0 0 D (gw_ty cc) t1 t2 [.ref (a 0), .int x1, .int x2] (gw_cw cc a b d S) (fun w => w = gw_cw cc a b d zS) (some (.int zr)) := by
  refine gw_enter (cc := cX8_tear) (maxL := 4) (ret := (some .int)) (own := RX8) rfl (by decide) rfl (Nat.le_of_ble_eq_true rfl) ?_
  intro p e s m below meth c A B hin hI ls hl
  have hl : lv_has ls 4 [(0, .ref (a 0)), (1, .int x1), (2, .int x2)] := hl
  generalize ([.ref (a 0), .int x1, .int x2] : List Value).toArray = args at B ⊢
  have hx := B.1.1
  have hb := B.1.2.1
  have hown : s.vm.findClass RX8 = some m.cls := B.1.2.2.2.1
  have hts := B.1.2.2.2.2
  unfold f_X8_tear at h
  refine lv_aload_n hx hb dX8_tear_0 rfl (lv_at hl 0 rfl) ?_
  refine gw_get (T := TX8) (k := 1) (v := .ref (a 3)) B hI gc_g0 rfl ly_X8_tear_8 (by decide) m_X8_tear_19 rfl rfl dX8_tear_1 ?_
  refine lv_iload_n hx hb dX8_tear_4 rfl (lv_at hl 1 rfl) ?_
  obtain ⟨r1, e2, h⟩ := gw_bdE h
  refine gw_callV (As := [.int x1]) (n := 1) B hI (k_X2_pieceAt x1 S e2) gX8_tear_X2_pieceAt rfl rfl rfl nd_X2_pieceAt ⟨Nat.le_of_ble_eq_true rfl, Nat.le_of_ble_eq_true rfl⟩ gc_g3 rfl rfl rfl hl.1 (Nat.zero_le _) dX8_tear_5 ⟨Nat.le_of_ble_eq_true rfl, Nat.le_of_ble_eq_true rfl⟩ rfl (fun w' H locs hw hI => ?_)
  subst hw
  refine gw_astore_n (lv' := [(3, va_rf (gw_rf b r1)), (0, .ref (a 0)), (1, .int x1), (2, .int x2)]) B dX8_tear_8 rfl hl (by decide) rfl (fun ls hl => ?_)
  refine gw_aload_n B dX8_tear_9 rfl (lv_at hl 0 rfl) ?_
  refine gw_ifnull (tgt := 20) B dX8_tear_10 (by decide) (fun c3 => ?_) (fun c3 => ?_)
  · replace h := gw_ifT c3 h
    refine lv_iconst (v := -1) hx hb dX8_tear_20 (by decide) ?_
    obtain ⟨h1, h2⟩ := Prod.mk.inj (Option.some.inj h)
    rw [h2] at hI
    rw [← h1]
    exact gw_iret (W' := (fun w => w = gw_cw cc a b d zS)) B hI rfl (Nat.zero_le _) (Nat.zero_le _) dX8_tear_21
  · replace h := gw_ifF c3 h
    refine lv_iload_n hx hb dX8_tear_13 rfl (lv_at hl 3 rfl) ?_
    obtain ⟨r4, e5, h⟩ := gw_bdE h
    refine gw_callS (As := [.int x2]) (n := 1) B hI (k_X8_isDay x2 S e5) gX8_tear_X8_isDay rfl rfl rfl nds_X8_isDay ⟨Nat.le_of_ble_eq_true rfl, Nat.le_of_ble_eq_true rfl⟩ rfl hl.1 (Nat.zero_le _) dX8_tear_14 ⟨Nat.le_of_ble_eq_true rfl, Nat.le_of_ble_eq_true rfl⟩ rfl (fun w' H locs hw hI => ?_)
    subst hw
    refine lv_if_ne (tgt := 22) hx hb dX8_tear_17 (by decide) (fun c6 => ?_) (fun c6 => ?_)
    · replace h := gw_ifF c6 h
      refine gw_aload_n B dX8_tear_22 rfl (lv_at hl 0 rfl) ?_
      refine lv_iload_n hx hb dX8_tear_23 rfl (lv_at hl 3 rfl) ?_
      rw [gw_rfP c3]
      obtain ⟨g7, h⟩ := gw_gdE h
      obtain ⟨r8, e9, h⟩ := gw_bdE h
      refine gw_callV (As := [.int x2]) (n := 1) B hI (k_X4_isTornBy r1 x2 S e9) gX8_tear_X4_isTornBy rfl rfl rfl nd_X4_isTornBy ⟨Nat.le_of_ble_eq_true rfl, Nat.le_of_ble_eq_true rfl⟩ (gc_gp g7) rfl rfl rfl hl.1 (Nat.zero_le _) dX8_tear_24 ⟨Nat.le_of_ble_eq_true rfl, Nat.le_of_ble_eq_true rfl⟩ rfl (fun w' H locs hw hI => ?_)
      subst hw
      refine lv_if_eq (tgt := 33) hx hb dX8_tear_27 (by decide) (fun c10 => ?_) (fun c10 => ?_)
      · replace h := gw_ifT c10 h
        refine gw_aload_n B dX8_tear_33 rfl (lv_at hl 0 rfl) ?_
        refine lv_iload_n hx hb dX8_tear_34 rfl (lv_at hl 3 rfl) ?_
        rw [gw_rfP c3]
        obtain ⟨S11, e12, h⟩ := gw_letE h
        refine gw_putN (T := TX4) (k := 10) (w' := gw_cw cc a b d S11) B hI (gc_gp g7) rfl ly_X8_tear_4 tyX4 tyX4_ok nmX4 (by decide) n_RX8_207 rfl rfl rfl rfl (Nat.le_of_ble_eq_true rfl) (gc_sp_10 g7 e12) dX8_tear_35 (fun H locs hI => ?_)
        refine lv_aload_n hx hb dX8_tear_38 rfl (lv_at hl 1 rfl) ?_
        refine gw_get (T := TX8) (k := 1) (v := .ref (a 3)) B hI gc_g0 rfl ly_X8_tear_8 (by decide) m_X8_tear_19 rfl rfl dX8_tear_39 ?_
        refine gw_aload_n B dX8_tear_42 rfl (lv_at hl 0 rfl) ?_
        refine lv_iload_n hx hb dX8_tear_43 rfl (lv_at hl 3 rfl) ?_
        obtain ⟨r13, S14, e15, h⟩ := gw_b2E h
        refine gw_callV (As := [va_rf (gw_rf b r1), .int x2]) (n := 2) B hI (k_X2_takeFromNights r1 x2 S11 e15) gX8_tear_X2_takeFromNights rfl rfl rfl nd_X2_takeFromNights ⟨Nat.le_of_ble_eq_true rfl, Nat.le_of_ble_eq_true rfl⟩ gc_g3 rfl rfl rfl hl.1 (Nat.zero_le _) dX8_tear_44 ⟨Nat.le_of_ble_eq_true rfl, Nat.le_of_ble_eq_true rfl⟩ rfl (fun w' H locs hw hI => ?_)
        subst hw
        obtain ⟨h1, h2⟩ := Prod.mk.inj (Option.some.inj h)
        rw [h2] at hI
        rw [← h1]
        exact gw_iret (W' := (fun w => w = gw_cw cc a b d zS)) B hI rfl (Nat.zero_le _) (Nat.zero_le _) dX8_tear_47
      · replace h := gw_ifF c10 h
        refine lv_bipush (v := -2) hx hb dX8_tear_30 (by decide) ?_
        obtain ⟨h1, h2⟩ := Prod.mk.inj (Option.some.inj h)
        rw [h2] at hI
        rw [← h1]
        exact gw_iret (W' := (fun w => w = gw_cw cc a b d zS)) B hI rfl (Nat.zero_le _) (Nat.zero_le _) dX8_tear_32
    · replace h := gw_ifT c6 h
      refine lv_iconst (v := -1) hx hb dX8_tear_20 (by decide) ?_
      obtain ⟨h1, h2⟩ := Prod.mk.inj (Option.some.inj h)
      rw [h2] at hI
      rw [← h1]
      exact gw_iret (W' := (fun w => w = gw_cw cc a b d zS)) B hI rfl (Nat.zero_le _) (Nat.zero_le _) dX8_tear_21
theorem m_X8_mend_19 : Cond.fieldLink RX8 19 "GownLet" "house" "LGownLet$House;" ∈ wsX8_mend := by decide +kernel
theorem ly_X8_mend_4 : ∀ w ∈ wsX40, w ∈ wsX8_mend := by decide +kernel
theorem ly_X8_mend_8 : ∀ w ∈ wsX80, w ∈ wsX8_mend := by decide +kernel
set_option maxRecDepth 100000 in
set_option maxHeartbeats 4000000 in
theorem k_X8_mend (x1 : Int32) (S : gw_S) {zr : Int32} {zS : gw_S} (h : f_X8_mend x1 S = some (zr, zS)) : gw_M l yX8_mend wsX8_mend rm_X8_mend 0 0 D (gw_ty cc) t1 t2 [.ref (a 0), .int x1] (gw_cw cc a b d S) (fun w => w = gw_cw cc a b d zS) (some (.int zr)) := by
  refine gw_enter (cc := cX8_mend) (maxL := 3) (ret := (some .int)) (own := RX8) rfl (by decide) rfl (Nat.le_of_ble_eq_true rfl) ?_
  intro p e s m below meth c A B hin hI ls hl
  have hl : lv_has ls 3 [(0, .ref (a 0)), (1, .int x1)] := hl
  generalize ([.ref (a 0), .int x1] : List Value).toArray = args at B ⊢
  have hx := B.1.1
  have hb := B.1.2.1
  have hown : s.vm.findClass RX8 = some m.cls := B.1.2.2.2.1
  have hts := B.1.2.2.2.2
  unfold f_X8_mend at h
  refine lv_aload_n hx hb dX8_mend_0 rfl (lv_at hl 0 rfl) ?_
  refine gw_get (T := TX8) (k := 1) (v := .ref (a 3)) B hI gc_g0 rfl ly_X8_mend_8 (by decide) m_X8_mend_19 rfl rfl dX8_mend_1 ?_
  refine lv_iload_n hx hb dX8_mend_4 rfl (lv_at hl 1 rfl) ?_
  obtain ⟨r1, e2, h⟩ := gw_bdE h
  refine gw_callV (As := [.int x1]) (n := 1) B hI (k_X2_pieceAt x1 S e2) gX8_mend_X2_pieceAt rfl rfl rfl nd_X2_pieceAt ⟨Nat.le_of_ble_eq_true rfl, Nat.le_of_ble_eq_true rfl⟩ gc_g3 rfl rfl rfl hl.1 (Nat.zero_le _) dX8_mend_5 ⟨Nat.le_of_ble_eq_true rfl, Nat.le_of_ble_eq_true rfl⟩ rfl (fun w' H locs hw hI => ?_)
  subst hw
  refine gw_astore_n (lv' := [(2, va_rf (gw_rf b r1)), (0, .ref (a 0)), (1, .int x1)]) B dX8_mend_8 rfl hl (by decide) rfl (fun ls hl => ?_)
  refine gw_aload_n B dX8_mend_9 rfl (lv_at hl 0 rfl) ?_
  refine gw_ifnonnull (tgt := 15) B dX8_mend_10 (by decide) (fun c3 => ?_) (fun c3 => ?_)
  · replace h := gw_ifF c3 h
    refine gw_aload_n B dX8_mend_15 rfl (lv_at hl 0 rfl) ?_
    rw [gw_rfP c3]
    obtain ⟨g4, h⟩ := gw_gdE h
    obtain ⟨r5, e6, h⟩ := gw_bdE h
    refine gw_callV (As := []) (n := 0) B hI (k_X4_isTorn r1 S e6) gX8_mend_X4_isTorn rfl rfl rfl nd_X4_isTorn ⟨Nat.le_of_ble_eq_true rfl, Nat.le_of_ble_eq_true rfl⟩ (gc_gp g4) rfl rfl rfl hl.1 (Nat.zero_le _) dX8_mend_16 ⟨Nat.le_of_ble_eq_true rfl, Nat.le_of_ble_eq_true rfl⟩ rfl (fun w' H locs hw hI => ?_)
    subst hw
    refine lv_if_ne (tgt := 25) hx hb dX8_mend_19 (by decide) (fun c7 => ?_) (fun c7 => ?_)
    · replace h := gw_ifF c7 h
      refine gw_aload_n B dX8_mend_25 rfl (lv_at hl 0 rfl) ?_
      refine lv_bipush (v := -4) hx hb dX8_mend_26 (by decide) ?_
      rw [gw_rfP c3]
      obtain ⟨S8, e9, h⟩ := gw_letE h
      refine gw_putN (T := TX4) (k := 10) (w' := gw_cw cc a b d S8) B hI (gc_gp g4) rfl ly_X8_mend_4 tyX4 tyX4_ok nmX4 (by decide) n_RX8_207 rfl rfl rfl rfl (Nat.le_of_ble_eq_true rfl) (gc_sp_10 g4 e9) dX8_mend_28 (fun H locs hI => ?_)
      refine lv_iconst (v := 1) hx hb dX8_mend_31 (by decide) ?_
      obtain ⟨h1, h2⟩ := Prod.mk.inj (Option.some.inj h)
      rw [h2] at hI
      rw [← h1]
      exact gw_iret (W' := (fun w => w = gw_cw cc a b d zS)) B hI rfl (Nat.zero_le _) (Nat.zero_le _) dX8_mend_32
    · replace h := gw_ifT c7 h
      refine lv_bipush (v := -2) hx hb dX8_mend_22 (by decide) ?_
      obtain ⟨h1, h2⟩ := Prod.mk.inj (Option.some.inj h)
      rw [h2] at hI
      rw [← h1]
      exact gw_iret (W' := (fun w => w = gw_cw cc a b d zS)) B hI rfl (Nat.zero_le _) (Nat.zero_le _) dX8_mend_24
  · replace h := gw_ifT c3 h
    refine lv_iconst (v := -1) hx hb dX8_mend_13 (by decide) ?_
    obtain ⟨h1, h2⟩ := Prod.mk.inj (Option.some.inj h)
    rw [h2] at hI
    rw [← h1]
    exact gw_iret (W' := (fun w => w = gw_cw cc a b d zS)) B hI rfl (Nat.zero_le _) (Nat.zero_le _) dX8_mend_14
theorem m_X8_chain_19 : Cond.fieldLink RX8 19 "GownLet" "house" "LGownLet$House;" ∈ wsX8_chain := by decide +kernel
theorem m_X8_chain_28 : Cond.fieldLink RX8 28 "GownLet" "chain" "LGownLet$Chain;" ∈ wsX8_chain := by decide +kernel
theorem ly_X8_chain_8 : ∀ w ∈ wsX80, w ∈ wsX8_chain := by decide +kernel
set_option maxRecDepth 100000 in
set_option maxHeartbeats 4000000 in
theorem k_X8_chain (x1 : Int32) (S : gw_S) {zr : Int32} {zS : gw_S} (h : f_X8_chain x1 S = some (zr, zS)) : gw_M l yX8_chain wsX8_chain rm_X8_chain 0 0 D (gw_ty cc) t1 t2 [.ref (a 0), .int x1] (gw_cw cc a b d S) (fun w => w = gw_cw cc a b d zS) (some (.int zr)) := by
  refine gw_enter (cc := cX8_chain) (maxL := 3) (ret := (some .int)) (own := RX8) rfl (by decide) rfl (Nat.le_of_ble_eq_true rfl) ?_
  intro p e s m below meth c A B hin hI ls hl
  have hl : lv_has ls 3 [(0, .ref (a 0)), (1, .int x1)] := hl
  generalize ([.ref (a 0), .int x1] : List Value).toArray = args at B ⊢
  have hx := B.1.1
  have hb := B.1.2.1
  have hown : s.vm.findClass RX8 = some m.cls := B.1.2.2.2.1
  have hts := B.1.2.2.2.2
  unfold f_X8_chain at h
  refine lv_aload_n hx hb dX8_chain_0 rfl (lv_at hl 0 rfl) ?_
  refine gw_get (T := TX8) (k := 1) (v := .ref (a 3)) B hI gc_g0 rfl ly_X8_chain_8 (by decide) m_X8_chain_19 rfl rfl dX8_chain_1 ?_
  refine lv_iload_n hx hb dX8_chain_4 rfl (lv_at hl 1 rfl) ?_
  obtain ⟨r1, e2, h⟩ := gw_bdE h
  refine gw_callV (As := [.int x1]) (n := 1) B hI (k_X2_bookingAt x1 S e2) gX8_chain_X2_bookingAt rfl rfl rfl nd_X2_bookingAt ⟨Nat.le_of_ble_eq_true rfl, Nat.le_of_ble_eq_true rfl⟩ gc_g3 rfl rfl rfl hl.1 (Nat.zero_le _) dX8_chain_5 ⟨Nat.le_of_ble_eq_true rfl, Nat.le_of_ble_eq_true rfl⟩ rfl (fun w' H locs hw hI => ?_)
  subst hw
  refine gw_astore_n (lv' := [(2, va_rf (gw_rf d r1)), (0, .ref (a 0)), (1, .int x1)]) B dX8_chain_8 rfl hl (by decide) rfl (fun ls hl => ?_)
  refine gw_aload_n B dX8_chain_9 rfl (lv_at hl 0 rfl) ?_
  refine gw_ifnonnull (tgt := 15) B dX8_chain_10 (by decide) (fun c3 => ?_) (fun c3 => ?_)
  · replace h := gw_ifF c3 h
    refine gw_aload_n B dX8_chain_15 rfl (lv_at hl 0 rfl) ?_
    rw [gw_rfP c3]
    obtain ⟨g4, h⟩ := gw_gdE h
    obtain ⟨r5, e6, h⟩ := gw_bdE h
    refine gw_callV (As := []) (n := 0) B hI (k_X0_waits r1 S e6) gX8_chain_X0_waits rfl rfl rfl nd_X0_waits ⟨Nat.le_of_ble_eq_true rfl, Nat.le_of_ble_eq_true rfl⟩ (gc_gb g4) rfl rfl rfl hl.1 (Nat.zero_le _) dX8_chain_16 ⟨Nat.le_of_ble_eq_true rfl, Nat.le_of_ble_eq_true rfl⟩ rfl (fun w' H locs hw hI => ?_)
    subst hw
    refine lv_if_eq (tgt := 33) hx hb dX8_chain_19 (by decide) (fun c7 => ?_) (fun c7 => ?_)
    · replace h := gw_ifT c7 h
      refine lv_bipush (v := -2) hx hb dX8_chain_33 (by decide) ?_
      obtain ⟨h1, h2⟩ := Prod.mk.inj (Option.some.inj h)
      rw [h2] at hI
      rw [← h1]
      exact gw_iret (W' := (fun w => w = gw_cw cc a b d zS)) B hI rfl (Nat.zero_le _) (Nat.zero_le _) dX8_chain_35
    · replace h := gw_ifF c7 h
      refine lv_aload_n hx hb dX8_chain_22 rfl (lv_at hl 1 rfl) ?_
      refine gw_get (T := TX8) (k := 2) (v := .ref (a 15)) B hI gc_g0 rfl ly_X8_chain_8 (by decide) m_X8_chain_28 rfl rfl dX8_chain_23 ?_
      refine gw_aload_n B dX8_chain_26 rfl (lv_at hl 0 rfl) ?_
      obtain ⟨r8, S9, e10, h⟩ := gw_b2E h
      refine gw_callV (As := [va_rf (gw_rf d r1)]) (n := 1) B hI (k_X1_find r1 S e10) gX8_chain_X1_find rfl rfl rfl nd_X1_find ⟨Nat.le_of_ble_eq_true rfl, Nat.le_of_ble_eq_true rfl⟩ gc_g15 rfl rfl rfl hl.1 (Nat.zero_le _) dX8_chain_27 ⟨Nat.le_of_ble_eq_true rfl, Nat.le_of_ble_eq_true rfl⟩ rfl (fun w' H locs hw hI => ?_)
      subst hw
      refine lv_goto (tgt := 35) hx hb dX8_chain_30 (by decide) ?_
      obtain ⟨h1, h2⟩ := Prod.mk.inj (Option.some.inj h)
      rw [h2] at hI
      rw [← h1]
      exact gw_iret (W' := (fun w => w = gw_cw cc a b d zS)) B hI rfl (Nat.zero_le _) (Nat.zero_le _) dX8_chain_35
  · replace h := gw_ifT c3 h
    refine lv_iconst (v := -1) hx hb dX8_chain_13 (by decide) ?_
    obtain ⟨h1, h2⟩ := Prod.mk.inj (Option.some.inj h)
    rw [h2] at hI
    rw [← h1]
    exact gw_iret (W' := (fun w => w = gw_cw cc a b d zS)) B hI rfl (Nat.zero_le _) (Nat.zero_le _) dX8_chain_14
theorem m_X8_swap_28 : Cond.fieldLink RX8 28 "GownLet" "chain" "LGownLet$Chain;" ∈ wsX8_swap := by decide +kernel
theorem ly_X8_swap_8 : ∀ w ∈ wsX80, w ∈ wsX8_swap := by decide +kernel
set_option maxRecDepth 100000 in
set_option maxHeartbeats 4000000 in
theorem k_X8_swap (x1 : Int32) (S : gw_S) {zr : Int32} {zS : gw_S} (h : f_X8_swap x1 S = some (zr, zS)) : gw_M l yX8_swap wsX8_swap rm_X8_swap 0 0 D (gw_ty cc) t1 t2 [.ref (a 0), .int x1] (gw_cw cc a b d S) (fun w => w = gw_cw cc a b d zS) (some (.int zr)) := by
  refine gw_enter (cc := cX8_swap) (maxL := 3) (ret := (some .int)) (own := RX8) rfl (by decide) rfl (Nat.le_of_ble_eq_true rfl) ?_
  intro p e s m below meth c A B hin hI ls hl
  have hl : lv_has ls 3 [(0, .ref (a 0)), (1, .int x1)] := hl
  generalize ([.ref (a 0), .int x1] : List Value).toArray = args at B ⊢
  have hx := B.1.1
  have hb := B.1.2.1
  have hown : s.vm.findClass RX8 = some m.cls := B.1.2.2.2.1
  have hts := B.1.2.2.2.2
  unfold f_X8_swap at h
  refine lv_aload_n hx hb dX8_swap_0 rfl (lv_at hl 0 rfl) ?_
  refine lv_iload_n hx hb dX8_swap_1 rfl (lv_at hl 1 rfl) ?_
  obtain ⟨r1, S2, e3, h⟩ := gw_b2E h
  refine gw_callV (As := [.int x1]) (n := 1) B hI (k_X8_chain x1 S e3) gX8_swap_X8_chain rfl rfl rfl nd_X8_chain ⟨Nat.le_of_ble_eq_true rfl, Nat.le_of_ble_eq_true rfl⟩ gc_g0 rfl rfl rfl hl.1 (Nat.zero_le _) dX8_swap_2 ⟨Nat.le_of_ble_eq_true rfl, Nat.le_of_ble_eq_true rfl⟩ rfl (fun w' H locs hw hI => ?_)
  subst hw
  refine lv_istore_n (lv' := [(2, .int r1), (0, .ref (a 0)), (1, .int x1)]) hx hb dX8_swap_5 rfl hl (by decide) rfl (fun ls hl => ?_)
  refine lv_iload_n hx hb dX8_swap_6 rfl (lv_at hl 0 rfl) ?_
  refine lv_if_le (tgt := 17) hx hb dX8_swap_7 (by decide) (fun c4 => ?_) (fun c4 => ?_)
  · replace h := gw_ifT c4 h
    refine lv_iload_n hx hb dX8_swap_17 rfl (lv_at hl 0 rfl) ?_
    obtain ⟨h1, h2⟩ := Prod.mk.inj (Option.some.inj h)
    rw [h2] at hI
    rw [← h1]
    exact gw_iret (W' := (fun w => w = gw_cw cc a b d zS)) B hI rfl (Nat.zero_le _) (Nat.zero_le _) dX8_swap_18
  · replace h := gw_ifF c4 h
    refine lv_aload_n hx hb dX8_swap_10 rfl (lv_at hl 1 rfl) ?_
    refine gw_get (T := TX8) (k := 2) (v := .ref (a 15)) B hI gc_g0 rfl ly_X8_swap_8 (by decide) m_X8_swap_28 rfl rfl dX8_swap_11 ?_
    obtain ⟨S5, e6, h⟩ := gw_bdE h
    refine gw_callVv (As := []) (n := 0) B hI (k_X1_perform  S2 e6) gX8_swap_X1_perform rfl rfl rfl nd_X1_perform ⟨Nat.le_of_ble_eq_true rfl, Nat.le_of_ble_eq_true rfl⟩ gc_g15 rfl rfl rfl hl.1 (Nat.zero_le _) dX8_swap_14 ⟨Nat.le_of_ble_eq_true rfl, Nat.le_of_ble_eq_true rfl⟩ rfl (fun w' H locs hw hI => ?_)
    subst hw
    refine lv_iload_n hx hb dX8_swap_17 rfl (lv_at hl 0 rfl) ?_
    obtain ⟨h1, h2⟩ := Prod.mk.inj (Option.some.inj h)
    rw [h2] at hI
    rw [← h1]
    exact gw_iret (W' := (fun w => w = gw_cw cc a b d zS)) B hI rfl (Nat.zero_le _) (Nat.zero_le _) dX8_swap_18
theorem m_X8_count_19 : Cond.fieldLink RX8 19 "GownLet" "house" "LGownLet$House;" ∈ wsX8_count := by decide +kernel
theorem ly_X8_count_2 : ∀ w ∈ wsX20, w ∈ wsX8_count := by decide +kernel
theorem ly_X8_count_3 : ∀ w ∈ wsX30, w ∈ wsX8_count := by decide +kernel
theorem ly_X8_count_8 : ∀ w ∈ wsX80, w ∈ wsX8_count := by decide +kernel
set_option maxRecDepth 100000 in
set_option maxHeartbeats 4000000 in
theorem k_X8_count (x1 : Int32) (S : gw_S) {zr : Int32} (h : f_X8_count x1 S = some zr) : gw_M l yX8_count wsX8_count rm_X8_count 0 0 D (gw_ty cc) t1 t2 [.ref (a 0), .int x1] (gw_cw cc a b d S) (fun w => w = gw_cw cc a b d S) (some (.int zr)) := by
  refine gw_enter (cc := cX8_count) (maxL := 2) (ret := (some .int)) (own := RX8) rfl (by decide) rfl (Nat.le_of_ble_eq_true rfl) ?_
  intro p e s m below meth c A B hin hI ls hl
  have hl : lv_has ls 2 [(0, .ref (a 0)), (1, .int x1)] := hl
  generalize ([.ref (a 0), .int x1] : List Value).toArray = args at B ⊢
  have hx := B.1.1
  have hb := B.1.2.1
  have hown : s.vm.findClass RX8 = some m.cls := B.1.2.2.2.1
  have hts := B.1.2.2.2.2
  have hb84 :  ∀ (v1 : Int32), f_X8_count_b84 S  v1 = some zr → ∀ (H : Heap) (locs : List Loc) (ls : Array Slot), gw_I D A s.heap (gw_cw cc a b d S) H locs → lv_has ls 2 [(0, .ref (a 0)), (1, .int v1)] → W p l e rm_X8_count s m args below meth c H locs 0 0 (MQ below (gw_Q (some (.int zr)) (gw_Pst D A (fun w => w = gw_cw cc a b d S)) A) args s 0 0 A) (F0 m 84 ls []) := by
    intro v1 h H locs ls hI hl
    unfold f_X8_count_b84 at h
    refine lv_aload_n hx hb dX8_count_84 rfl (lv_at hl 0 rfl) ?_
    refine gw_get (T := TX8) (k := 1) (v := .ref (a 3)) B hI gc_g0 rfl ly_X8_count_8 (by decide) m_X8_count_19 rfl rfl dX8_count_85 ?_
    refine lv_iload_n hx hb dX8_count_88 rfl (lv_at hl 1 rfl) ?_
    obtain ⟨r1, e2, h⟩ := gw_bdE h
    refine gw_callV (As := [.int v1]) (n := 1) B hI (k_X2_tallyBookings v1 S e2) gX8_count_X2_tallyBookings rfl rfl rfl nd_X2_tallyBookings ⟨Nat.le_of_ble_eq_true rfl, Nat.le_of_ble_eq_true rfl⟩ gc_g3 rfl rfl rfl hl.1 (Nat.zero_le _) dX8_count_89 ⟨Nat.le_of_ble_eq_true rfl, Nat.le_of_ble_eq_true rfl⟩ rfl (fun w' H locs hw hI => ?_)
    subst hw
    rw [← Option.some.inj h]
    exact gw_iret (W' := (fun w => w = gw_cw cc a b d S)) B hI rfl (Nat.zero_le _) (Nat.zero_le _) dX8_count_92
  have hb56 :  ∀ (v1 : Int32), f_X8_count_b56 S  v1 = some zr → ∀ (H : Heap) (locs : List Loc) (ls : Array Slot), gw_I D A s.heap (gw_cw cc a b d S) H locs → lv_has ls 2 [(0, .ref (a 0)), (1, .int v1)] → W p l e rm_X8_count s m args below meth c H locs 0 0 (MQ below (gw_Q (some (.int zr)) (gw_Pst D A (fun w => w = gw_cw cc a b d S)) A) args s 0 0 A) (F0 m 56 ls []) := by
    intro v1 h H locs ls hI hl
    unfold f_X8_count_b56 at h
    refine lv_aload_n hx hb dX8_count_56 rfl (lv_at hl 0 rfl) ?_
    refine gw_get (T := TX8) (k := 1) (v := .ref (a 3)) B hI gc_g0 rfl ly_X8_count_8 (by decide) m_X8_count_19 rfl rfl dX8_count_57 ?_
    refine lv_iload_n hx hb dX8_count_60 rfl (lv_at hl 1 rfl) ?_
    obtain ⟨r3, e4, h⟩ := gw_bdE h
    refine gw_callV (As := [.int v1]) (n := 1) B hI (k_X2_tallyPieces v1 S e4) gX8_count_X2_tallyPieces rfl rfl rfl nd_X2_tallyPieces ⟨Nat.le_of_ble_eq_true rfl, Nat.le_of_ble_eq_true rfl⟩ gc_g3 rfl rfl rfl hl.1 (Nat.zero_le _) dX8_count_61 ⟨Nat.le_of_ble_eq_true rfl, Nat.le_of_ble_eq_true rfl⟩ rfl (fun w' H locs hw hI => ?_)
    subst hw
    rw [← Option.some.inj h]
    exact gw_iret (W' := (fun w => w = gw_cw cc a b d S)) B hI rfl (Nat.zero_le _) (Nat.zero_le _) dX8_count_64
  unfold f_X8_count at h
  refine lv_iload_n hx hb dX8_count_0 rfl (lv_at hl 1 rfl) ?_
  by_cases c5 : x1 = 0
  · replace h := gw_ifT c5 h
    refine gw_tabIn (k := 0) (off := 47) (tgt := 48) B c5 dX8_count_1 (by decide) (by decide) ?_
    refine lv_aload_n hx hb dX8_count_48 rfl (lv_at hl 0 rfl) ?_
    refine gw_get (T := TX8) (k := 1) (v := .ref (a 3)) B hI gc_g0 rfl ly_X8_count_8 (by decide) m_X8_count_19 rfl rfl dX8_count_49 ?_
    refine gw_getN (T := TX2) (k := 6) (v := .int (S 3 6)) B hI gc_g3 rfl ly_X8_count_2 (by decide) n_RX8_282 rfl rfl dX8_count_52 ?_
    rw [← Option.some.inj h]
    exact gw_iret (W' := (fun w => w = gw_cw cc a b d S)) B hI rfl (Nat.zero_le _) (Nat.zero_le _) dX8_count_55
  · replace h := gw_ifF c5 h
    by_cases c6 : x1 = 1
    · replace h := gw_ifT c6 h
      refine gw_tabIn (k := 1) (off := 55) (tgt := 56) B c6 dX8_count_1 (by decide) (by decide) ?_
      exact hb56  x1 h _ _ _ hI (lv_sub hl [0, 1] rfl)
    · replace h := gw_ifF c6 h
      by_cases c7 : x1 = 2
      · replace h := gw_ifT c7 h
        refine gw_tabIn (k := 2) (off := 55) (tgt := 56) B c7 dX8_count_1 (by decide) (by decide) ?_
        exact hb56  x1 h _ _ _ hI (lv_sub hl [0, 1] rfl)
      · replace h := gw_ifF c7 h
        by_cases c8 : x1 = 3
        · replace h := gw_ifT c8 h
          refine gw_tabIn (k := 3) (off := 64) (tgt := 65) B c8 dX8_count_1 (by decide) (by decide) ?_
          refine lv_aload_n hx hb dX8_count_65 rfl (lv_at hl 0 rfl) ?_
          refine gw_get (T := TX8) (k := 1) (v := .ref (a 3)) B hI gc_g0 rfl ly_X8_count_8 (by decide) m_X8_count_19 rfl rfl dX8_count_66 ?_
          refine gw_getN (T := TX2) (k := 1) (v := .ref (a 7)) B hI gc_g3 rfl ly_X8_count_2 (by decide) n_RX8_115 rfl rfl dX8_count_69 ?_
          refine gw_getN (T := TX3) (k := 3) (v := .int (S 7 3)) B hI gc_g7 rfl ly_X8_count_3 (by decide) n_RX8_119 rfl rfl dX8_count_72 ?_
          rw [← Option.some.inj h]
          exact gw_iret (W' := (fun w => w = gw_cw cc a b d S)) B hI rfl (Nat.zero_le _) (Nat.zero_le _) dX8_count_75
        · replace h := gw_ifF c8 h
          by_cases c9 : x1 = 4
          · replace h := gw_ifT c9 h
            refine gw_tabIn (k := 4) (off := 75) (tgt := 76) B c9 dX8_count_1 (by decide) (by decide) ?_
            refine lv_aload_n hx hb dX8_count_76 rfl (lv_at hl 0 rfl) ?_
            refine gw_get (T := TX8) (k := 1) (v := .ref (a 3)) B hI gc_g0 rfl ly_X8_count_8 (by decide) m_X8_count_19 rfl rfl dX8_count_77 ?_
            refine gw_getN (T := TX2) (k := 7) (v := .int (S 3 7)) B hI gc_g3 rfl ly_X8_count_2 (by decide) n_RX8_153 rfl rfl dX8_count_80 ?_
            rw [← Option.some.inj h]
            exact gw_iret (W' := (fun w => w = gw_cw cc a b d S)) B hI rfl (Nat.zero_le _) (Nat.zero_le _) dX8_count_83
          · replace h := gw_ifF c9 h
            by_cases c10 : x1 = 5
            · replace h := gw_ifT c10 h
              refine gw_tabIn (k := 5) (off := 83) (tgt := 84) B c10 dX8_count_1 (by decide) (by decide) ?_
              exact hb84  x1 h _ _ _ hI (lv_sub hl [0, 1] rfl)
            · replace h := gw_ifF c10 h
              by_cases c11 : x1 = 6
              · replace h := gw_ifT c11 h
                refine gw_tabIn (k := 6) (off := 83) (tgt := 84) B c11 dX8_count_1 (by decide) (by decide) ?_
                exact hb84  x1 h _ _ _ hI (lv_sub hl [0, 1] rfl)
              · replace h := gw_ifF c11 h
                by_cases c12 : x1 = 7
                · replace h := gw_ifT c12 h
                  refine gw_tabIn (k := 7) (off := 55) (tgt := 56) B c12 dX8_count_1 (by decide) (by decide) ?_
                  exact hb56  x1 h _ _ _ hI (lv_sub hl [0, 1] rfl)
                · replace h := gw_ifF c12 h
                  refine lv_tableOut (tgt := 93) hx hb dX8_count_1 (gw_out8 c5 c6 c7 c8 c9 c10 c11 c12) (by decide) ?_
                  refine lv_iconst (v := -1) hx hb dX8_count_93 (by decide) ?_
                  rw [← Option.some.inj h]
                  exact gw_iret (W' := (fun w => w = gw_cw cc a b d S)) B hI rfl (Nat.zero_le _) (Nat.zero_le _) dX8_count_94
set_option maxRecDepth 100000 in
set_option maxHeartbeats 4000000 in
theorem k_X3_spanOf_l (x1 : Int32) (x2 : Int32) (S : gw_S) {zr : Int32} (h : f_X3_spanOf_l x1 x2 S = some zr) : gw_M l yX3_spanOf wsX3_spanOf rm_X3_spanOf_l 0 0 D (gw_ty cc) t1 t2 [.ref (a 7), .int x1, .int x2] (gw_lw cc a S) (fun w => w = gw_lw cc a S) (some (.int zr)) := by
  refine gw_enter (cc := cX3_spanOf) (maxL := 4) (ret := (some .int)) (own := RX3) rfl (by decide) rfl (Nat.le_of_ble_eq_true rfl) ?_
  intro p e s m below meth c A B hin hI ls hl
  have hl : lv_has ls 4 [(0, .ref (a 7)), (1, .int x1), (2, .int x2)] := hl
  generalize ([.ref (a 7), .int x1, .int x2] : List Value).toArray = args at B ⊢
  have hx := B.1.1
  have hb := B.1.2.1
  have hown : s.vm.findClass RX3 = some m.cls := B.1.2.2.2.1
  have hts := B.1.2.2.2.2
  unfold f_X3_spanOf_l at h
  refine lv_iload_n hx hb dX3_spanOf_0 rfl (lv_at hl 1 rfl) ?_
  refine lv_bipush (v := 6) hx hb dX3_spanOf_1 (by decide) ?_
  refine lv_imul hx hb dX3_spanOf_3 ?_
  refine lv_iload_n hx hb dX3_spanOf_4 rfl (lv_at hl 2 rfl) ?_
  refine lv_iadd hx hb dX3_spanOf_5 ?_
  obtain ⟨y1, e2, h⟩ := gw_letE h
  rw [← e2]
  refine lv_istore_n (lv' := [(3, .int y1), (0, .ref (a 7)), (1, .int x1), (2, .int x2)]) hx hb dX3_spanOf_6 rfl hl (by decide) rfl (fun ls hl => ?_)
  refine lv_iload_n hx hb dX3_spanOf_7 rfl (lv_at hl 0 rfl) ?_
  refine lv_if_lt (tgt := 29) hx hb dX3_spanOf_8 (by decide) (fun c3 => ?_) (fun c3 => ?_)
  · replace h := gw_ifT c3 h
    refine lv_iconst (v := 0) hx hb dX3_spanOf_29 (by decide) ?_
    rw [← Option.some.inj h]
    exact gw_iret (W' := (fun w => w = gw_lw cc a S)) B hI rfl (Nat.zero_le _) (Nat.zero_le _) dX3_spanOf_30
  · replace h := gw_ifF c3 h
    refine lv_iload_n hx hb dX3_spanOf_11 rfl (lv_at hl 0 rfl) ?_
    refine lv_aload_n hx hb dX3_spanOf_12 rfl (lv_at hl 1 rfl) ?_
    refine gw_get (T := TX3) (k := 0) (v := .ref (a 8)) B hI gl_g7 rfl ly_X3_spanOf_3 (by decide) m_X3_spanOf_9 rfl rfl dX3_spanOf_13 ?_
    refine gw_alen (t0 := 0) (v := 36) B hI gl_g8 rfl (by decide) dX3_spanOf_16 ?_
    refine lv_icmp_ge (tgt := 29) hx hb dX3_spanOf_17 (by decide) (fun c4 => ?_) (fun c4 => ?_)
    · replace h := gw_ifT c4 h
      refine lv_iconst (v := 0) hx hb dX3_spanOf_29 (by decide) ?_
      rw [← Option.some.inj h]
      exact gw_iret (W' := (fun w => w = gw_lw cc a S)) B hI rfl (Nat.zero_le _) (Nat.zero_le _) dX3_spanOf_30
    · replace h := gw_ifF c4 h
      refine lv_aload_n hx hb dX3_spanOf_20 rfl (lv_at hl 1 rfl) ?_
      refine gw_get (T := TX3) (k := 0) (v := .ref (a 8)) B hI gl_g7 rfl ly_X3_spanOf_3 (by decide) m_X3_spanOf_9 rfl rfl dX3_spanOf_21 ?_
      refine lv_iload_n hx hb dX3_spanOf_24 rfl (lv_at hl 0 rfl) ?_
      obtain ⟨g5, h⟩ := gw_gdE h
      refine gw_iald (t0 := 0) B hI gl_g8 rfl g5 dX3_spanOf_25 ?_
      refine lv_goto (tgt := 30) hx hb dX3_spanOf_26 (by decide) ?_
      rw [← Option.some.inj h]
      exact gw_iret (W' := (fun w => w = gw_lw cc a S)) B hI rfl (Nat.zero_le _) (Nat.zero_le _) dX3_spanOf_30
set_option maxRecDepth 100000 in
set_option maxHeartbeats 4000000 in
theorem k_X3_readEnds_l  (S : gw_S)  {zS : gw_S} (h : f_X3_readEnds_l  S = some zS) : gw_M l yX3_readEnds wsX3_readEnds rm_X3_readEnds_l 0 0 D (gw_ty cc) t1 t2 [.ref (a 7)] (gw_lw cc a S) (fun w => w = gw_lw cc a zS) none := by
  refine gw_enter (cc := cX3_readEnds) (maxL := 2) (ret := none) (own := RX3) rfl (by decide) rfl (Nat.le_of_ble_eq_true rfl) ?_
  intro p e s m below meth c A B hin hI ls hl
  have hl : lv_has ls 2 [(0, .ref (a 7))] := hl
  generalize ([.ref (a 7)] : List Value).toArray = args at B ⊢
  have hx := B.1.1
  have hb := B.1.2.1
  have hown : s.vm.findClass RX3 = some m.cls := B.1.2.2.2.1
  have hts := B.1.2.2.2.2
  have hb56 : ∀ (K2 : Int32 → gw_S → Option (gw_S)) (_ : ∀ (v1 : Int32) (S : gw_S), K2 v1 S = some zS → ∀ (H : Heap) (locs : List Loc) (ls : Array Slot), gw_I D A s.heap (gw_lw cc a S) H locs → lv_has ls 2 [(0, .ref (a 7)), (1, .int v1)] → W p l e rm_X3_readEnds_l s m args below meth c H locs 0 0 (MQ below (gw_Q none (gw_Pst D A (fun w => w = gw_lw cc a zS)) A) args s 0 0 A) (F0 m 2 ls [])), ∀ (v1 : Int32) (t0_ : Int32) (t1_ : Int32) (S : gw_S), f_X3_readEnds_l_b56 K2 v1 t0_ t1_ S = some zS → ∀ (H : Heap) (locs : List Loc) (ls : Array Slot), gw_I D A s.heap (gw_lw cc a S) H locs → lv_has ls 2 [(0, .ref (a 7)), (1, .int v1)] → W p l e rm_X3_readEnds_l s m args below meth c H locs 0 0 (MQ below (gw_Q none (gw_Pst D A (fun w => w = gw_lw cc a zS)) A) args s 0 0 A) (F0 m 56 ls [.int t0_, .int t1_, .ref (a 10)]) := by
    intro K2 hK2
    intro v1 t0_ t1_ S h H locs ls hI hl
    unfold f_X3_readEnds_l_b56 at h
    obtain ⟨g1, h⟩ := gw_gdE h
    obtain ⟨S2, e3, h⟩ := gw_letE h
    refine gw_iast (t0 := 0) (w' := gw_lw cc a S2) B hI gl_g10 rfl g1 (gl_s10 e3) dX3_readEnds_56 (fun H locs hI => ?_)
    obtain ⟨y4, e5, h⟩ := gw_letE h
    refine lv_iinc (v := y4) (lv' := [(1, .int y4), (0, .ref (a 7))]) hx hb dX3_readEnds_57 hl (k := 1) rfl (by rw [e5]; rfl) (by decide) rfl (fun ls hl => ?_)
    refine lv_goto (tgt := 2) hx hb dX3_readEnds_60 (by decide) ?_
    exact hK2 y4 S2 h _ _ _ hI (lv_sub hl [1, 0] rfl)
  have hb32 : ∀ (K2 : Int32 → gw_S → Option (gw_S)) (_ : ∀ (v1 : Int32) (S : gw_S), K2 v1 S = some zS → ∀ (H : Heap) (locs : List Loc) (ls : Array Slot), gw_I D A s.heap (gw_lw cc a S) H locs → lv_has ls 2 [(0, .ref (a 7)), (1, .int v1)] → W p l e rm_X3_readEnds_l s m args below meth c H locs 0 0 (MQ below (gw_Q none (gw_Pst D A (fun w => w = gw_lw cc a zS)) A) args s 0 0 A) (F0 m 2 ls [])), ∀ (v1 : Int32) (t0_ : Int32) (t1_ : Int32) (S : gw_S), f_X3_readEnds_l_b32 K2 v1 t0_ t1_ S = some zS → ∀ (H : Heap) (locs : List Loc) (ls : Array Slot), gw_I D A s.heap (gw_lw cc a S) H locs → lv_has ls 2 [(0, .ref (a 7)), (1, .int v1)] → W p l e rm_X3_readEnds_l s m args below meth c H locs 0 0 (MQ below (gw_Q none (gw_Pst D A (fun w => w = gw_lw cc a zS)) A) args s 0 0 A) (F0 m 32 ls [.int t0_, .int t1_, .ref (a 9)]) := by
    intro K2 hK2
    intro v1 t0_ t1_ S h H locs ls hI hl
    unfold f_X3_readEnds_l_b32 at h
    obtain ⟨g6, h⟩ := gw_gdE h
    obtain ⟨S7, e8, h⟩ := gw_letE h
    refine gw_iast (t0 := 0) (w' := gw_lw cc a S7) B hI gl_g9 rfl g6 (gl_s9 e8) dX3_readEnds_32 (fun H locs hI => ?_)
    refine lv_aload_n hx hb dX3_readEnds_33 rfl (lv_at hl 0 rfl) ?_
    refine gw_get (T := TX3) (k := 2) (v := .ref (a 10)) B hI gl_g7 rfl ly_X3_readEnds_3 (by decide) m_X3_readEnds_16 rfl rfl dX3_readEnds_34 ?_
    refine lv_iload_n hx hb dX3_readEnds_37 rfl (lv_at hl 1 rfl) ?_
    refine lv_aload_n hx hb dX3_readEnds_38 rfl (lv_at hl 0 rfl) ?_
    refine gw_get (T := TX3) (k := 4) (v := .int (S7 7 4)) B hI gl_g7 rfl ly_X3_readEnds_3 (by decide) m_X3_readEnds_26 rfl rfl dX3_readEnds_39 ?_
    refine lv_if_eq (tgt := 50) hx hb dX3_readEnds_42 (by decide) (fun c9 => ?_) (fun c9 => ?_)
    · replace h := gw_ifT c9 h
      refine lv_aload_n hx hb dX3_readEnds_50 rfl (lv_at hl 0 rfl) ?_
      refine lv_iconst (v := 0) hx hb dX3_readEnds_51 (by decide) ?_
      refine lv_iload_n hx hb dX3_readEnds_52 rfl (lv_at hl 1 rfl) ?_
      obtain ⟨r10, e11, h⟩ := gw_bdE h
      refine gw_callV (As := [.int (0 : Int32), .int v1]) (n := 2) B hI (k_X3_spanOf_l (0 : Int32) v1 S7 e11) gX3_readEnds_X3_spanOf rfl rfl rfl nd_X3_spanOf ⟨Nat.le_of_ble_eq_true rfl, Nat.le_of_ble_eq_true rfl⟩ gl_g7 rfl rfl rfl hl.1 (by simp [gw_catq, gw_cI, gw_cR, gw_cL]) dX3_readEnds_53 ⟨Nat.le_of_ble_eq_true rfl, Nat.le_of_ble_eq_true rfl⟩ rfl (fun w' H locs hw hI => ?_)
      subst hw
      exact hb56 K2 hK2 v1 r10 v1 S7 h _ _ _ hI (lv_sub hl [0, 1] rfl)
    · replace h := gw_ifF c9 h
      refine lv_bipush (v := 9) hx hb dX3_readEnds_45 (by decide) ?_
      refine lv_goto (tgt := 56) hx hb dX3_readEnds_47 (by decide) ?_
      exact hb56 K2 hK2 v1 (9 : Int32) v1 S7 h _ _ _ hI (lv_sub hl [0, 1] rfl)
  have hb2 :  ∀ (n : Nat), ∀ (v1 : Int32) (S : gw_S), f_X3_readEnds_l_b2  n v1 S = some zS → ∀ (H : Heap) (locs : List Loc) (ls : Array Slot), gw_I D A s.heap (gw_lw cc a S) H locs → lv_has ls 2 [(0, .ref (a 7)), (1, .int v1)] → W p l e rm_X3_readEnds_l s m args below meth c H locs 0 0 (MQ below (gw_Q none (gw_Pst D A (fun w => w = gw_lw cc a zS)) A) args s 0 0 A) (F0 m 2 ls []) := by
    intro n
    induction n with
    | zero =>
      intro v1 S h
      cases h
    | succ n ih =>
      intro v1 S h H locs ls hI hl
      unfold f_X3_readEnds_l_b2 at h
      refine lv_iload_n hx hb dX3_readEnds_2 rfl (lv_at hl 1 rfl) ?_
      refine lv_bipush (v := 6) hx hb dX3_readEnds_3 (by decide) ?_
      refine lv_icmp_ge (tgt := 63) hx hb dX3_readEnds_5 (by decide) (fun c12 => ?_) (fun c12 => ?_)
      · replace h := gw_ifT c12 h
        rw [Option.some.inj h] at hI
        exact gw_vret (W' := (fun w => w = gw_lw cc a zS)) B hI rfl (Nat.zero_le _) (Nat.zero_le _) dX3_readEnds_63
      · replace h := gw_ifF c12 h
        refine lv_aload_n hx hb dX3_readEnds_8 rfl (lv_at hl 0 rfl) ?_
        refine gw_get (T := TX3) (k := 1) (v := .ref (a 9)) B hI gl_g7 rfl ly_X3_readEnds_3 (by decide) m_X3_readEnds_13 rfl rfl dX3_readEnds_9 ?_
        refine lv_iload_n hx hb dX3_readEnds_12 rfl (lv_at hl 1 rfl) ?_
        refine lv_aload_n hx hb dX3_readEnds_13 rfl (lv_at hl 0 rfl) ?_
        refine gw_get (T := TX3) (k := 4) (v := .int (S 7 4)) B hI gl_g7 rfl ly_X3_readEnds_3 (by decide) m_X3_readEnds_26 rfl rfl dX3_readEnds_14 ?_
        refine lv_if_eq (tgt := 25) hx hb dX3_readEnds_17 (by decide) (fun c13 => ?_) (fun c13 => ?_)
        · replace h := gw_ifT c13 h
          refine lv_aload_n hx hb dX3_readEnds_25 rfl (lv_at hl 0 rfl) ?_
          refine lv_iload_n hx hb dX3_readEnds_26 rfl (lv_at hl 1 rfl) ?_
          refine lv_iconst (v := 0) hx hb dX3_readEnds_27 (by decide) ?_
          obtain ⟨r14, e15, h⟩ := gw_bdE h
          refine gw_callV (As := [.int v1, .int (0 : Int32)]) (n := 2) B hI (k_X3_spanOf_l v1 (0 : Int32) S e15) gX3_readEnds_X3_spanOf rfl rfl rfl nd_X3_spanOf ⟨Nat.le_of_ble_eq_true rfl, Nat.le_of_ble_eq_true rfl⟩ gl_g7 rfl rfl rfl hl.1 (by simp [gw_catq, gw_cI, gw_cR, gw_cL]) dX3_readEnds_28 ⟨Nat.le_of_ble_eq_true rfl, Nat.le_of_ble_eq_true rfl⟩ rfl (fun w' H locs hw hI => ?_)
          subst hw
          refine lv_ineg hx hb dX3_readEnds_31 ?_
          exact hb32 (f_X3_readEnds_l_b2  n) ih v1 (-r14) v1 S h _ _ _ hI (lv_sub hl [0, 1] rfl)
        · replace h := gw_ifF c13 h
          refine lv_bipush (v := -9) hx hb dX3_readEnds_20 (by decide) ?_
          refine lv_goto (tgt := 32) hx hb dX3_readEnds_22 (by decide) ?_
          exact hb32 (f_X3_readEnds_l_b2  n) ih v1 (-9 : Int32) v1 S h _ _ _ hI (lv_sub hl [0, 1] rfl)
  unfold f_X3_readEnds_l at h
  refine lv_iconst (v := 1) hx hb dX3_readEnds_0 (by decide) ?_
  refine lv_istore_n (lv' := [(1, .int (1 : Int32)), (0, .ref (a 7))]) hx hb dX3_readEnds_1 rfl hl (by decide) rfl (fun ls hl => ?_)
  exact hb2  gw_F (1 : Int32) S h _ _ _ hI (lv_sub hl [1, 0] rfl)
end
