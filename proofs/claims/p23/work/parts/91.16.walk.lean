section
/-! contracts: printed by wip/gen -/
section
variable {l : Launch} {D : va_G} {t1 t2 : Nat} {cc : Nat → ClassId} {a b d : Nat → Nat}
theorem m_X9_isRetired_46 : Cond.fieldLink RX9 46 "GownLetModel" "lives" "[I" ∈ wsX9_isRetired := by decide +kernel
theorem m_X9_isRetired_52 : Cond.fieldLink RX9 52 "GownLetModel" "worn" "[I" ∈ wsX9_isRetired := by decide +kernel
theorem m_X9_isRetired_55 : Cond.fieldLink RX9 55 "GownLetModel" "isTold" "[Z" ∈ wsX9_isRetired := by decide +kernel
theorem ly_X9_isRetired_9 : ∀ w ∈ wsX90, w ∈ wsX9_isRetired := fun w h => List.mem_cons_of_mem _ (List.mem_append_right _ h)
set_option maxRecDepth 100000 in
set_option maxHeartbeats 4000000 in
theorem k_X9_isRetired (x1 : Int32) (S : gw_S) {zr : Int32} (h : f_X9_isRetired x1 S = some zr) : gw_M l yX9_isRetired wsX9_isRetired rm_X9_isRetired 0 0 D (gw_ty cc) t1 t2 [.ref (a 0), .int x1] (gw_mw cc a S) (fun w => w = gw_mw cc a S) (some (.int zr)) := by
  refine gw_enter (cc := cX9_isRetired) (maxL := 2) (ret := (some .boolean)) (own := RX9) rfl (by decide) rfl (Nat.le_of_ble_eq_true rfl) ?_
  intro p e s m below meth c A B hin hI ls hl
  have hl : lv_has ls 2 [(0, .ref (a 0)), (1, .int x1)] := hl
  generalize ([.ref (a 0), .int x1] : List Value).toArray = args at B ⊢
  have hx := B.1.1
  have hb := B.1.2.1
  have hown : s.vm.findClass RX9 = some m.cls := B.1.2.2.2.1
  have hts := B.1.2.2.2.2
  unfold f_X9_isRetired at h
  refine lv_aload_n hx hb dX9_isRetired_0 rfl (lv_at hl 0 rfl) ?_
  refine gw_get (T := TX9) (k := 18) (v := .ref (a 16)) B hI gm_g0 rfl ly_X9_isRetired_9 (by decide) m_X9_isRetired_55 rfl rfl dX9_isRetired_1 ?_
  refine lv_iload_n hx hb dX9_isRetired_4 rfl (lv_at hl 1 rfl) ?_
  obtain ⟨g1, h⟩ := gw_gdE h
  refine gw_zald (t0 := 2) B hI gm_g16 rfl g1 dX9_isRetired_5 ?_
  refine lv_if_ne (tgt := 24) hx hb dX9_isRetired_6 (by decide) (fun c2 => ?_) (fun c2 => ?_)
  · replace h := gw_ifF c2 h
    refine lv_iconst (v := 1) hx hb dX9_isRetired_24 (by decide) ?_
    refine lv_goto (tgt := 29) hx hb dX9_isRetired_25 (by decide) ?_
    rw [← Option.some.inj h]
    exact gw_zret (W' := (fun w => w = gw_mw cc a S)) B hI rfl (Or.inr rfl) (Nat.zero_le _) (Nat.zero_le _) dX9_isRetired_29
  · replace h := gw_ifT c2 h
    refine lv_aload_n hx hb dX9_isRetired_9 rfl (lv_at hl 0 rfl) ?_
    refine gw_get (T := TX9) (k := 17) (v := .ref (a 15)) B hI gm_g0 rfl ly_X9_isRetired_9 (by decide) m_X9_isRetired_52 rfl rfl dX9_isRetired_10 ?_
    refine lv_iload_n hx hb dX9_isRetired_13 rfl (lv_at hl 1 rfl) ?_
    refine gw_iald (t0 := 0) B hI gm_g15 rfl g1 dX9_isRetired_14 ?_
    refine lv_aload_n hx hb dX9_isRetired_15 rfl (lv_at hl 0 rfl) ?_
    refine gw_get (T := TX9) (k := 15) (v := .ref (a 13)) B hI gm_g0 rfl ly_X9_isRetired_9 (by decide) m_X9_isRetired_46 rfl rfl dX9_isRetired_16 ?_
    refine lv_iload_n hx hb dX9_isRetired_19 rfl (lv_at hl 1 rfl) ?_
    refine gw_iald (t0 := 0) B hI gm_g13 rfl g1 dX9_isRetired_20 ?_
    refine lv_icmp_lt (tgt := 28) hx hb dX9_isRetired_21 (by decide) (fun c3 => ?_) (fun c3 => ?_)
    · replace h := gw_ifT c3 h
      refine lv_iconst (v := 0) hx hb dX9_isRetired_28 (by decide) ?_
      rw [← Option.some.inj h]
      exact gw_zret (W' := (fun w => w = gw_mw cc a S)) B hI rfl (Or.inl rfl) (Nat.zero_le _) (Nat.zero_le _) dX9_isRetired_29
    · replace h := gw_ifF c3 h
      refine lv_iconst (v := 1) hx hb dX9_isRetired_24 (by decide) ?_
      refine lv_goto (tgt := 29) hx hb dX9_isRetired_25 (by decide) ?_
      rw [← Option.some.inj h]
      exact gw_zret (W' := (fun w => w = gw_mw cc a S)) B hI rfl (Or.inr rfl) (Nat.zero_le _) (Nat.zero_le _) dX9_isRetired_29
theorem m_X9_worthOf_43 : Cond.fieldLink RX9 43 "GownLetModel" "prices" "[I" ∈ wsX9_worthOf := by decide +kernel
theorem m_X9_worthOf_46 : Cond.fieldLink RX9 46 "GownLetModel" "lives" "[I" ∈ wsX9_worthOf := by decide +kernel
theorem m_X9_worthOf_52 : Cond.fieldLink RX9 52 "GownLetModel" "worn" "[I" ∈ wsX9_worthOf := by decide +kernel
theorem ly_X9_worthOf_9 : ∀ w ∈ wsX90, w ∈ wsX9_worthOf := fun w h => List.mem_cons_of_mem _ (List.mem_append_right _ h)
set_option maxRecDepth 100000 in
set_option maxHeartbeats 4000000 in
theorem k_X9_worthOf (x1 : Int32) (S : gw_S) {zr : Int32} (h : f_X9_worthOf x1 S = some zr) : gw_M l yX9_worthOf wsX9_worthOf rm_X9_worthOf 0 0 D (gw_ty cc) t1 t2 [.ref (a 0), .int x1] (gw_mw cc a S) (fun w => w = gw_mw cc a S) (some (.int zr)) := by
  refine gw_enter (cc := cX9_worthOf) (maxL := 3) (ret := (some .int)) (own := RX9) rfl (by decide) rfl (Nat.le_of_ble_eq_true rfl) ?_
  intro p e s m below meth c A B hin hI ls hl
  have hl : lv_has ls 3 [(0, .ref (a 0)), (1, .int x1)] := hl
  generalize ([.ref (a 0), .int x1] : List Value).toArray = args at B ⊢
  have hx := B.1.1
  have hb := B.1.2.1
  have hown : s.vm.findClass RX9 = some m.cls := B.1.2.2.2.1
  have hts := B.1.2.2.2.2
  have hb32 :  ∀ (v1 : Int32) (t0_ : Int32), f_X9_worthOf_b32 S  v1 t0_ = some zr → ∀ (H : Heap) (locs : List Loc) (ls : Array Slot), gw_I D A s.heap (gw_mw cc a S) H locs → lv_has ls 3 [(0, .ref (a 0)), (1, .int v1)] → W p l e rm_X9_worthOf s m args below meth c H locs 0 0 (MQ below (gw_Q (some (.int zr)) (gw_Pst D A (fun w => w = gw_mw cc a S)) A) args s 0 0 A) (F0 m 32 ls [.int t0_]) := by
    intro v1 t0_ h H locs ls hI hl
    unfold f_X9_worthOf_b32 at h
    refine lv_istore_n (lv' := [(2, .int t0_), (0, .ref (a 0)), (1, .int v1)]) hx hb dX9_worthOf_32 rfl hl (by decide) rfl (fun ls hl => ?_)
    refine lv_aload_n hx hb dX9_worthOf_33 rfl (lv_at hl 1 rfl) ?_
    refine gw_get (T := TX9) (k := 14) (v := .ref (a 12)) B hI gm_g0 rfl ly_X9_worthOf_9 (by decide) m_X9_worthOf_43 rfl rfl dX9_worthOf_34 ?_
    refine lv_iload_n hx hb dX9_worthOf_37 rfl (lv_at hl 2 rfl) ?_
    obtain ⟨g1, h⟩ := gw_gdE h
    refine gw_iald (t0 := 0) B hI gm_g12 rfl g1 dX9_worthOf_38 ?_
    refine lv_iload_n hx hb dX9_worthOf_39 rfl (lv_at hl 0 rfl) ?_
    refine lv_imul hx hb dX9_worthOf_40 ?_
    refine lv_aload_n hx hb dX9_worthOf_41 rfl (lv_at hl 1 rfl) ?_
    refine gw_get (T := TX9) (k := 15) (v := .ref (a 13)) B hI gm_g0 rfl ly_X9_worthOf_9 (by decide) m_X9_worthOf_46 rfl rfl dX9_worthOf_42 ?_
    refine lv_iload_n hx hb dX9_worthOf_45 rfl (lv_at hl 2 rfl) ?_
    refine gw_iald (t0 := 0) B hI gm_g13 rfl g1 dX9_worthOf_46 ?_
    obtain ⟨g2, h⟩ := gw_gdE h
    refine lv_idiv hx hb dX9_worthOf_47 g2 ?_
    rw [← Option.some.inj h]
    exact gw_iret (W' := (fun w => w = gw_mw cc a S)) B hI rfl (Nat.zero_le _) (Nat.zero_le _) dX9_worthOf_48
  unfold f_X9_worthOf at h
  refine lv_aload_n hx hb dX9_worthOf_0 rfl (lv_at hl 0 rfl) ?_
  refine gw_get (T := TX9) (k := 15) (v := .ref (a 13)) B hI gm_g0 rfl ly_X9_worthOf_9 (by decide) m_X9_worthOf_46 rfl rfl dX9_worthOf_1 ?_
  refine lv_iload_n hx hb dX9_worthOf_4 rfl (lv_at hl 1 rfl) ?_
  obtain ⟨g3, h⟩ := gw_gdE h
  refine gw_iald (t0 := 0) B hI gm_g13 rfl g3 dX9_worthOf_5 ?_
  refine lv_aload_n hx hb dX9_worthOf_6 rfl (lv_at hl 0 rfl) ?_
  refine gw_get (T := TX9) (k := 17) (v := .ref (a 15)) B hI gm_g0 rfl ly_X9_worthOf_9 (by decide) m_X9_worthOf_52 rfl rfl dX9_worthOf_7 ?_
  refine lv_iload_n hx hb dX9_worthOf_10 rfl (lv_at hl 1 rfl) ?_
  refine gw_iald (t0 := 0) B hI gm_g15 rfl g3 dX9_worthOf_11 ?_
  refine lv_icmp_le (tgt := 31) hx hb dX9_worthOf_12 (by decide) (fun c4 => ?_) (fun c4 => ?_)
  · replace h := gw_ifT c4 h
    refine lv_iconst (v := 0) hx hb dX9_worthOf_31 (by decide) ?_
    exact hb32  x1 (0 : Int32) h _ _ _ hI (lv_sub hl [0, 1] rfl)
  · replace h := gw_ifF c4 h
    refine lv_aload_n hx hb dX9_worthOf_15 rfl (lv_at hl 0 rfl) ?_
    refine gw_get (T := TX9) (k := 15) (v := .ref (a 13)) B hI gm_g0 rfl ly_X9_worthOf_9 (by decide) m_X9_worthOf_46 rfl rfl dX9_worthOf_16 ?_
    refine lv_iload_n hx hb dX9_worthOf_19 rfl (lv_at hl 1 rfl) ?_
    refine gw_iald (t0 := 0) B hI gm_g13 rfl g3 dX9_worthOf_20 ?_
    refine lv_aload_n hx hb dX9_worthOf_21 rfl (lv_at hl 0 rfl) ?_
    refine gw_get (T := TX9) (k := 17) (v := .ref (a 15)) B hI gm_g0 rfl ly_X9_worthOf_9 (by decide) m_X9_worthOf_52 rfl rfl dX9_worthOf_22 ?_
    refine lv_iload_n hx hb dX9_worthOf_25 rfl (lv_at hl 1 rfl) ?_
    refine gw_iald (t0 := 0) B hI gm_g15 rfl g3 dX9_worthOf_26 ?_
    refine lv_isub hx hb dX9_worthOf_27 ?_
    refine lv_goto (tgt := 32) hx hb dX9_worthOf_28 (by decide) ?_
    exact hb32  x1 ((S 13 x1.toNatClampNeg) - (S 15 x1.toNatClampNeg)) h _ _ _ hI (lv_sub hl [0, 1] rfl)
theorem m_X9_told_28 : Cond.fieldLink RX9 28 "GownLetModel" "kinds" "[I" ∈ wsX9_told := by decide +kernel
theorem m_X9_told_31 : Cond.fieldLink RX9 31 "GownLetModel" "makers" "[I" ∈ wsX9_told := by decide +kernel
theorem m_X9_told_34 : Cond.fieldLink RX9 34 "GownLetModel" "labels" "[I" ∈ wsX9_told := by decide +kernel
theorem m_X9_told_37 : Cond.fieldLink RX9 37 "GownLetModel" "lots" "[I" ∈ wsX9_told := by decide +kernel
theorem m_X9_told_40 : Cond.fieldLink RX9 40 "GownLetModel" "towns" "[I" ∈ wsX9_told := by decide +kernel
theorem m_X9_told_43 : Cond.fieldLink RX9 43 "GownLetModel" "prices" "[I" ∈ wsX9_told := by decide +kernel
theorem m_X9_told_52 : Cond.fieldLink RX9 52 "GownLetModel" "worn" "[I" ∈ wsX9_told := by decide +kernel
theorem m_X9_told_59 : Cond.fieldLink RX9 59 "GownLetModel" "isTorn" "[Z" ∈ wsX9_told := by decide +kernel
theorem m_X9_told_62 : Cond.fieldLink RX9 62 "GownLetModel" "tornFrom" "[I" ∈ wsX9_told := by decide +kernel
theorem ly_X9_told_9 : ∀ w ∈ wsX90, w ∈ wsX9_told := fun w h => List.mem_cons_of_mem _ (List.mem_append_right _ h)
set_option maxRecDepth 100000 in
set_option maxHeartbeats 4000000 in
theorem k_X9_told (x1 : Int32) (x2 : Int32) (S : gw_S) {zr : Int32} (h : f_X9_told x1 x2 S = some zr) : gw_M l yX9_told wsX9_told rm_X9_told 0 0 D (gw_ty cc) t1 t2 [.ref (a 0), .int x1, .int x2] (gw_mw cc a S) (fun w => w = gw_mw cc a S) (some (.int zr)) := by
  refine gw_enter (cc := cX9_told) (maxL := 3) (ret := (some .int)) (own := RX9) rfl (by decide) rfl (Nat.le_of_ble_eq_true rfl) ?_
  intro p e s m below meth c A B hin hI ls hl
  have hl : lv_has ls 3 [(0, .ref (a 0)), (1, .int x1), (2, .int x2)] := hl
  generalize ([.ref (a 0), .int x1, .int x2] : List Value).toArray = args at B ⊢
  have hx := B.1.1
  have hb := B.1.2.1
  have hown : s.vm.findClass RX9 = some m.cls := B.1.2.2.2.1
  have hts := B.1.2.2.2.2
  unfold f_X9_told at h
  refine lv_aload_n hx hb dX9_told_0 rfl (lv_at hl 0 rfl) ?_
  refine lv_iload_n hx hb dX9_told_1 rfl (lv_at hl 1 rfl) ?_
  obtain ⟨r1, e2, h⟩ := gw_bdE h
  refine gw_callV (As := [.int x1]) (n := 1) B hI (k_X9_isPiece x1 S e2) gX9_told_X9_isPiece rfl rfl rfl nd_X9_isPiece ⟨Nat.le_of_ble_eq_true rfl, Nat.le_of_ble_eq_true rfl⟩ gm_g0 rfl rfl rfl hl.1 (Nat.zero_le _) dX9_told_2 ⟨Nat.le_of_ble_eq_true rfl, Nat.le_of_ble_eq_true rfl⟩ rfl (fun w' H locs hw hI => ?_)
  subst hw
  refine lv_if_ne (tgt := 10) hx hb dX9_told_5 (by decide) (fun c3 => ?_) (fun c3 => ?_)
  · replace h := gw_ifF c3 h
    refine lv_iload_n hx hb dX9_told_10 rfl (lv_at hl 2 rfl) ?_
    by_cases c4 : x2 = 0
    · replace h := gw_ifT c4 h
      refine gw_tabIn (k := 0) (off := 53) (tgt := 64) B c4 dX9_told_11 (by decide) (by decide) ?_
      refine lv_aload_n hx hb dX9_told_64 rfl (lv_at hl 0 rfl) ?_
      refine gw_get (T := TX9) (k := 9) (v := .ref (a 7)) B hI gm_g0 rfl ly_X9_told_9 (by decide) m_X9_told_28 rfl rfl dX9_told_65 ?_
      refine lv_iload_n hx hb dX9_told_68 rfl (lv_at hl 1 rfl) ?_
      obtain ⟨g5, h⟩ := gw_gdE h
      refine gw_iald (t0 := 0) B hI gm_g7 rfl g5 dX9_told_69 ?_
      rw [← Option.some.inj h]
      exact gw_iret (W' := (fun w => w = gw_mw cc a S)) B hI rfl (Nat.zero_le _) (Nat.zero_le _) dX9_told_70
    · replace h := gw_ifF c4 h
      by_cases c6 : x2 = 1
      · replace h := gw_ifT c6 h
        refine gw_tabIn (k := 1) (off := 60) (tgt := 71) B c6 dX9_told_11 (by decide) (by decide) ?_
        refine lv_aload_n hx hb dX9_told_71 rfl (lv_at hl 0 rfl) ?_
        refine gw_get (T := TX9) (k := 10) (v := .ref (a 8)) B hI gm_g0 rfl ly_X9_told_9 (by decide) m_X9_told_31 rfl rfl dX9_told_72 ?_
        refine lv_iload_n hx hb dX9_told_75 rfl (lv_at hl 1 rfl) ?_
        obtain ⟨g7, h⟩ := gw_gdE h
        refine gw_iald (t0 := 0) B hI gm_g8 rfl g7 dX9_told_76 ?_
        rw [← Option.some.inj h]
        exact gw_iret (W' := (fun w => w = gw_mw cc a S)) B hI rfl (Nat.zero_le _) (Nat.zero_le _) dX9_told_77
      · replace h := gw_ifF c6 h
        by_cases c8 : x2 = 2
        · replace h := gw_ifT c8 h
          refine gw_tabIn (k := 2) (off := 67) (tgt := 78) B c8 dX9_told_11 (by decide) (by decide) ?_
          refine lv_aload_n hx hb dX9_told_78 rfl (lv_at hl 0 rfl) ?_
          refine gw_get (T := TX9) (k := 11) (v := .ref (a 9)) B hI gm_g0 rfl ly_X9_told_9 (by decide) m_X9_told_34 rfl rfl dX9_told_79 ?_
          refine lv_iload_n hx hb dX9_told_82 rfl (lv_at hl 1 rfl) ?_
          obtain ⟨g9, h⟩ := gw_gdE h
          refine gw_iald (t0 := 0) B hI gm_g9 rfl g9 dX9_told_83 ?_
          rw [← Option.some.inj h]
          exact gw_iret (W' := (fun w => w = gw_mw cc a S)) B hI rfl (Nat.zero_le _) (Nat.zero_le _) dX9_told_84
        · replace h := gw_ifF c8 h
          by_cases c10 : x2 = 3
          · replace h := gw_ifT c10 h
            refine gw_tabIn (k := 3) (off := 74) (tgt := 85) B c10 dX9_told_11 (by decide) (by decide) ?_
            refine lv_aload_n hx hb dX9_told_85 rfl (lv_at hl 0 rfl) ?_
            refine gw_get (T := TX9) (k := 12) (v := .ref (a 10)) B hI gm_g0 rfl ly_X9_told_9 (by decide) m_X9_told_37 rfl rfl dX9_told_86 ?_
            refine lv_iload_n hx hb dX9_told_89 rfl (lv_at hl 1 rfl) ?_
            obtain ⟨g11, h⟩ := gw_gdE h
            refine gw_iald (t0 := 0) B hI gm_g10 rfl g11 dX9_told_90 ?_
            rw [← Option.some.inj h]
            exact gw_iret (W' := (fun w => w = gw_mw cc a S)) B hI rfl (Nat.zero_le _) (Nat.zero_le _) dX9_told_91
          · replace h := gw_ifF c10 h
            by_cases c12 : x2 = 4
            · replace h := gw_ifT c12 h
              refine gw_tabIn (k := 4) (off := 81) (tgt := 92) B c12 dX9_told_11 (by decide) (by decide) ?_
              refine lv_aload_n hx hb dX9_told_92 rfl (lv_at hl 0 rfl) ?_
              refine gw_get (T := TX9) (k := 13) (v := .ref (a 11)) B hI gm_g0 rfl ly_X9_told_9 (by decide) m_X9_told_40 rfl rfl dX9_told_93 ?_
              refine lv_iload_n hx hb dX9_told_96 rfl (lv_at hl 1 rfl) ?_
              obtain ⟨g13, h⟩ := gw_gdE h
              refine gw_iald (t0 := 0) B hI gm_g11 rfl g13 dX9_told_97 ?_
              rw [← Option.some.inj h]
              exact gw_iret (W' := (fun w => w = gw_mw cc a S)) B hI rfl (Nat.zero_le _) (Nat.zero_le _) dX9_told_98
            · replace h := gw_ifF c12 h
              by_cases c14 : x2 = 5
              · replace h := gw_ifT c14 h
                refine gw_tabIn (k := 5) (off := 88) (tgt := 99) B c14 dX9_told_11 (by decide) (by decide) ?_
                refine lv_aload_n hx hb dX9_told_99 rfl (lv_at hl 0 rfl) ?_
                refine gw_get (T := TX9) (k := 14) (v := .ref (a 12)) B hI gm_g0 rfl ly_X9_told_9 (by decide) m_X9_told_43 rfl rfl dX9_told_100 ?_
                refine lv_iload_n hx hb dX9_told_103 rfl (lv_at hl 1 rfl) ?_
                obtain ⟨g15, h⟩ := gw_gdE h
                refine gw_iald (t0 := 0) B hI gm_g12 rfl g15 dX9_told_104 ?_
                rw [← Option.some.inj h]
                exact gw_iret (W' := (fun w => w = gw_mw cc a S)) B hI rfl (Nat.zero_le _) (Nat.zero_le _) dX9_told_105
              · replace h := gw_ifF c14 h
                by_cases c16 : x2 = 6
                · replace h := gw_ifT c16 h
                  refine gw_tabIn (k := 6) (off := 95) (tgt := 106) B c16 dX9_told_11 (by decide) (by decide) ?_
                  refine lv_aload_n hx hb dX9_told_106 rfl (lv_at hl 0 rfl) ?_
                  refine gw_get (T := TX9) (k := 17) (v := .ref (a 15)) B hI gm_g0 rfl ly_X9_told_9 (by decide) m_X9_told_52 rfl rfl dX9_told_107 ?_
                  refine lv_iload_n hx hb dX9_told_110 rfl (lv_at hl 1 rfl) ?_
                  obtain ⟨g17, h⟩ := gw_gdE h
                  refine gw_iald (t0 := 0) B hI gm_g15 rfl g17 dX9_told_111 ?_
                  rw [← Option.some.inj h]
                  exact gw_iret (W' := (fun w => w = gw_mw cc a S)) B hI rfl (Nat.zero_le _) (Nat.zero_le _) dX9_told_112
                · replace h := gw_ifF c16 h
                  by_cases c18 : x2 = 7
                  · replace h := gw_ifT c18 h
                    refine gw_tabIn (k := 7) (off := 102) (tgt := 113) B c18 dX9_told_11 (by decide) (by decide) ?_
                    refine lv_aload_n hx hb dX9_told_113 rfl (lv_at hl 0 rfl) ?_
                    refine lv_iload_n hx hb dX9_told_114 rfl (lv_at hl 1 rfl) ?_
                    obtain ⟨r19, e20, h⟩ := gw_bdE h
                    refine gw_callV (As := [.int x1]) (n := 1) B hI (k_X9_worthOf x1 S e20) gX9_told_X9_worthOf rfl rfl rfl nd_X9_worthOf ⟨Nat.le_of_ble_eq_true rfl, Nat.le_of_ble_eq_true rfl⟩ gm_g0 rfl rfl rfl hl.1 (Nat.zero_le _) dX9_told_115 ⟨Nat.le_of_ble_eq_true rfl, Nat.le_of_ble_eq_true rfl⟩ rfl (fun w' H locs hw hI => ?_)
                    subst hw
                    rw [← Option.some.inj h]
                    exact gw_iret (W' := (fun w => w = gw_mw cc a S)) B hI rfl (Nat.zero_le _) (Nat.zero_le _) dX9_told_118
                  · replace h := gw_ifF c18 h
                    by_cases c21 : x2 = 8
                    · replace h := gw_ifT c21 h
                      refine gw_tabIn (k := 8) (off := 108) (tgt := 119) B c21 dX9_told_11 (by decide) (by decide) ?_
                      refine lv_aload_n hx hb dX9_told_119 rfl (lv_at hl 0 rfl) ?_
                      refine lv_iload_n hx hb dX9_told_120 rfl (lv_at hl 1 rfl) ?_
                      obtain ⟨r22, e23, h⟩ := gw_bdE h
                      refine gw_callV (As := [.int x1]) (n := 1) B hI (k_X9_isRetired x1 S e23) gX9_told_X9_isRetired rfl rfl rfl nd_X9_isRetired ⟨Nat.le_of_ble_eq_true rfl, Nat.le_of_ble_eq_true rfl⟩ gm_g0 rfl rfl rfl hl.1 (Nat.zero_le _) dX9_told_121 ⟨Nat.le_of_ble_eq_true rfl, Nat.le_of_ble_eq_true rfl⟩ rfl (fun w' H locs hw hI => ?_)
                      subst hw
                      refine lv_if_eq (tgt := 131) hx hb dX9_told_124 (by decide) (fun c24 => ?_) (fun c24 => ?_)
                      · replace h := gw_ifT c24 h
                        refine lv_iconst (v := 0) hx hb dX9_told_131 (by decide) ?_
                        rw [← Option.some.inj h]
                        exact gw_iret (W' := (fun w => w = gw_mw cc a S)) B hI rfl (Nat.zero_le _) (Nat.zero_le _) dX9_told_132
                      · replace h := gw_ifF c24 h
                        refine lv_iconst (v := 1) hx hb dX9_told_127 (by decide) ?_
                        refine lv_goto (tgt := 132) hx hb dX9_told_128 (by decide) ?_
                        rw [← Option.some.inj h]
                        exact gw_iret (W' := (fun w => w = gw_mw cc a S)) B hI rfl (Nat.zero_le _) (Nat.zero_le _) dX9_told_132
                    · replace h := gw_ifF c21 h
                      by_cases c25 : x2 = 9
                      · replace h := gw_ifT c25 h
                        refine gw_tabIn (k := 9) (off := 122) (tgt := 133) B c25 dX9_told_11 (by decide) (by decide) ?_
                        refine lv_aload_n hx hb dX9_told_133 rfl (lv_at hl 0 rfl) ?_
                        refine gw_get (T := TX9) (k := 19) (v := .ref (a 17)) B hI gm_g0 rfl ly_X9_told_9 (by decide) m_X9_told_59 rfl rfl dX9_told_134 ?_
                        refine lv_iload_n hx hb dX9_told_137 rfl (lv_at hl 1 rfl) ?_
                        obtain ⟨g26, h⟩ := gw_gdE h
                        refine gw_zald (t0 := 2) B hI gm_g17 rfl g26 dX9_told_138 ?_
                        refine lv_if_eq (tgt := 151) hx hb dX9_told_139 (by decide) (fun c27 => ?_) (fun c27 => ?_)
                        · replace h := gw_ifT c27 h
                          refine lv_bipush (v := -4) hx hb dX9_told_151 (by decide) ?_
                          rw [← Option.some.inj h]
                          exact gw_iret (W' := (fun w => w = gw_mw cc a S)) B hI rfl (Nat.zero_le _) (Nat.zero_le _) dX9_told_153
                        · replace h := gw_ifF c27 h
                          refine lv_aload_n hx hb dX9_told_142 rfl (lv_at hl 0 rfl) ?_
                          refine gw_get (T := TX9) (k := 20) (v := .ref (a 18)) B hI gm_g0 rfl ly_X9_told_9 (by decide) m_X9_told_62 rfl rfl dX9_told_143 ?_
                          refine lv_iload_n hx hb dX9_told_146 rfl (lv_at hl 1 rfl) ?_
                          refine gw_iald (t0 := 0) B hI gm_g18 rfl g26 dX9_told_147 ?_
                          refine lv_goto (tgt := 153) hx hb dX9_told_148 (by decide) ?_
                          rw [← Option.some.inj h]
                          exact gw_iret (W' := (fun w => w = gw_mw cc a S)) B hI rfl (Nat.zero_le _) (Nat.zero_le _) dX9_told_153
                      · replace h := gw_ifF c25 h
                        refine lv_tableOut (tgt := 154) hx hb dX9_told_11 (gw_out10 c4 c6 c8 c10 c12 c14 c16 c18 c21 c25) (by decide) ?_
                        refine lv_iconst (v := -1) hx hb dX9_told_154 (by decide) ?_
                        rw [← Option.some.inj h]
                        exact gw_iret (W' := (fun w => w = gw_mw cc a S)) B hI rfl (Nat.zero_le _) (Nat.zero_le _) dX9_told_155
  · replace h := gw_ifT c3 h
    refine lv_iconst (v := -1) hx hb dX9_told_8 (by decide) ?_
    rw [← Option.some.inj h]
    exact gw_iret (W' := (fun w => w = gw_mw cc a S)) B hI rfl (Nat.zero_le _) (Nat.zero_le _) dX9_told_9
theorem m_X9_same_221 : Cond.fieldLink RX9 221 "GownLetModel" "doubles" "I" ∈ wsX9_same := by decide +kernel
theorem m_X9_same_65 : Cond.fieldLink RX9 65 "GownLetModel" "oneMaker" "[I" ∈ wsX9_same := by decide +kernel
theorem m_X9_same_68 : Cond.fieldLink RX9 68 "GownLetModel" "oneLabel" "[I" ∈ wsX9_same := by decide +kernel
theorem m_X9_same_71 : Cond.fieldLink RX9 71 "GownLetModel" "otherMaker" "[I" ∈ wsX9_same := by decide +kernel
theorem m_X9_same_74 : Cond.fieldLink RX9 74 "GownLetModel" "otherLabel" "[I" ∈ wsX9_same := by decide +kernel
theorem ly_X9_same_9 : ∀ w ∈ wsX90, w ∈ wsX9_same := fun w h => List.mem_cons_of_mem _ (List.mem_append_right _ h)
set_option maxRecDepth 100000 in
set_option maxHeartbeats 4000000 in
theorem k_X9_same (x1 : Int32) (x2 : Int32) (x3 : Int32) (x4 : Int32) (S : gw_S) {zr : Int32} {zS : gw_S} (h : f_X9_same x1 x2 x3 x4 S = some (zr, zS)) : gw_M l yX9_same wsX9_same rm_X9_same 0 0 D (gw_ty cc) t1 t2 [.ref (a 0), .int x1, .int x2, .int x3, .int x4] (gw_mw cc a S) (fun w => w = gw_mw cc a zS) (some (.int zr)) := by
  refine gw_enter (cc := cX9_same) (maxL := 5) (ret := (some .int)) (own := RX9) rfl (by decide) rfl (Nat.le_of_ble_eq_true rfl) ?_
  intro p e s m below meth c A B hin hI ls hl
  have hl : lv_has ls 5 [(0, .ref (a 0)), (1, .int x1), (2, .int x2), (3, .int x3), (4, .int x4)] := hl
  generalize ([.ref (a 0), .int x1, .int x2, .int x3, .int x4] : List Value).toArray = args at B ⊢
  have hx := B.1.1
  have hb := B.1.2.1
  have hown : s.vm.findClass RX9 = some m.cls := B.1.2.2.2.1
  have hts := B.1.2.2.2.2
  unfold f_X9_same at h
  refine lv_iload_n hx hb dX9_same_0 rfl (lv_at hl 1 rfl) ?_
  obtain ⟨r1, e2, h⟩ := gw_bdE h
  refine gw_callS (As := [.int x1]) (n := 1) B hI (k_X9_isMaker x1 S e2) gX9_same_X9_isMaker rfl rfl rfl nds_X9_isMaker ⟨Nat.le_of_ble_eq_true rfl, Nat.le_of_ble_eq_true rfl⟩ rfl hl.1 (Nat.zero_le _) dX9_same_1 ⟨Nat.le_of_ble_eq_true rfl, Nat.le_of_ble_eq_true rfl⟩ rfl (fun w' H locs hw hI => ?_)
  subst hw
  refine lv_if_eq (tgt := 34) hx hb dX9_same_4 (by decide) (fun c3 => ?_) (fun c3 => ?_)
  · replace h := gw_ifT c3 h
    refine lv_iconst (v := -1) hx hb dX9_same_34 (by decide) ?_
    obtain ⟨h1, h2⟩ := Prod.mk.inj (Option.some.inj h)
    rw [h2] at hI
    rw [← h1]
    exact gw_iret (W' := (fun w => w = gw_mw cc a zS)) B hI rfl (Nat.zero_le _) (Nat.zero_le _) dX9_same_35
  · replace h := gw_ifF c3 h
    refine lv_iload_n hx hb dX9_same_7 rfl (lv_at hl 2 rfl) ?_
    obtain ⟨r4, e5, h⟩ := gw_bdE h
    refine gw_callS (As := [.int x2]) (n := 1) B hI (k_X9_isLabel x2 S e5) gX9_same_X9_isLabel rfl rfl rfl nds_X9_isLabel ⟨Nat.le_of_ble_eq_true rfl, Nat.le_of_ble_eq_true rfl⟩ rfl hl.1 (Nat.zero_le _) dX9_same_8 ⟨Nat.le_of_ble_eq_true rfl, Nat.le_of_ble_eq_true rfl⟩ rfl (fun w' H locs hw hI => ?_)
    subst hw
    refine lv_if_eq (tgt := 34) hx hb dX9_same_11 (by decide) (fun c6 => ?_) (fun c6 => ?_)
    · replace h := gw_ifT c6 h
      refine lv_iconst (v := -1) hx hb dX9_same_34 (by decide) ?_
      obtain ⟨h1, h2⟩ := Prod.mk.inj (Option.some.inj h)
      rw [h2] at hI
      rw [← h1]
      exact gw_iret (W' := (fun w => w = gw_mw cc a zS)) B hI rfl (Nat.zero_le _) (Nat.zero_le _) dX9_same_35
    · replace h := gw_ifF c6 h
      refine lv_iload_n hx hb dX9_same_14 rfl (lv_at hl 3 rfl) ?_
      obtain ⟨r7, e8, h⟩ := gw_bdE h
      refine gw_callS (As := [.int x3]) (n := 1) B hI (k_X9_isMaker x3 S e8) gX9_same_X9_isMaker rfl rfl rfl nds_X9_isMaker ⟨Nat.le_of_ble_eq_true rfl, Nat.le_of_ble_eq_true rfl⟩ rfl hl.1 (Nat.zero_le _) dX9_same_15 ⟨Nat.le_of_ble_eq_true rfl, Nat.le_of_ble_eq_true rfl⟩ rfl (fun w' H locs hw hI => ?_)
      subst hw
      refine lv_if_eq (tgt := 34) hx hb dX9_same_18 (by decide) (fun c9 => ?_) (fun c9 => ?_)
      · replace h := gw_ifT c9 h
        refine lv_iconst (v := -1) hx hb dX9_same_34 (by decide) ?_
        obtain ⟨h1, h2⟩ := Prod.mk.inj (Option.some.inj h)
        rw [h2] at hI
        rw [← h1]
        exact gw_iret (W' := (fun w => w = gw_mw cc a zS)) B hI rfl (Nat.zero_le _) (Nat.zero_le _) dX9_same_35
      · replace h := gw_ifF c9 h
        refine lv_iload hx hb dX9_same_21 (lv_at hl 4 rfl) ?_
        obtain ⟨r10, e11, h⟩ := gw_bdE h
        refine gw_callS (As := [.int x4]) (n := 1) B hI (k_X9_isLabel x4 S e11) gX9_same_X9_isLabel rfl rfl rfl nds_X9_isLabel ⟨Nat.le_of_ble_eq_true rfl, Nat.le_of_ble_eq_true rfl⟩ rfl hl.1 (Nat.zero_le _) dX9_same_23 ⟨Nat.le_of_ble_eq_true rfl, Nat.le_of_ble_eq_true rfl⟩ rfl (fun w' H locs hw hI => ?_)
        subst hw
        refine lv_if_eq (tgt := 34) hx hb dX9_same_26 (by decide) (fun c12 => ?_) (fun c12 => ?_)
        · replace h := gw_ifT c12 h
          refine lv_iconst (v := -1) hx hb dX9_same_34 (by decide) ?_
          obtain ⟨h1, h2⟩ := Prod.mk.inj (Option.some.inj h)
          rw [h2] at hI
          rw [← h1]
          exact gw_iret (W' := (fun w => w = gw_mw cc a zS)) B hI rfl (Nat.zero_le _) (Nat.zero_le _) dX9_same_35
        · replace h := gw_ifF c12 h
          refine lv_iload_n hx hb dX9_same_29 rfl (lv_at hl 1 rfl) ?_
          refine lv_iload_n hx hb dX9_same_30 rfl (lv_at hl 3 rfl) ?_
          refine lv_icmp_ne (tgt := 36) hx hb dX9_same_31 (by decide) (fun c13 => ?_) (fun c13 => ?_)
          · replace h := gw_ifF c13 h
            refine lv_aload_n hx hb dX9_same_36 rfl (lv_at hl 0 rfl) ?_
            refine gw_get (T := TX9) (k := 21) (v := .int (S 0 21)) B hI gm_g0 rfl ly_X9_same_9 (by decide) m_X9_same_221 rfl rfl dX9_same_37 ?_
            refine lv_bipush (v := 20) hx hb dX9_same_40 (by decide) ?_
            refine lv_icmp_ne (tgt := 48) hx hb dX9_same_42 (by decide) (fun c14 => ?_) (fun c14 => ?_)
            · replace h := gw_ifF c14 h
              refine lv_aload_n hx hb dX9_same_48 rfl (lv_at hl 0 rfl) ?_
              refine gw_get (T := TX9) (k := 22) (v := .ref (a 19)) B hI gm_g0 rfl ly_X9_same_9 (by decide) m_X9_same_65 rfl rfl dX9_same_49 ?_
              refine lv_aload_n hx hb dX9_same_52 rfl (lv_at hl 0 rfl) ?_
              refine gw_get (T := TX9) (k := 21) (v := .int (S 0 21)) B hI gm_g0 rfl ly_X9_same_9 (by decide) m_X9_same_221 rfl rfl dX9_same_53 ?_
              refine lv_iload_n hx hb dX9_same_56 rfl (lv_at hl 1 rfl) ?_
              obtain ⟨g15, h⟩ := gw_gdE h
              obtain ⟨S16, e17, h⟩ := gw_letE h
              refine gw_iast (t0 := 0) (w' := gw_mw cc a S16) B hI gm_g19 rfl g15 (gm_s19 e17) dX9_same_57 (fun H locs hI => ?_)
              refine lv_aload_n hx hb dX9_same_58 rfl (lv_at hl 0 rfl) ?_
              refine gw_get (T := TX9) (k := 23) (v := .ref (a 20)) B hI gm_g0 rfl ly_X9_same_9 (by decide) m_X9_same_68 rfl rfl dX9_same_59 ?_
              refine lv_aload_n hx hb dX9_same_62 rfl (lv_at hl 0 rfl) ?_
              refine gw_get (T := TX9) (k := 21) (v := .int (S16 0 21)) B hI gm_g0 rfl ly_X9_same_9 (by decide) m_X9_same_221 rfl rfl dX9_same_63 ?_
              refine lv_iload_n hx hb dX9_same_66 rfl (lv_at hl 2 rfl) ?_
              obtain ⟨g18, h⟩ := gw_gdE h
              obtain ⟨S19, e20, h⟩ := gw_letE h
              refine gw_iast (t0 := 0) (w' := gw_mw cc a S19) B hI gm_g20 rfl g18 (gm_s20 e20) dX9_same_67 (fun H locs hI => ?_)
              refine lv_aload_n hx hb dX9_same_68 rfl (lv_at hl 0 rfl) ?_
              refine gw_get (T := TX9) (k := 24) (v := .ref (a 21)) B hI gm_g0 rfl ly_X9_same_9 (by decide) m_X9_same_71 rfl rfl dX9_same_69 ?_
              refine lv_aload_n hx hb dX9_same_72 rfl (lv_at hl 0 rfl) ?_
              refine gw_get (T := TX9) (k := 21) (v := .int (S19 0 21)) B hI gm_g0 rfl ly_X9_same_9 (by decide) m_X9_same_221 rfl rfl dX9_same_73 ?_
              refine lv_iload_n hx hb dX9_same_76 rfl (lv_at hl 3 rfl) ?_
              obtain ⟨g21, h⟩ := gw_gdE h
              obtain ⟨S22, e23, h⟩ := gw_letE h
              refine gw_iast (t0 := 0) (w' := gw_mw cc a S22) B hI gm_g21 rfl g21 (gm_s21 e23) dX9_same_77 (fun H locs hI => ?_)
              refine lv_aload_n hx hb dX9_same_78 rfl (lv_at hl 0 rfl) ?_
              refine gw_get (T := TX9) (k := 25) (v := .ref (a 22)) B hI gm_g0 rfl ly_X9_same_9 (by decide) m_X9_same_74 rfl rfl dX9_same_79 ?_
              refine lv_aload_n hx hb dX9_same_82 rfl (lv_at hl 0 rfl) ?_
              refine gw_get (T := TX9) (k := 21) (v := .int (S22 0 21)) B hI gm_g0 rfl ly_X9_same_9 (by decide) m_X9_same_221 rfl rfl dX9_same_83 ?_
              refine lv_iload hx hb dX9_same_86 (lv_at hl 4 rfl) ?_
              obtain ⟨g24, h⟩ := gw_gdE h
              obtain ⟨S25, e26, h⟩ := gw_letE h
              refine gw_iast (t0 := 0) (w' := gw_mw cc a S25) B hI gm_g22 rfl g24 (gm_s22 e26) dX9_same_88 (fun H locs hI => ?_)
              refine lv_aload_n hx hb dX9_same_89 rfl (lv_at hl 0 rfl) ?_
              refine lv_dup hx hb dX9_same_90 rfl ?_
              refine gw_get (T := TX9) (k := 21) (v := .int (S25 0 21)) B hI gm_g0 rfl ly_X9_same_9 (by decide) m_X9_same_221 rfl rfl dX9_same_91 ?_
              refine lv_iconst (v := 1) hx hb dX9_same_94 (by decide) ?_
              refine lv_iadd hx hb dX9_same_95 ?_
              obtain ⟨S27, e28, h⟩ := gw_letE h
              refine gw_put (T := TX9) (k := 21) (w' := gw_mw cc a S27) B hI gm_g0 rfl ly_X9_same_9 tyX9 tyX9_ok nmX9 (by decide) m_X9_same_221 rfl rfl rfl rfl (Nat.le_of_ble_eq_true rfl) (gm_s0_21 e28) dX9_same_96 (fun H locs hI => ?_)
              refine lv_aload_n hx hb dX9_same_99 rfl (lv_at hl 0 rfl) ?_
              refine gw_get (T := TX9) (k := 21) (v := .int (S27 0 21)) B hI gm_g0 rfl ly_X9_same_9 (by decide) m_X9_same_221 rfl rfl dX9_same_100 ?_
              refine lv_iconst (v := 1) hx hb dX9_same_103 (by decide) ?_
              refine lv_isub hx hb dX9_same_104 ?_
              obtain ⟨h1, h2⟩ := Prod.mk.inj (Option.some.inj h)
              rw [h2] at hI
              rw [← h1]
              exact gw_iret (W' := (fun w => w = gw_mw cc a zS)) B hI rfl (Nat.zero_le _) (Nat.zero_le _) dX9_same_105
            · replace h := gw_ifT c14 h
              refine lv_bipush (v := -3) hx hb dX9_same_45 (by decide) ?_
              obtain ⟨h1, h2⟩ := Prod.mk.inj (Option.some.inj h)
              rw [h2] at hI
              rw [← h1]
              exact gw_iret (W' := (fun w => w = gw_mw cc a zS)) B hI rfl (Nat.zero_le _) (Nat.zero_le _) dX9_same_47
          · replace h := gw_ifT c13 h
            refine lv_iconst (v := -1) hx hb dX9_same_34 (by decide) ?_
            obtain ⟨h1, h2⟩ := Prod.mk.inj (Option.some.inj h)
            rw [h2] at hI
            rw [← h1]
            exact gw_iret (W' := (fun w => w = gw_mw cc a zS)) B hI rfl (Nat.zero_le _) (Nat.zero_le _) dX9_same_35
theorem m_X9_clearLies_77 : Cond.fieldLink RX9 77 "GownLetModel" "lows" "[I" ∈ wsX9_clearLies := by decide +kernel
theorem m_X9_clearLies_80 : Cond.fieldLink RX9 80 "GownLetModel" "highs" "[I" ∈ wsX9_clearLies := by decide +kernel
theorem ly_X9_clearLies_9 : ∀ w ∈ wsX90, w ∈ wsX9_clearLies := fun w h => List.mem_cons_of_mem _ (List.mem_append_right _ h)
set_option maxRecDepth 100000 in
set_option maxHeartbeats 4000000 in
theorem k_X9_clearLies  (S : gw_S)  {zS : gw_S} (h : f_X9_clearLies  S = some zS) : gw_M l yX9_clearLies wsX9_clearLies rm_X9_clearLies 0 0 D (gw_ty cc) t1 t2 [.ref (a 0)] (gw_mw cc a S) (fun w => w = gw_mw cc a zS) none := by
  refine gw_enter (cc := cX9_clearLies) (maxL := 2) (ret := none) (own := RX9) rfl (by decide) rfl (Nat.le_of_ble_eq_true rfl) ?_
  intro p e s m below meth c A B hin hI ls hl
  have hl : lv_has ls 2 [(0, .ref (a 0))] := hl
  generalize ([.ref (a 0)] : List Value).toArray = args at B ⊢
  have hx := B.1.1
  have hb := B.1.2.1
  have hown : s.vm.findClass RX9 = some m.cls := B.1.2.2.2.1
  have hts := B.1.2.2.2.2
  have hb39 : ∀ (K2 : Int32 → gw_S → Option (gw_S)) (_ : ∀ (v1 : Int32) (S : gw_S), K2 v1 S = some zS → ∀ (H : Heap) (locs : List Loc) (ls : Array Slot), gw_I D A s.heap (gw_mw cc a S) H locs → lv_has ls 2 [(0, .ref (a 0)), (1, .int v1)] → W p l e rm_X9_clearLies s m args below meth c H locs 0 0 (MQ below (gw_Q none (gw_Pst D A (fun w => w = gw_mw cc a zS)) A) args s 0 0 A) (F0 m 2 ls [])), ∀ (v1 : Int32) (t0_ : Int32) (t1_ : Int32) (S : gw_S), f_X9_clearLies_b39 K2 v1 t0_ t1_ S = some zS → ∀ (H : Heap) (locs : List Loc) (ls : Array Slot), gw_I D A s.heap (gw_mw cc a S) H locs → lv_has ls 2 [(0, .ref (a 0)), (1, .int v1)] → W p l e rm_X9_clearLies s m args below meth c H locs 0 0 (MQ below (gw_Q none (gw_Pst D A (fun w => w = gw_mw cc a zS)) A) args s 0 0 A) (F0 m 39 ls [.int t0_, .int t1_, .ref (a 24)]) := by
    intro K2 hK2
    intro v1 t0_ t1_ S h H locs ls hI hl
    unfold f_X9_clearLies_b39 at h
    obtain ⟨g1, h⟩ := gw_gdE h
    obtain ⟨S2, e3, h⟩ := gw_letE h
    refine gw_iast (t0 := 0) (w' := gw_mw cc a S2) B hI gm_g24 rfl g1 (gm_s24 e3) dX9_clearLies_39 (fun H locs hI => ?_)
    obtain ⟨y4, e5, h⟩ := gw_letE h
    refine lv_iinc (v := y4) (lv' := [(1, .int y4), (0, .ref (a 0))]) hx hb dX9_clearLies_40 hl (k := 1) rfl (by rw [e5]; rfl) (by decide) rfl (fun ls hl => ?_)
    refine lv_goto (tgt := 2) hx hb dX9_clearLies_43 (by decide) ?_
    exact hK2 y4 S2 h _ _ _ hI (lv_sub hl [1, 0] rfl)
  have hb23 : ∀ (K2 : Int32 → gw_S → Option (gw_S)) (_ : ∀ (v1 : Int32) (S : gw_S), K2 v1 S = some zS → ∀ (H : Heap) (locs : List Loc) (ls : Array Slot), gw_I D A s.heap (gw_mw cc a S) H locs → lv_has ls 2 [(0, .ref (a 0)), (1, .int v1)] → W p l e rm_X9_clearLies s m args below meth c H locs 0 0 (MQ below (gw_Q none (gw_Pst D A (fun w => w = gw_mw cc a zS)) A) args s 0 0 A) (F0 m 2 ls [])), ∀ (v1 : Int32) (t0_ : Int32) (t1_ : Int32) (S : gw_S), f_X9_clearLies_b23 K2 v1 t0_ t1_ S = some zS → ∀ (H : Heap) (locs : List Loc) (ls : Array Slot), gw_I D A s.heap (gw_mw cc a S) H locs → lv_has ls 2 [(0, .ref (a 0)), (1, .int v1)] → W p l e rm_X9_clearLies s m args below meth c H locs 0 0 (MQ below (gw_Q none (gw_Pst D A (fun w => w = gw_mw cc a zS)) A) args s 0 0 A) (F0 m 23 ls [.int t0_, .int t1_, .ref (a 23)]) := by
    intro K2 hK2
    intro v1 t0_ t1_ S h H locs ls hI hl
    unfold f_X9_clearLies_b23 at h
    obtain ⟨g6, h⟩ := gw_gdE h
    obtain ⟨S7, e8, h⟩ := gw_letE h
    refine gw_iast (t0 := 0) (w' := gw_mw cc a S7) B hI gm_g23 rfl g6 (gm_s23 e8) dX9_clearLies_23 (fun H locs hI => ?_)
    refine lv_aload_n hx hb dX9_clearLies_24 rfl (lv_at hl 0 rfl) ?_
    refine gw_get (T := TX9) (k := 27) (v := .ref (a 24)) B hI gm_g0 rfl ly_X9_clearLies_9 (by decide) m_X9_clearLies_80 rfl rfl dX9_clearLies_25 ?_
    refine lv_iload_n hx hb dX9_clearLies_28 rfl (lv_at hl 1 rfl) ?_
    refine lv_iload_n hx hb dX9_clearLies_29 rfl (lv_at hl 1 rfl) ?_
    refine lv_if_ne (tgt := 37) hx hb dX9_clearLies_30 (by decide) (fun c9 => ?_) (fun c9 => ?_)
    · replace h := gw_ifF c9 h
      refine lv_bipush (v := 9) hx hb dX9_clearLies_37 (by decide) ?_
      exact hb39 K2 hK2 v1 (9 : Int32) v1 S7 h _ _ _ hI (lv_sub hl [0, 1] rfl)
    · replace h := gw_ifT c9 h
      refine lv_iconst (v := 0) hx hb dX9_clearLies_33 (by decide) ?_
      refine lv_goto (tgt := 39) hx hb dX9_clearLies_34 (by decide) ?_
      exact hb39 K2 hK2 v1 (0 : Int32) v1 S7 h _ _ _ hI (lv_sub hl [0, 1] rfl)
  have hb2 :  ∀ (n : Nat), ∀ (v1 : Int32) (S : gw_S), f_X9_clearLies_b2  n v1 S = some zS → ∀ (H : Heap) (locs : List Loc) (ls : Array Slot), gw_I D A s.heap (gw_mw cc a S) H locs → lv_has ls 2 [(0, .ref (a 0)), (1, .int v1)] → W p l e rm_X9_clearLies s m args below meth c H locs 0 0 (MQ below (gw_Q none (gw_Pst D A (fun w => w = gw_mw cc a zS)) A) args s 0 0 A) (F0 m 2 ls []) := by
    intro n
    induction n with
    | zero =>
      intro v1 S h
      cases h
    | succ n ih =>
      intro v1 S h H locs ls hI hl
      unfold f_X9_clearLies_b2 at h
      refine lv_iload_n hx hb dX9_clearLies_2 rfl (lv_at hl 1 rfl) ?_
      refine lv_bipush (v := 6) hx hb dX9_clearLies_3 (by decide) ?_
      refine lv_icmp_ge (tgt := 46) hx hb dX9_clearLies_5 (by decide) (fun c10 => ?_) (fun c10 => ?_)
      · replace h := gw_ifT c10 h
        rw [Option.some.inj h] at hI
        exact gw_vret (W' := (fun w => w = gw_mw cc a zS)) B hI rfl (Nat.zero_le _) (Nat.zero_le _) dX9_clearLies_46
      · replace h := gw_ifF c10 h
        refine lv_aload_n hx hb dX9_clearLies_8 rfl (lv_at hl 0 rfl) ?_
        refine gw_get (T := TX9) (k := 26) (v := .ref (a 23)) B hI gm_g0 rfl ly_X9_clearLies_9 (by decide) m_X9_clearLies_77 rfl rfl dX9_clearLies_9 ?_
        refine lv_iload_n hx hb dX9_clearLies_12 rfl (lv_at hl 1 rfl) ?_
        refine lv_iload_n hx hb dX9_clearLies_13 rfl (lv_at hl 1 rfl) ?_
        refine lv_if_ne (tgt := 21) hx hb dX9_clearLies_14 (by decide) (fun c11 => ?_) (fun c11 => ?_)
        · replace h := gw_ifF c11 h
          refine lv_bipush (v := -9) hx hb dX9_clearLies_21 (by decide) ?_
          exact hb23 (f_X9_clearLies_b2  n) ih v1 (-9 : Int32) v1 S h _ _ _ hI (lv_sub hl [0, 1] rfl)
        · replace h := gw_ifT c11 h
          refine lv_iconst (v := 0) hx hb dX9_clearLies_17 (by decide) ?_
          refine lv_goto (tgt := 23) hx hb dX9_clearLies_18 (by decide) ?_
          exact hb23 (f_X9_clearLies_b2  n) ih v1 (0 : Int32) v1 S h _ _ _ hI (lv_sub hl [0, 1] rfl)
  unfold f_X9_clearLies at h
  refine lv_iconst (v := 0) hx hb dX9_clearLies_0 (by decide) ?_
  refine lv_istore_n (lv' := [(1, .int (0 : Int32)), (0, .ref (a 0))]) hx hb dX9_clearLies_1 rfl hl (by decide) rfl (fun ls hl => ?_)
  exact hb2  gw_F (0 : Int32) S h _ _ _ hI (lv_sub hl [1, 0] rfl)
theorem m_X9_bind_77 : Cond.fieldLink RX9 77 "GownLetModel" "lows" "[I" ∈ wsX9_bind := by decide +kernel
theorem m_X9_bind_80 : Cond.fieldLink RX9 80 "GownLetModel" "highs" "[I" ∈ wsX9_bind := by decide +kernel
theorem ly_X9_bind_9 : ∀ w ∈ wsX90, w ∈ wsX9_bind := fun w h => List.mem_cons_of_mem _ (List.mem_append_right _ h)
set_option maxRecDepth 100000 in
set_option maxHeartbeats 4000000 in
theorem k_X9_bind (x1 : Int32) (x2 : Int32) (x3 : Int32) (S : gw_S) {zr : Int32} {zS : gw_S} (h : f_X9_bind x1 x2 x3 S = some (zr, zS)) : gw_M l yX9_bind wsX9_bind rm_X9_bind 0 0 D (gw_ty cc) t1 t2 [.ref (a 0), .int x1, .int x2, .int x3] (gw_mw cc a S) (fun w => w = gw_mw cc a zS) (some (.int zr)) := by
  refine gw_enter (cc := cX9_bind) (maxL := 5) (ret := (some .boolean)) (own := RX9) rfl (by decide) rfl (Nat.le_of_ble_eq_true rfl) ?_
  intro p e s m below meth c A B hin hI ls hl
  have hl : lv_has ls 5 [(0, .ref (a 0)), (1, .int x1), (2, .int x2), (3, .int x3)] := hl
  generalize ([.ref (a 0), .int x1, .int x2, .int x3] : List Value).toArray = args at B ⊢
  have hx := B.1.1
  have hb := B.1.2.1
  have hown : s.vm.findClass RX9 = some m.cls := B.1.2.2.2.1
  have hts := B.1.2.2.2.2
  have hb41 :  ∀ (v1 : Int32) (v2 : Int32) (v3 : Int32) (v4 : Int32) (S : gw_S), f_X9_bind_b41  v1 v2 v3 v4 S = some (zr, zS) → ∀ (H : Heap) (locs : List Loc) (ls : Array Slot), gw_I D A s.heap (gw_mw cc a S) H locs → lv_has ls 5 [(0, .ref (a 0)), (1, .int v1), (2, .int v2), (3, .int v3), (4, .int v4)] → W p l e rm_X9_bind s m args below meth c H locs 0 0 (MQ below (gw_Q (some (.int zr)) (gw_Pst D A (fun w => w = gw_mw cc a zS)) A) args s 0 0 A) (F0 m 41 ls []) := by
    intro v1 v2 v3 v4 S h H locs ls hI hl
    unfold f_X9_bind_b41 at h
    refine lv_aload_n hx hb dX9_bind_41 rfl (lv_at hl 0 rfl) ?_
    refine gw_get (T := TX9) (k := 27) (v := .ref (a 24)) B hI gm_g0 rfl ly_X9_bind_9 (by decide) m_X9_bind_80 rfl rfl dX9_bind_42 ?_
    refine lv_iload_n hx hb dX9_bind_45 rfl (lv_at hl 2 rfl) ?_
    obtain ⟨g1, h⟩ := gw_gdE h
    refine gw_iald (t0 := 0) B hI gm_g24 rfl g1 dX9_bind_46 ?_
    refine lv_iload_n hx hb dX9_bind_47 rfl (lv_at hl 3 rfl) ?_
    refine lv_iadd hx hb dX9_bind_48 ?_
    refine lv_iconst (v := 1) hx hb dX9_bind_49 (by decide) ?_
    refine lv_iadd hx hb dX9_bind_50 ?_
    refine lv_aload_n hx hb dX9_bind_51 rfl (lv_at hl 0 rfl) ?_
    refine gw_get (T := TX9) (k := 27) (v := .ref (a 24)) B hI gm_g0 rfl ly_X9_bind_9 (by decide) m_X9_bind_80 rfl rfl dX9_bind_52 ?_
    refine lv_iload_n hx hb dX9_bind_55 rfl (lv_at hl 1 rfl) ?_
    obtain ⟨g2, h⟩ := gw_gdE h
    refine gw_iald (t0 := 0) B hI gm_g24 rfl g2 dX9_bind_56 ?_
    refine lv_icmp_ge (tgt := 79) hx hb dX9_bind_57 (by decide) (fun c3 => ?_) (fun c3 => ?_)
    · replace h := gw_ifT c3 h
      refine lv_iload hx hb dX9_bind_79 (lv_at hl 4 rfl) ?_
      obtain ⟨g4, h⟩ := gw_gdE h
      obtain ⟨h1, h2⟩ := Prod.mk.inj (Option.some.inj h)
      rw [h2] at hI
      rw [← h1]
      exact gw_zret (W' := (fun w => w = gw_mw cc a zS)) B hI rfl g4 (Nat.zero_le _) (Nat.zero_le _) dX9_bind_81
    · replace h := gw_ifF c3 h
      refine lv_aload_n hx hb dX9_bind_60 rfl (lv_at hl 0 rfl) ?_
      refine gw_get (T := TX9) (k := 27) (v := .ref (a 24)) B hI gm_g0 rfl ly_X9_bind_9 (by decide) m_X9_bind_80 rfl rfl dX9_bind_61 ?_
      refine lv_iload_n hx hb dX9_bind_64 rfl (lv_at hl 1 rfl) ?_
      refine lv_aload_n hx hb dX9_bind_65 rfl (lv_at hl 0 rfl) ?_
      refine gw_get (T := TX9) (k := 27) (v := .ref (a 24)) B hI gm_g0 rfl ly_X9_bind_9 (by decide) m_X9_bind_80 rfl rfl dX9_bind_66 ?_
      refine lv_iload_n hx hb dX9_bind_69 rfl (lv_at hl 2 rfl) ?_
      refine gw_iald (t0 := 0) B hI gm_g24 rfl g1 dX9_bind_70 ?_
      refine lv_iload_n hx hb dX9_bind_71 rfl (lv_at hl 3 rfl) ?_
      refine lv_iadd hx hb dX9_bind_72 ?_
      refine lv_iconst (v := 1) hx hb dX9_bind_73 (by decide) ?_
      refine lv_iadd hx hb dX9_bind_74 ?_
      obtain ⟨S5, e6, h⟩ := gw_letE h
      refine gw_iast (t0 := 0) (w' := gw_mw cc a S5) B hI gm_g24 rfl g2 (gm_s24 e6) dX9_bind_75 (fun H locs hI => ?_)
      refine lv_iconst (v := 1) hx hb dX9_bind_76 (by decide) ?_
      refine lv_istore (lv' := [(4, .int (1 : Int32)), (0, .ref (a 0)), (1, .int v1), (2, .int v2), (3, .int v3)]) hx hb dX9_bind_77 hl (by decide) rfl (fun ls hl => ?_)
      refine lv_iload hx hb dX9_bind_79 (lv_at hl 0 rfl) ?_
      obtain ⟨h1, h2⟩ := Prod.mk.inj (Option.some.inj h)
      rw [h2] at hI
      rw [← h1]
      exact gw_zret (W' := (fun w => w = gw_mw cc a zS)) B hI rfl (Or.inr rfl) (Nat.zero_le _) (Nat.zero_le _) dX9_bind_81
  unfold f_X9_bind at h
  refine lv_iconst (v := 0) hx hb dX9_bind_0 (by decide) ?_
  refine lv_istore (lv' := [(4, .int (0 : Int32)), (0, .ref (a 0)), (1, .int x1), (2, .int x2), (3, .int x3)]) hx hb dX9_bind_1 hl (by decide) rfl (fun ls hl => ?_)
  refine lv_aload_n hx hb dX9_bind_3 rfl (lv_at hl 1 rfl) ?_
  refine gw_get (T := TX9) (k := 26) (v := .ref (a 23)) B hI gm_g0 rfl ly_X9_bind_9 (by decide) m_X9_bind_77 rfl rfl dX9_bind_4 ?_
  refine lv_iload_n hx hb dX9_bind_7 rfl (lv_at hl 3 rfl) ?_
  obtain ⟨g7, h⟩ := gw_gdE h
  refine gw_iald (t0 := 0) B hI gm_g23 rfl g7 dX9_bind_8 ?_
  refine lv_iload_n hx hb dX9_bind_9 rfl (lv_at hl 4 rfl) ?_
  refine lv_iadd hx hb dX9_bind_10 ?_
  refine lv_iconst (v := 1) hx hb dX9_bind_11 (by decide) ?_
  refine lv_isub hx hb dX9_bind_12 ?_
  refine lv_aload_n hx hb dX9_bind_13 rfl (lv_at hl 1 rfl) ?_
  refine gw_get (T := TX9) (k := 26) (v := .ref (a 23)) B hI gm_g0 rfl ly_X9_bind_9 (by decide) m_X9_bind_77 rfl rfl dX9_bind_14 ?_
  refine lv_iload_n hx hb dX9_bind_17 rfl (lv_at hl 2 rfl) ?_
  obtain ⟨g8, h⟩ := gw_gdE h
  refine gw_iald (t0 := 0) B hI gm_g23 rfl g8 dX9_bind_18 ?_
  refine lv_icmp_le (tgt := 41) hx hb dX9_bind_19 (by decide) (fun c9 => ?_) (fun c9 => ?_)
  · replace h := gw_ifT c9 h
    exact hb41  x1 x2 x3 (0 : Int32) S h _ _ _ hI (lv_sub hl [1, 2, 3, 4, 0] rfl)
  · replace h := gw_ifF c9 h
    refine lv_aload_n hx hb dX9_bind_22 rfl (lv_at hl 1 rfl) ?_
    refine gw_get (T := TX9) (k := 26) (v := .ref (a 23)) B hI gm_g0 rfl ly_X9_bind_9 (by decide) m_X9_bind_77 rfl rfl dX9_bind_23 ?_
    refine lv_iload_n hx hb dX9_bind_26 rfl (lv_at hl 2 rfl) ?_
    refine lv_aload_n hx hb dX9_bind_27 rfl (lv_at hl 1 rfl) ?_
    refine gw_get (T := TX9) (k := 26) (v := .ref (a 23)) B hI gm_g0 rfl ly_X9_bind_9 (by decide) m_X9_bind_77 rfl rfl dX9_bind_28 ?_
    refine lv_iload_n hx hb dX9_bind_31 rfl (lv_at hl 3 rfl) ?_
    refine gw_iald (t0 := 0) B hI gm_g23 rfl g7 dX9_bind_32 ?_
    refine lv_iload_n hx hb dX9_bind_33 rfl (lv_at hl 4 rfl) ?_
    refine lv_iadd hx hb dX9_bind_34 ?_
    refine lv_iconst (v := 1) hx hb dX9_bind_35 (by decide) ?_
    refine lv_isub hx hb dX9_bind_36 ?_
    obtain ⟨S10, e11, h⟩ := gw_letE h
    refine gw_iast (t0 := 0) (w' := gw_mw cc a S10) B hI gm_g23 rfl g8 (gm_s23 e11) dX9_bind_37 (fun H locs hI => ?_)
    refine lv_iconst (v := 1) hx hb dX9_bind_38 (by decide) ?_
    refine lv_istore (lv' := [(4, .int (1 : Int32)), (0, .ref (a 0)), (1, .int x1), (2, .int x2), (3, .int x3)]) hx hb dX9_bind_39 hl (by decide) rfl (fun ls hl => ?_)
    exact hb41  x1 x2 x3 (1 : Int32) S10 h _ _ _ hI (lv_sub hl [1, 2, 3, 4, 0] rfl)
theorem m_X9_findLies_221 : Cond.fieldLink RX9 221 "GownLetModel" "doubles" "I" ∈ wsX9_findLies := by decide +kernel
theorem m_X9_findLies_227 : Cond.fieldLink RX9 227 "GownLetModel" "quarrels" "Z" ∈ wsX9_findLies := by decide +kernel
theorem m_X9_findLies_65 : Cond.fieldLink RX9 65 "GownLetModel" "oneMaker" "[I" ∈ wsX9_findLies := by decide +kernel
theorem m_X9_findLies_68 : Cond.fieldLink RX9 68 "GownLetModel" "oneLabel" "[I" ∈ wsX9_findLies := by decide +kernel
theorem m_X9_findLies_71 : Cond.fieldLink RX9 71 "GownLetModel" "otherMaker" "[I" ∈ wsX9_findLies := by decide +kernel
theorem m_X9_findLies_74 : Cond.fieldLink RX9 74 "GownLetModel" "otherLabel" "[I" ∈ wsX9_findLies := by decide +kernel
theorem m_X9_findLies_77 : Cond.fieldLink RX9 77 "GownLetModel" "lows" "[I" ∈ wsX9_findLies := by decide +kernel
theorem m_X9_findLies_80 : Cond.fieldLink RX9 80 "GownLetModel" "highs" "[I" ∈ wsX9_findLies := by decide +kernel
theorem ly_X9_findLies_9 : ∀ w ∈ wsX90, w ∈ wsX9_findLies := fun w h => List.mem_cons_of_mem _ (List.mem_append_right _ h)
set_option maxRecDepth 100000 in
set_option maxHeartbeats 4000000 in
theorem k_X9_findLies  (S : gw_S)  {zS : gw_S} (h : f_X9_findLies  S = some zS) : gw_M l yX9_findLies wsX9_findLies rm_X9_findLies 0 0 D (gw_ty cc) t1 t2 [.ref (a 0)] (gw_mw cc a S) (fun w => w = gw_mw cc a zS) none := by
  refine gw_enter (cc := cX9_findLies) (maxL := 6) (ret := none) (own := RX9) rfl (by decide) rfl (Nat.le_of_ble_eq_true rfl) ?_
  intro p e s m below meth c A B hin hI ls hl
  have hl : lv_has ls 6 [(0, .ref (a 0))] := hl
  generalize ([.ref (a 0)] : List Value).toArray = args at B ⊢
  have hx := B.1.1
  have hb := B.1.2.1
  have hown : s.vm.findClass RX9 = some m.cls := B.1.2.2.2.1
  have hts := B.1.2.2.2.2
  have hb161 :  ∀  (S : gw_S), f_X9_findLies_b161   S = some zS → ∀ (H : Heap) (locs : List Loc) (ls : Array Slot), gw_I D A s.heap (gw_mw cc a S) H locs → lv_has ls 6 [(0, .ref (a 0))] → W p l e rm_X9_findLies s m args below meth c H locs 0 0 (MQ below (gw_Q none (gw_Pst D A (fun w => w = gw_mw cc a zS)) A) args s 0 0 A) (F0 m 161 ls []) := by
    intro  S h H locs ls hI hl
    unfold f_X9_findLies_b161 at h
    refine lv_aload_n hx hb dX9_findLies_161 rfl (lv_at hl 0 rfl) ?_
    refine gw_get (T := TX9) (k := 28) (v := .int (S 0 28)) B hI gm_g0 rfl ly_X9_findLies_9 (by decide) m_X9_findLies_227 rfl rfl dX9_findLies_162 ?_
    refine lv_if_eq (tgt := 172) hx hb dX9_findLies_165 (by decide) (fun c1 => ?_) (fun c1 => ?_)
    · replace h := gw_ifT c1 h
      rw [Option.some.inj h] at hI
      exact gw_vret (W' := (fun w => w = gw_mw cc a zS)) B hI rfl (Nat.zero_le _) (Nat.zero_le _) dX9_findLies_172
    · replace h := gw_ifF c1 h
      refine lv_aload_n hx hb dX9_findLies_168 rfl (lv_at hl 0 rfl) ?_
      obtain ⟨S2, e3, h⟩ := gw_bdE h
      refine gw_callVv (As := []) (n := 0) B hI (k_X9_clearLies  S e3) gX9_findLies_X9_clearLies rfl rfl rfl nd_X9_clearLies ⟨Nat.le_of_ble_eq_true rfl, Nat.le_of_ble_eq_true rfl⟩ gm_g0 rfl rfl rfl hl.1 (Nat.zero_le _) dX9_findLies_169 ⟨Nat.le_of_ble_eq_true rfl, Nat.le_of_ble_eq_true rfl⟩ rfl (fun w' H locs hw hI => ?_)
      subst hw
      rw [Option.some.inj h] at hI
      exact gw_vret (W' := (fun w => w = gw_mw cc a zS)) B hI rfl (Nat.zero_le _) (Nat.zero_le _) dX9_findLies_172
  have hb149 : ∀ (K11 : Int32 → gw_S → Option (gw_S)) (_ : ∀ (v1 : Int32) (S : gw_S), K11 v1 S = some zS → ∀ (H : Heap) (locs : List Loc) (ls : Array Slot), gw_I D A s.heap (gw_mw cc a S) H locs → lv_has ls 6 [(0, .ref (a 0)), (1, .int v1)] → W p l e rm_X9_findLies s m args below meth c H locs 0 0 (MQ below (gw_Q none (gw_Pst D A (fun w => w = gw_mw cc a zS)) A) args s 0 0 A) (F0 m 11 ls [])), ∀ (K115 : Int32 → Int32 → gw_S → Option (gw_S)) (_ : ∀ (v1 : Int32) (v2 : Int32) (S : gw_S), K115 v1 v2 S = some zS → ∀ (H : Heap) (locs : List Loc) (ls : Array Slot), gw_I D A s.heap (gw_mw cc a S) H locs → lv_has ls 6 [(0, .ref (a 0)), (1, .int v1), (2, .int v2)] → W p l e rm_X9_findLies s m args below meth c H locs 0 0 (MQ below (gw_Q none (gw_Pst D A (fun w => w = gw_mw cc a zS)) A) args s 0 0 A) (F0 m 115 ls [])), ∀ (v1 : Int32) (v2 : Int32) (t0_ : Int32) (S : gw_S), f_X9_findLies_b149 K11 K115 v1 v2 t0_ S = some zS → ∀ (H : Heap) (locs : List Loc) (ls : Array Slot), gw_I D A s.heap (gw_mw cc a S) H locs → lv_has ls 6 [(0, .ref (a 0)), (1, .int v1), (2, .int v2)] → W p l e rm_X9_findLies s m args below meth c H locs 0 0 (MQ below (gw_Q none (gw_Pst D A (fun w => w = gw_mw cc a zS)) A) args s 0 0 A) (F0 m 149 ls [.int t0_, .ref (a 0)]) := by
    intro K11 hK11 K115 hK115
    intro v1 v2 t0_ S h H locs ls hI hl
    unfold f_X9_findLies_b149 at h
    obtain ⟨g4, h⟩ := gw_gdE h
    obtain ⟨S5, e6, h⟩ := gw_letE h
    refine gw_put (T := TX9) (k := 28) (w' := gw_mw cc a S5) B hI gm_g0 rfl ly_X9_findLies_9 tyX9 tyX9_ok nmX9 (by decide) m_X9_findLies_227 rfl rfl (gw_zn g4) (gw_zf g4) (Nat.le_of_ble_eq_true rfl) (gm_s0_28 e6) dX9_findLies_149 (fun H locs hI => ?_)
    obtain ⟨y7, e8, h⟩ := gw_letE h
    refine lv_iinc (v := y7) (lv' := [(2, .int y7), (0, .ref (a 0)), (1, .int v1)]) hx hb dX9_findLies_152 hl (k := 2) rfl (by rw [e8]; rfl) (by decide) rfl (fun ls hl => ?_)
    refine lv_goto (tgt := 115) hx hb dX9_findLies_155 (by decide) ?_
    exact hK115 v1 y7 S5 h _ _ _ hI (lv_sub hl [1, 2, 0] rfl)
  have hb144 : ∀ (K11 : Int32 → gw_S → Option (gw_S)) (_ : ∀ (v1 : Int32) (S : gw_S), K11 v1 S = some zS → ∀ (H : Heap) (locs : List Loc) (ls : Array Slot), gw_I D A s.heap (gw_mw cc a S) H locs → lv_has ls 6 [(0, .ref (a 0)), (1, .int v1)] → W p l e rm_X9_findLies s m args below meth c H locs 0 0 (MQ below (gw_Q none (gw_Pst D A (fun w => w = gw_mw cc a zS)) A) args s 0 0 A) (F0 m 11 ls [])), ∀ (K115 : Int32 → Int32 → gw_S → Option (gw_S)) (_ : ∀ (v1 : Int32) (v2 : Int32) (S : gw_S), K115 v1 v2 S = some zS → ∀ (H : Heap) (locs : List Loc) (ls : Array Slot), gw_I D A s.heap (gw_mw cc a S) H locs → lv_has ls 6 [(0, .ref (a 0)), (1, .int v1), (2, .int v2)] → W p l e rm_X9_findLies s m args below meth c H locs 0 0 (MQ below (gw_Q none (gw_Pst D A (fun w => w = gw_mw cc a zS)) A) args s 0 0 A) (F0 m 115 ls [])), ∀ (v1 : Int32) (v2 : Int32) (S : gw_S), f_X9_findLies_b144 K11 K115 v1 v2 S = some zS → ∀ (H : Heap) (locs : List Loc) (ls : Array Slot), gw_I D A s.heap (gw_mw cc a S) H locs → lv_has ls 6 [(0, .ref (a 0)), (1, .int v1), (2, .int v2)] → W p l e rm_X9_findLies s m args below meth c H locs 0 0 (MQ below (gw_Q none (gw_Pst D A (fun w => w = gw_mw cc a zS)) A) args s 0 0 A) (F0 m 144 ls [.ref (a 0)]) := by
    intro K11 hK11 K115 hK115
    intro v1 v2 S h H locs ls hI hl
    unfold f_X9_findLies_b144 at h
    refine lv_iconst (v := 1) hx hb dX9_findLies_144 (by decide) ?_
    refine lv_goto (tgt := 149) hx hb dX9_findLies_145 (by decide) ?_
    exact hb149 K11 hK11 K115 hK115 v1 v2 (1 : Int32) S h _ _ _ hI (lv_sub hl [0, 1, 2] rfl)
  have hb115 : ∀ (K11 : Int32 → gw_S → Option (gw_S)) (_ : ∀ (v1 : Int32) (S : gw_S), K11 v1 S = some zS → ∀ (H : Heap) (locs : List Loc) (ls : Array Slot), gw_I D A s.heap (gw_mw cc a S) H locs → lv_has ls 6 [(0, .ref (a 0)), (1, .int v1)] → W p l e rm_X9_findLies s m args below meth c H locs 0 0 (MQ below (gw_Q none (gw_Pst D A (fun w => w = gw_mw cc a zS)) A) args s 0 0 A) (F0 m 11 ls [])), ∀ (n : Nat), ∀ (v1 : Int32) (v2 : Int32) (S : gw_S), f_X9_findLies_b115 K11 n v1 v2 S = some zS → ∀ (H : Heap) (locs : List Loc) (ls : Array Slot), gw_I D A s.heap (gw_mw cc a S) H locs → lv_has ls 6 [(0, .ref (a 0)), (1, .int v1), (2, .int v2)] → W p l e rm_X9_findLies s m args below meth c H locs 0 0 (MQ below (gw_Q none (gw_Pst D A (fun w => w = gw_mw cc a zS)) A) args s 0 0 A) (F0 m 115 ls []) := by
    intro K11 hK11
    intro n
    induction n with
    | zero =>
      intro v1 v2 S h
      cases h
    | succ n ih =>
      intro v1 v2 S h H locs ls hI hl
      unfold f_X9_findLies_b115 at h
      refine lv_iload_n hx hb dX9_findLies_115 rfl (lv_at hl 2 rfl) ?_
      refine lv_bipush (v := 6) hx hb dX9_findLies_116 (by decide) ?_
      refine lv_icmp_ge (tgt := 158) hx hb dX9_findLies_118 (by decide) (fun c9 => ?_) (fun c9 => ?_)
      · replace h := gw_ifT c9 h
        refine lv_goto (tgt := 11) hx hb dX9_findLies_158 (by decide) ?_
        exact hK11 v1 S h _ _ _ hI (lv_sub hl [0, 1] rfl)
      · replace h := gw_ifF c9 h
        refine lv_aload_n hx hb dX9_findLies_121 rfl (lv_at hl 0 rfl) ?_
        refine lv_aload_n hx hb dX9_findLies_122 rfl (lv_at hl 0 rfl) ?_
        refine gw_get (T := TX9) (k := 28) (v := .int (S 0 28)) B hI gm_g0 rfl ly_X9_findLies_9 (by decide) m_X9_findLies_227 rfl rfl dX9_findLies_123 ?_
        refine lv_if_ne (tgt := 144) hx hb dX9_findLies_126 (by decide) (fun c10 => ?_) (fun c10 => ?_)
        · replace h := gw_ifF c10 h
          exact hb144 K11 hK11 (f_X9_findLies_b115 K11 n) ih v1 v2 S h _ _ _ hI (lv_sub hl [0, 1, 2] rfl)
        · replace h := gw_ifT c10 h
          refine lv_aload_n hx hb dX9_findLies_129 rfl (lv_at hl 0 rfl) ?_
          refine gw_get (T := TX9) (k := 26) (v := .ref (a 23)) B hI gm_g0 rfl ly_X9_findLies_9 (by decide) m_X9_findLies_77 rfl rfl dX9_findLies_130 ?_
          refine lv_iload_n hx hb dX9_findLies_133 rfl (lv_at hl 2 rfl) ?_
          obtain ⟨g11, h⟩ := gw_gdE h
          refine gw_iald (t0 := 0) B hI gm_g23 rfl g11 dX9_findLies_134 ?_
          refine lv_aload_n hx hb dX9_findLies_135 rfl (lv_at hl 0 rfl) ?_
          refine gw_get (T := TX9) (k := 27) (v := .ref (a 24)) B hI gm_g0 rfl ly_X9_findLies_9 (by decide) m_X9_findLies_80 rfl rfl dX9_findLies_136 ?_
          refine lv_iload_n hx hb dX9_findLies_139 rfl (lv_at hl 2 rfl) ?_
          refine gw_iald (t0 := 0) B hI gm_g24 rfl g11 dX9_findLies_140 ?_
          refine lv_icmp_le (tgt := 148) hx hb dX9_findLies_141 (by decide) (fun c12 => ?_) (fun c12 => ?_)
          · replace h := gw_ifT c12 h
            refine lv_iconst (v := 0) hx hb dX9_findLies_148 (by decide) ?_
            exact hb149 K11 hK11 (f_X9_findLies_b115 K11 n) ih v1 v2 (0 : Int32) S h _ _ _ hI (lv_sub hl [0, 1, 2] rfl)
          · replace h := gw_ifF c12 h
            exact hb144 K11 hK11 (f_X9_findLies_b115 K11 n) ih v1 v2 S h _ _ _ hI (lv_sub hl [0, 1, 2] rfl)
  have hb106 : ∀ (K11 : Int32 → gw_S → Option (gw_S)) (_ : ∀ (v1 : Int32) (S : gw_S), K11 v1 S = some zS → ∀ (H : Heap) (locs : List Loc) (ls : Array Slot), gw_I D A s.heap (gw_mw cc a S) H locs → lv_has ls 6 [(0, .ref (a 0)), (1, .int v1)] → W p l e rm_X9_findLies s m args below meth c H locs 0 0 (MQ below (gw_Q none (gw_Pst D A (fun w => w = gw_mw cc a zS)) A) args s 0 0 A) (F0 m 11 ls [])), ∀ (K26 : Int32 → Int32 → gw_S → Option (gw_S)) (_ : ∀ (v1 : Int32) (v2 : Int32) (S : gw_S), K26 v1 v2 S = some zS → ∀ (H : Heap) (locs : List Loc) (ls : Array Slot), gw_I D A s.heap (gw_mw cc a S) H locs → lv_has ls 6 [(0, .ref (a 0)), (1, .int v1), (2, .int v2)] → W p l e rm_X9_findLies s m args below meth c H locs 0 0 (MQ below (gw_Q none (gw_Pst D A (fun w => w = gw_mw cc a zS)) A) args s 0 0 A) (F0 m 26 ls [])), ∀ (v2 : Int32) (t0_ : Int32) (S : gw_S), f_X9_findLies_b106 K11 K26 v2 t0_ S = some zS → ∀ (H : Heap) (locs : List Loc) (ls : Array Slot), gw_I D A s.heap (gw_mw cc a S) H locs → lv_has ls 6 [(0, .ref (a 0)), (2, .int v2)] → W p l e rm_X9_findLies s m args below meth c H locs 0 0 (MQ below (gw_Q none (gw_Pst D A (fun w => w = gw_mw cc a zS)) A) args s 0 0 A) (F0 m 106 ls [.int t0_]) := by
    intro K11 hK11 K26 hK26
    intro v2 t0_ S h H locs ls hI hl
    unfold f_X9_findLies_b106 at h
    refine lv_istore_n (lv' := [(1, .int t0_), (0, .ref (a 0)), (2, .int v2)]) hx hb dX9_findLies_106 rfl hl (by decide) rfl (fun ls hl => ?_)
    obtain ⟨y13, e14, h⟩ := gw_letE h
    refine lv_iinc (v := y13) (lv' := [(2, .int y13), (1, .int t0_), (0, .ref (a 0))]) hx hb dX9_findLies_107 hl (k := 2) rfl (by rw [e14]; rfl) (by decide) rfl (fun ls hl => ?_)
    refine lv_goto (tgt := 26) hx hb dX9_findLies_110 (by decide) ?_
    exact hK26 t0_ y13 S h _ _ _ hI (lv_sub hl [2, 1, 0] rfl)
  have hb101 : ∀ (K11 : Int32 → gw_S → Option (gw_S)) (_ : ∀ (v1 : Int32) (S : gw_S), K11 v1 S = some zS → ∀ (H : Heap) (locs : List Loc) (ls : Array Slot), gw_I D A s.heap (gw_mw cc a S) H locs → lv_has ls 6 [(0, .ref (a 0)), (1, .int v1)] → W p l e rm_X9_findLies s m args below meth c H locs 0 0 (MQ below (gw_Q none (gw_Pst D A (fun w => w = gw_mw cc a zS)) A) args s 0 0 A) (F0 m 11 ls [])), ∀ (K26 : Int32 → Int32 → gw_S → Option (gw_S)) (_ : ∀ (v1 : Int32) (v2 : Int32) (S : gw_S), K26 v1 v2 S = some zS → ∀ (H : Heap) (locs : List Loc) (ls : Array Slot), gw_I D A s.heap (gw_mw cc a S) H locs → lv_has ls 6 [(0, .ref (a 0)), (1, .int v1), (2, .int v2)] → W p l e rm_X9_findLies s m args below meth c H locs 0 0 (MQ below (gw_Q none (gw_Pst D A (fun w => w = gw_mw cc a zS)) A) args s 0 0 A) (F0 m 26 ls [])), ∀ (v2 : Int32) (S : gw_S), f_X9_findLies_b101 K11 K26 v2 S = some zS → ∀ (H : Heap) (locs : List Loc) (ls : Array Slot), gw_I D A s.heap (gw_mw cc a S) H locs → lv_has ls 6 [(0, .ref (a 0)), (2, .int v2)] → W p l e rm_X9_findLies s m args below meth c H locs 0 0 (MQ below (gw_Q none (gw_Pst D A (fun w => w = gw_mw cc a zS)) A) args s 0 0 A) (F0 m 101 ls []) := by
    intro K11 hK11 K26 hK26
    intro v2 S h H locs ls hI hl
    unfold f_X9_findLies_b101 at h
    refine lv_iconst (v := 1) hx hb dX9_findLies_101 (by decide) ?_
    refine lv_goto (tgt := 106) hx hb dX9_findLies_102 (by decide) ?_
    exact hb106 K11 hK11 K26 hK26 v2 (1 : Int32) S h _ _ _ hI (lv_sub hl [0, 1] rfl)
  have hb26 : ∀ (K11 : Int32 → gw_S → Option (gw_S)) (_ : ∀ (v1 : Int32) (S : gw_S), K11 v1 S = some zS → ∀ (H : Heap) (locs : List Loc) (ls : Array Slot), gw_I D A s.heap (gw_mw cc a S) H locs → lv_has ls 6 [(0, .ref (a 0)), (1, .int v1)] → W p l e rm_X9_findLies s m args below meth c H locs 0 0 (MQ below (gw_Q none (gw_Pst D A (fun w => w = gw_mw cc a zS)) A) args s 0 0 A) (F0 m 11 ls [])), ∀ (n : Nat), ∀ (v1 : Int32) (v2 : Int32) (S : gw_S), f_X9_findLies_b26 K11 n v1 v2 S = some zS → ∀ (H : Heap) (locs : List Loc) (ls : Array Slot), gw_I D A s.heap (gw_mw cc a S) H locs → lv_has ls 6 [(0, .ref (a 0)), (1, .int v1), (2, .int v2)] → W p l e rm_X9_findLies s m args below meth c H locs 0 0 (MQ below (gw_Q none (gw_Pst D A (fun w => w = gw_mw cc a zS)) A) args s 0 0 A) (F0 m 26 ls []) := by
    intro K11 hK11
    intro n
    induction n with
    | zero =>
      intro v1 v2 S h
      cases h
    | succ n ih =>
      intro v1 v2 S h H locs ls hI hl
      unfold f_X9_findLies_b26 at h
      refine lv_iload_n hx hb dX9_findLies_26 rfl (lv_at hl 2 rfl) ?_
      refine lv_aload_n hx hb dX9_findLies_27 rfl (lv_at hl 0 rfl) ?_
      refine gw_get (T := TX9) (k := 21) (v := .int (S 0 21)) B hI gm_g0 rfl ly_X9_findLies_9 (by decide) m_X9_findLies_221 rfl rfl dX9_findLies_28 ?_
      refine lv_icmp_ge (tgt := 113) hx hb dX9_findLies_31 (by decide) (fun c15 => ?_) (fun c15 => ?_)
      · replace h := gw_ifT c15 h
        refine lv_iconst (v := 0) hx hb dX9_findLies_113 (by decide) ?_
        refine lv_istore_n (lv' := [(2, .int (0 : Int32)), (0, .ref (a 0)), (1, .int v1)]) hx hb dX9_findLies_114 rfl hl (by decide) rfl (fun ls hl => ?_)
        exact hb115 K11 hK11 gw_F v1 (0 : Int32) S h _ _ _ hI (lv_sub hl [1, 2, 0] rfl)
      · replace h := gw_ifF c15 h
        refine lv_aload_n hx hb dX9_findLies_34 rfl (lv_at hl 0 rfl) ?_
        refine gw_get (T := TX9) (k := 25) (v := .ref (a 22)) B hI gm_g0 rfl ly_X9_findLies_9 (by decide) m_X9_findLies_74 rfl rfl dX9_findLies_35 ?_
        refine lv_iload_n hx hb dX9_findLies_38 rfl (lv_at hl 2 rfl) ?_
        obtain ⟨g16, h⟩ := gw_gdE h
        refine gw_iald (t0 := 0) B hI gm_g22 rfl g16 dX9_findLies_39 ?_
        refine lv_aload_n hx hb dX9_findLies_40 rfl (lv_at hl 0 rfl) ?_
        refine gw_get (T := TX9) (k := 23) (v := .ref (a 20)) B hI gm_g0 rfl ly_X9_findLies_9 (by decide) m_X9_findLies_68 rfl rfl dX9_findLies_41 ?_
        refine lv_iload_n hx hb dX9_findLies_44 rfl (lv_at hl 2 rfl) ?_
        refine gw_iald (t0 := 0) B hI gm_g20 rfl g16 dX9_findLies_45 ?_
        refine lv_isub hx hb dX9_findLies_46 ?_
        obtain ⟨y17, e18, h⟩ := gw_letE h
        rw [← e18]
        refine lv_istore_n (lv' := [(3, .int y17), (0, .ref (a 0)), (1, .int v1), (2, .int v2)]) hx hb dX9_findLies_47 rfl hl (by decide) rfl (fun ls hl => ?_)
        refine lv_aload_n hx hb dX9_findLies_48 rfl (lv_at hl 1 rfl) ?_
        refine lv_aload_n hx hb dX9_findLies_49 rfl (lv_at hl 1 rfl) ?_
        refine gw_get (T := TX9) (k := 22) (v := .ref (a 19)) B hI gm_g0 rfl ly_X9_findLies_9 (by decide) m_X9_findLies_65 rfl rfl dX9_findLies_50 ?_
        refine lv_iload_n hx hb dX9_findLies_53 rfl (lv_at hl 3 rfl) ?_
        refine gw_iald (t0 := 0) B hI gm_g19 rfl g16 dX9_findLies_54 ?_
        refine lv_aload_n hx hb dX9_findLies_55 rfl (lv_at hl 1 rfl) ?_
        refine gw_get (T := TX9) (k := 24) (v := .ref (a 21)) B hI gm_g0 rfl ly_X9_findLies_9 (by decide) m_X9_findLies_71 rfl rfl dX9_findLies_56 ?_
        refine lv_iload_n hx hb dX9_findLies_59 rfl (lv_at hl 3 rfl) ?_
        refine gw_iald (t0 := 0) B hI gm_g21 rfl g16 dX9_findLies_60 ?_
        refine lv_iload_n hx hb dX9_findLies_61 rfl (lv_at hl 0 rfl) ?_
        obtain ⟨r19, S20, e21, h⟩ := gw_b2E h
        refine gw_callV (As := [.int (S 19 v2.toNatClampNeg), .int (S 21 v2.toNatClampNeg), .int y17]) (n := 3) B hI (k_X9_bind (S 19 v2.toNatClampNeg) (S 21 v2.toNatClampNeg) y17 S e21) gX9_findLies_X9_bind rfl rfl rfl nd_X9_bind ⟨Nat.le_of_ble_eq_true rfl, Nat.le_of_ble_eq_true rfl⟩ gm_g0 rfl rfl rfl hl.1 (Nat.zero_le _) dX9_findLies_62 ⟨Nat.le_of_ble_eq_true rfl, Nat.le_of_ble_eq_true rfl⟩ rfl (fun w' H locs hw hI => ?_)
        subst hw
        refine lv_istore (lv' := [(4, .int r19), (3, .int y17), (0, .ref (a 0)), (1, .int v1), (2, .int v2)]) hx hb dX9_findLies_65 hl (by decide) rfl (fun ls hl => ?_)
        refine lv_aload_n hx hb dX9_findLies_67 rfl (lv_at hl 2 rfl) ?_
        refine lv_aload_n hx hb dX9_findLies_68 rfl (lv_at hl 2 rfl) ?_
        refine gw_get (T := TX9) (k := 24) (v := .ref (a 21)) B hI gm_g0 rfl ly_X9_findLies_9 (by decide) m_X9_findLies_71 rfl rfl dX9_findLies_69 ?_
        refine lv_iload_n hx hb dX9_findLies_72 rfl (lv_at hl 4 rfl) ?_
        refine gw_iald (t0 := 0) B hI gm_g21 rfl g16 dX9_findLies_73 ?_
        refine lv_aload_n hx hb dX9_findLies_74 rfl (lv_at hl 2 rfl) ?_
        refine gw_get (T := TX9) (k := 22) (v := .ref (a 19)) B hI gm_g0 rfl ly_X9_findLies_9 (by decide) m_X9_findLies_65 rfl rfl dX9_findLies_75 ?_
        refine lv_iload_n hx hb dX9_findLies_78 rfl (lv_at hl 4 rfl) ?_
        refine gw_iald (t0 := 0) B hI gm_g19 rfl g16 dX9_findLies_79 ?_
        refine lv_iload_n hx hb dX9_findLies_80 rfl (lv_at hl 1 rfl) ?_
        refine lv_ineg hx hb dX9_findLies_81 ?_
        obtain ⟨r22, S23, e24, h⟩ := gw_b2E h
        refine gw_callV (As := [.int (S20 21 v2.toNatClampNeg), .int (S20 19 v2.toNatClampNeg), .int (-y17)]) (n := 3) B hI (k_X9_bind (S20 21 v2.toNatClampNeg) (S20 19 v2.toNatClampNeg) (-y17) S20 e24) gX9_findLies_X9_bind rfl rfl rfl nd_X9_bind ⟨Nat.le_of_ble_eq_true rfl, Nat.le_of_ble_eq_true rfl⟩ gm_g0 rfl rfl rfl hl.1 (Nat.zero_le _) dX9_findLies_82 ⟨Nat.le_of_ble_eq_true rfl, Nat.le_of_ble_eq_true rfl⟩ rfl (fun w' H locs hw hI => ?_)
        subst hw
        refine lv_istore (lv' := [(5, .int r22), (4, .int r19), (3, .int y17), (0, .ref (a 0)), (1, .int v1), (2, .int v2)]) hx hb dX9_findLies_85 hl (by decide) rfl (fun ls hl => ?_)
        refine lv_iload_n hx hb dX9_findLies_87 rfl (lv_at hl 4 rfl) ?_
        refine lv_if_ne (tgt := 101) hx hb dX9_findLies_88 (by decide) (fun c25 => ?_) (fun c25 => ?_)
        · replace h := gw_ifF c25 h
          exact hb101 K11 hK11 (f_X9_findLies_b26 K11 n) ih v2 S23 h _ _ _ hI (lv_sub hl [3, 5] rfl)
        · replace h := gw_ifT c25 h
          refine lv_iload hx hb dX9_findLies_91 (lv_at hl 1 rfl) ?_
          refine lv_if_ne (tgt := 101) hx hb dX9_findLies_93 (by decide) (fun c26 => ?_) (fun c26 => ?_)
          · replace h := gw_ifF c26 h
            exact hb101 K11 hK11 (f_X9_findLies_b26 K11 n) ih v2 S23 h _ _ _ hI (lv_sub hl [3, 5] rfl)
          · replace h := gw_ifT c26 h
            refine lv_iload hx hb dX9_findLies_96 (lv_at hl 0 rfl) ?_
            refine lv_if_eq (tgt := 105) hx hb dX9_findLies_98 (by decide) (fun c27 => ?_) (fun c27 => ?_)
            · replace h := gw_ifT c27 h
              refine lv_iconst (v := 0) hx hb dX9_findLies_105 (by decide) ?_
              exact hb106 K11 hK11 (f_X9_findLies_b26 K11 n) ih v2 (0 : Int32) S23 h _ _ _ hI (lv_sub hl [3, 5] rfl)
            · replace h := gw_ifF c27 h
              exact hb101 K11 hK11 (f_X9_findLies_b26 K11 n) ih v2 S23 h _ _ _ hI (lv_sub hl [3, 5] rfl)
  have hb11 :  ∀ (n : Nat), ∀ (v1 : Int32) (S : gw_S), f_X9_findLies_b11  n v1 S = some zS → ∀ (H : Heap) (locs : List Loc) (ls : Array Slot), gw_I D A s.heap (gw_mw cc a S) H locs → lv_has ls 6 [(0, .ref (a 0)), (1, .int v1)] → W p l e rm_X9_findLies s m args below meth c H locs 0 0 (MQ below (gw_Q none (gw_Pst D A (fun w => w = gw_mw cc a zS)) A) args s 0 0 A) (F0 m 11 ls []) := by
    intro n
    induction n with
    | zero =>
      intro v1 S h
      cases h
    | succ n ih =>
      intro v1 S h H locs ls hI hl
      unfold f_X9_findLies_b11 at h
      refine lv_iload_n hx hb dX9_findLies_11 rfl (lv_at hl 1 rfl) ?_
      refine lv_if_eq (tgt := 161) hx hb dX9_findLies_12 (by decide) (fun c28 => ?_) (fun c28 => ?_)
      · replace h := gw_ifT c28 h
        exact hb161   S h _ _ _ hI (lv_sub hl [0] rfl)
      · replace h := gw_ifF c28 h
        refine lv_aload_n hx hb dX9_findLies_15 rfl (lv_at hl 0 rfl) ?_
        refine gw_get (T := TX9) (k := 28) (v := .int (S 0 28)) B hI gm_g0 rfl ly_X9_findLies_9 (by decide) m_X9_findLies_227 rfl rfl dX9_findLies_16 ?_
        refine lv_if_ne (tgt := 161) hx hb dX9_findLies_19 (by decide) (fun c29 => ?_) (fun c29 => ?_)
        · replace h := gw_ifF c29 h
          exact hb161   S h _ _ _ hI (lv_sub hl [0] rfl)
        · replace h := gw_ifT c29 h
          refine lv_iconst (v := 0) hx hb dX9_findLies_22 (by decide) ?_
          refine lv_istore_n (lv' := [(1, .int (0 : Int32)), (0, .ref (a 0))]) hx hb dX9_findLies_23 rfl hl (by decide) rfl (fun ls hl => ?_)
          refine lv_iconst (v := 0) hx hb dX9_findLies_24 (by decide) ?_
          refine lv_istore_n (lv' := [(2, .int (0 : Int32)), (1, .int (0 : Int32)), (0, .ref (a 0))]) hx hb dX9_findLies_25 rfl hl (by decide) rfl (fun ls hl => ?_)
          exact hb26 (f_X9_findLies_b11  n) ih gw_F (0 : Int32) (0 : Int32) S h _ _ _ hI (lv_sub hl [2, 1, 0] rfl)
  unfold f_X9_findLies at h
  refine lv_aload_n hx hb dX9_findLies_0 rfl (lv_at hl 0 rfl) ?_
  obtain ⟨S30, e31, h⟩ := gw_bdE h
  refine gw_callVv (As := []) (n := 0) B hI (k_X9_clearLies  S e31) gX9_findLies_X9_clearLies rfl rfl rfl nd_X9_clearLies ⟨Nat.le_of_ble_eq_true rfl, Nat.le_of_ble_eq_true rfl⟩ gm_g0 rfl rfl rfl hl.1 (Nat.zero_le _) dX9_findLies_1 ⟨Nat.le_of_ble_eq_true rfl, Nat.le_of_ble_eq_true rfl⟩ rfl (fun w' H locs hw hI => ?_)
  subst hw
  refine lv_aload_n hx hb dX9_findLies_4 rfl (lv_at hl 0 rfl) ?_
  refine lv_iconst (v := 0) hx hb dX9_findLies_5 (by decide) ?_
  obtain ⟨S32, e33, h⟩ := gw_letE h
  refine gw_put (T := TX9) (k := 28) (w' := gw_mw cc a S32) B hI gm_g0 rfl ly_X9_findLies_9 tyX9 tyX9_ok nmX9 (by decide) m_X9_findLies_227 rfl rfl rfl rfl (Nat.le_of_ble_eq_true rfl) (gm_s0_28 e33) dX9_findLies_6 (fun H locs hI => ?_)
  refine lv_iconst (v := 1) hx hb dX9_findLies_9 (by decide) ?_
  refine lv_istore_n (lv' := [(1, .int (1 : Int32)), (0, .ref (a 0))]) hx hb dX9_findLies_10 rfl hl (by decide) rfl (fun ls hl => ?_)
  exact hb11  gw_F (1 : Int32) S32 h _ _ _ hI (lv_sub hl [1, 0] rfl)
theorem m_X9_lie_77 : Cond.fieldLink RX9 77 "GownLetModel" "lows" "[I" ∈ wsX9_lie := by decide +kernel
theorem m_X9_lie_80 : Cond.fieldLink RX9 80 "GownLetModel" "highs" "[I" ∈ wsX9_lie := by decide +kernel
theorem ly_X9_lie_9 : ∀ w ∈ wsX90, w ∈ wsX9_lie := fun w h => List.mem_cons_of_mem _ (List.mem_append_right _ h)
set_option maxRecDepth 100000 in
set_option maxHeartbeats 4000000 in
theorem k_X9_lie (x1 : Int32) (x2 : Int32) (S : gw_S) {zr : Int32} {zS : gw_S} (h : f_X9_lie x1 x2 S = some (zr, zS)) : gw_M l yX9_lie wsX9_lie rm_X9_lie 0 0 D (gw_ty cc) t1 t2 [.ref (a 0), .int x1, .int x2] (gw_mw cc a S) (fun w => w = gw_mw cc a zS) (some (.int zr)) := by
  refine gw_enter (cc := cX9_lie) (maxL := 3) (ret := (some .int)) (own := RX9) rfl (by decide) rfl (Nat.le_of_ble_eq_true rfl) ?_
  intro p e s m below meth c A B hin hI ls hl
  have hl : lv_has ls 3 [(0, .ref (a 0)), (1, .int x1), (2, .int x2)] := hl
  generalize ([.ref (a 0), .int x1, .int x2] : List Value).toArray = args at B ⊢
  have hx := B.1.1
  have hb := B.1.2.1
  have hown : s.vm.findClass RX9 = some m.cls := B.1.2.2.2.1
  have hts := B.1.2.2.2.2
  unfold f_X9_lie at h
  refine lv_iload_n hx hb dX9_lie_0 rfl (lv_at hl 1 rfl) ?_
  obtain ⟨r1, e2, h⟩ := gw_bdE h
  refine gw_callS (As := [.int x1]) (n := 1) B hI (k_X9_isMaker x1 S e2) gX9_lie_X9_isMaker rfl rfl rfl nds_X9_isMaker ⟨Nat.le_of_ble_eq_true rfl, Nat.le_of_ble_eq_true rfl⟩ rfl hl.1 (Nat.zero_le _) dX9_lie_1 ⟨Nat.le_of_ble_eq_true rfl, Nat.le_of_ble_eq_true rfl⟩ rfl (fun w' H locs hw hI => ?_)
  subst hw
  refine lv_if_eq (tgt := 17) hx hb dX9_lie_4 (by decide) (fun c3 => ?_) (fun c3 => ?_)
  · replace h := gw_ifT c3 h
    refine lv_bipush (v := -101) hx hb dX9_lie_17 (by decide) ?_
    obtain ⟨h1, h2⟩ := Prod.mk.inj (Option.some.inj h)
    rw [h2] at hI
    rw [← h1]
    exact gw_iret (W' := (fun w => w = gw_mw cc a zS)) B hI rfl (Nat.zero_le _) (Nat.zero_le _) dX9_lie_19
  · replace h := gw_ifF c3 h
    refine lv_iload_n hx hb dX9_lie_7 rfl (lv_at hl 2 rfl) ?_
    refine lv_i2l hx hb dX9_lie_8 rfl ?_
    refine lv_lconst (v := 0) hx hb dX9_lie_9 (by decide) ?_
    refine lv_lconst (v := 1) hx hb dX9_lie_10 (by decide) ?_
    obtain ⟨r4, e5, h⟩ := gw_bdE h
    refine gw_callS (As := [.long (x2.toInt64), .long (0 : Int64), .long (1 : Int64)]) (n := 3) B hI (k_X9_in (x2.toInt64) (0 : Int64) (1 : Int64) S e5) gX9_lie_X9_in rfl rfl rfl nds_X9_in ⟨Nat.le_of_ble_eq_true rfl, Nat.le_of_ble_eq_true rfl⟩ rfl hl.1 (Nat.zero_le _) dX9_lie_11 ⟨Nat.le_of_ble_eq_true rfl, Nat.le_of_ble_eq_true rfl⟩ rfl (fun w' H locs hw hI => ?_)
    subst hw
    refine lv_if_ne (tgt := 20) hx hb dX9_lie_14 (by decide) (fun c6 => ?_) (fun c6 => ?_)
    · replace h := gw_ifF c6 h
      refine lv_aload_n hx hb dX9_lie_20 rfl (lv_at hl 0 rfl) ?_
      obtain ⟨S7, e8, h⟩ := gw_bdE h
      refine gw_callVv (As := []) (n := 0) B hI (k_X9_findLies  S e8) gX9_lie_X9_findLies rfl rfl rfl nd_X9_findLies ⟨Nat.le_of_ble_eq_true rfl, Nat.le_of_ble_eq_true rfl⟩ gm_g0 rfl rfl rfl hl.1 (Nat.zero_le _) dX9_lie_21 ⟨Nat.le_of_ble_eq_true rfl, Nat.le_of_ble_eq_true rfl⟩ rfl (fun w' H locs hw hI => ?_)
      subst hw
      refine lv_iload_n hx hb dX9_lie_24 rfl (lv_at hl 2 rfl) ?_
      refine lv_if_ne (tgt := 37) hx hb dX9_lie_25 (by decide) (fun c9 => ?_) (fun c9 => ?_)
      · replace h := gw_ifF c9 h
        refine lv_aload_n hx hb dX9_lie_37 rfl (lv_at hl 0 rfl) ?_
        refine gw_get (T := TX9) (k := 27) (v := .ref (a 24)) B hI gm_g0 rfl ly_X9_lie_9 (by decide) m_X9_lie_80 rfl rfl dX9_lie_38 ?_
        refine lv_iload_n hx hb dX9_lie_41 rfl (lv_at hl 1 rfl) ?_
        obtain ⟨g10, h⟩ := gw_gdE h
        refine gw_iald (t0 := 0) B hI gm_g24 rfl g10 dX9_lie_42 ?_
        obtain ⟨h1, h2⟩ := Prod.mk.inj (Option.some.inj h)
        rw [h2] at hI
        rw [← h1]
        exact gw_iret (W' := (fun w => w = gw_mw cc a zS)) B hI rfl (Nat.zero_le _) (Nat.zero_le _) dX9_lie_43
      · replace h := gw_ifT c9 h
        refine lv_aload_n hx hb dX9_lie_28 rfl (lv_at hl 0 rfl) ?_
        refine gw_get (T := TX9) (k := 26) (v := .ref (a 23)) B hI gm_g0 rfl ly_X9_lie_9 (by decide) m_X9_lie_77 rfl rfl dX9_lie_29 ?_
        refine lv_iload_n hx hb dX9_lie_32 rfl (lv_at hl 1 rfl) ?_
        obtain ⟨g11, h⟩ := gw_gdE h
        refine gw_iald (t0 := 0) B hI gm_g23 rfl g11 dX9_lie_33 ?_
        refine lv_goto (tgt := 43) hx hb dX9_lie_34 (by decide) ?_
        obtain ⟨h1, h2⟩ := Prod.mk.inj (Option.some.inj h)
        rw [h2] at hI
        rw [← h1]
        exact gw_iret (W' := (fun w => w = gw_mw cc a zS)) B hI rfl (Nat.zero_le _) (Nat.zero_le _) dX9_lie_43
    · replace h := gw_ifT c6 h
      refine lv_bipush (v := -101) hx hb dX9_lie_17 (by decide) ?_
      obtain ⟨h1, h2⟩ := Prod.mk.inj (Option.some.inj h)
      rw [h2] at hI
      rw [← h1]
      exact gw_iret (W' := (fun w => w = gw_mw cc a zS)) B hI rfl (Nat.zero_le _) (Nat.zero_le _) dX9_lie_19
theorem m_X9_quarrel_227 : Cond.fieldLink RX9 227 "GownLetModel" "quarrels" "Z" ∈ wsX9_quarrel := by decide +kernel
theorem ly_X9_quarrel_9 : ∀ w ∈ wsX90, w ∈ wsX9_quarrel := fun w h => List.mem_cons_of_mem _ (List.mem_append_right _ h)
set_option maxRecDepth 100000 in
set_option maxHeartbeats 4000000 in
theorem k_X9_quarrel  (S : gw_S) {zr : Int32} {zS : gw_S} (h : f_X9_quarrel  S = some (zr, zS)) : gw_M l yX9_quarrel wsX9_quarrel rm_X9_quarrel 0 0 D (gw_ty cc) t1 t2 [.ref (a 0)] (gw_mw cc a S) (fun w => w = gw_mw cc a zS) (some (.int zr)) := by
  refine gw_enter (cc := cX9_quarrel) (maxL := 1) (ret := (some .int)) (own := RX9) rfl (by decide) rfl (Nat.le_of_ble_eq_true rfl) ?_
  intro p e s m below meth c A B hin hI ls hl
  have hl : lv_has ls 1 [(0, .ref (a 0))] := hl
  generalize ([.ref (a 0)] : List Value).toArray = args at B ⊢
  have hx := B.1.1
  have hb := B.1.2.1
  have hown : s.vm.findClass RX9 = some m.cls := B.1.2.2.2.1
  have hts := B.1.2.2.2.2
  unfold f_X9_quarrel at h
  refine lv_aload_n hx hb dX9_quarrel_0 rfl (lv_at hl 0 rfl) ?_
  obtain ⟨S1, e2, h⟩ := gw_bdE h
  refine gw_callVv (As := []) (n := 0) B hI (k_X9_findLies  S e2) gX9_quarrel_X9_findLies rfl rfl rfl nd_X9_findLies ⟨Nat.le_of_ble_eq_true rfl, Nat.le_of_ble_eq_true rfl⟩ gm_g0 rfl rfl rfl hl.1 (Nat.zero_le _) dX9_quarrel_1 ⟨Nat.le_of_ble_eq_true rfl, Nat.le_of_ble_eq_true rfl⟩ rfl (fun w' H locs hw hI => ?_)
  subst hw
  refine lv_aload_n hx hb dX9_quarrel_4 rfl (lv_at hl 0 rfl) ?_
  refine gw_get (T := TX9) (k := 28) (v := .int (S1 0 28)) B hI gm_g0 rfl ly_X9_quarrel_9 (by decide) m_X9_quarrel_227 rfl rfl dX9_quarrel_5 ?_
  refine lv_if_eq (tgt := 15) hx hb dX9_quarrel_8 (by decide) (fun c3 => ?_) (fun c3 => ?_)
  · replace h := gw_ifT c3 h
    refine lv_iconst (v := 0) hx hb dX9_quarrel_15 (by decide) ?_
    obtain ⟨h1, h2⟩ := Prod.mk.inj (Option.some.inj h)
    rw [h2] at hI
    rw [← h1]
    exact gw_iret (W' := (fun w => w = gw_mw cc a zS)) B hI rfl (Nat.zero_le _) (Nat.zero_le _) dX9_quarrel_16
  · replace h := gw_ifF c3 h
    refine lv_iconst (v := 1) hx hb dX9_quarrel_11 (by decide) ?_
    refine lv_goto (tgt := 16) hx hb dX9_quarrel_12 (by decide) ?_
    obtain ⟨h1, h2⟩ := Prod.mk.inj (Option.some.inj h)
    rw [h2] at hI
    rw [← h1]
    exact gw_iret (W' := (fun w => w = gw_mw cc a zS)) B hI rfl (Nat.zero_le _) (Nat.zero_le _) dX9_quarrel_16
set_option maxRecDepth 100000 in
set_option maxHeartbeats 4000000 in
theorem k_X9_size (x0 : Int32) (S : gw_S) {zr : Int32} (h : f_X9_size x0 S = some zr) : gw_M l yX9_size wsX9_size rm_X9_size 0 0 D (gw_ty cc) t1 t2 [.int x0] (gw_mw cc a S) (fun w => w = gw_mw cc a S) (some (.int zr)) := by
  refine gw_enter (cc := cX9_size) (maxL := 1) (ret := (some .int)) (own := RX9) rfl (by decide) rfl (Nat.le_of_ble_eq_true rfl) ?_
  intro p e s m below meth c A B hin hI ls hl
  have hl : lv_has ls 1 [(0, .int x0)] := hl
  generalize ([.int x0] : List Value).toArray = args at B ⊢
  have hx := B.1.1
  have hb := B.1.2.1
  have hown : s.vm.findClass RX9 = some m.cls := B.1.2.2.2.1
  have hts := B.1.2.2.2.2
  unfold f_X9_size at h
  refine lv_iload_n hx hb dX9_size_0 rfl (lv_at hl 0 rfl) ?_
  refine lv_if_ge (tgt := 9) hx hb dX9_size_1 (by decide) (fun c1 => ?_) (fun c1 => ?_)
  · replace h := gw_ifT c1 h
    refine lv_iload_n hx hb dX9_size_9 rfl (lv_at hl 0 rfl) ?_
    rw [← Option.some.inj h]
    exact gw_iret (W' := (fun w => w = gw_mw cc a S)) B hI rfl (Nat.zero_le _) (Nat.zero_le _) dX9_size_10
  · replace h := gw_ifF c1 h
    refine lv_iload_n hx hb dX9_size_4 rfl (lv_at hl 0 rfl) ?_
    refine lv_ineg hx hb dX9_size_5 ?_
    refine lv_goto (tgt := 10) hx hb dX9_size_6 (by decide) ?_
    rw [← Option.some.inj h]
    exact gw_iret (W' := (fun w => w = gw_mw cc a S)) B hI rfl (Nat.zero_le _) (Nat.zero_le _) dX9_size_10
theorem m_X9_fitOf_16 : Cond.fieldLink RX9 16 "GownLetModel" "terms" "[I" ∈ wsX9_fitOf := by decide +kernel
theorem m_X9_fitOf_28 : Cond.fieldLink RX9 28 "GownLetModel" "kinds" "[I" ∈ wsX9_fitOf := by decide +kernel
theorem m_X9_fitOf_31 : Cond.fieldLink RX9 31 "GownLetModel" "makers" "[I" ∈ wsX9_fitOf := by decide +kernel
theorem m_X9_fitOf_34 : Cond.fieldLink RX9 34 "GownLetModel" "labels" "[I" ∈ wsX9_fitOf := by decide +kernel
theorem m_X9_fitOf_49 : Cond.fieldLink RX9 49 "GownLetModel" "hems" "[I" ∈ wsX9_fitOf := by decide +kernel
theorem m_X9_fitOf_77 : Cond.fieldLink RX9 77 "GownLetModel" "lows" "[I" ∈ wsX9_fitOf := by decide +kernel
theorem m_X9_fitOf_80 : Cond.fieldLink RX9 80 "GownLetModel" "highs" "[I" ∈ wsX9_fitOf := by decide +kernel
theorem ly_X9_fitOf_9 : ∀ w ∈ wsX90, w ∈ wsX9_fitOf := fun w h => List.mem_cons_of_mem _ (List.mem_append_right _ h)
set_option maxRecDepth 100000 in
set_option maxHeartbeats 4000000 in
theorem k_X9_fitOf (x1 : Int32) (x2 : Int32) (x3 : Int32) (S : gw_S) {zr : Int32} (h : f_X9_fitOf x1 x2 x3 S = some zr) : gw_M l yX9_fitOf wsX9_fitOf rm_X9_fitOf 0 0 D (gw_ty cc) t1 t2 [.ref (a 0), .int x1, .int x2, .int x3] (gw_mw cc a S) (fun w => w = gw_mw cc a S) (some (.int zr)) := by
  refine gw_enter (cc := cX9_fitOf) (maxL := 8) (ret := (some .int)) (own := RX9) rfl (by decide) rfl (Nat.le_of_ble_eq_true rfl) ?_
  intro p e s m below meth c A B hin hI ls hl
  have hl : lv_has ls 8 [(0, .ref (a 0)), (1, .int x1), (2, .int x2), (3, .int x3)] := hl
  generalize ([.ref (a 0), .int x1, .int x2, .int x3] : List Value).toArray = args at B ⊢
  have hx := B.1.1
  have hb := B.1.2.1
  have hown : s.vm.findClass RX9 = some m.cls := B.1.2.2.2.1
  have hts := B.1.2.2.2.2
  have hb115 : ∀ (K66 : Int32 → Int32 → Int32 → Int32 → Int32 → Option (Int32)) (_ : ∀ (v1 : Int32) (v2 : Int32) (v5 : Int32) (v6 : Int32) (v7 : Int32), K66 v1 v2 v5 v6 v7 = some zr → ∀ (H : Heap) (locs : List Loc) (ls : Array Slot), gw_I D A s.heap (gw_mw cc a S) H locs → lv_has ls 8 [(0, .ref (a 0)), (1, .int v1), (2, .int v2), (5, .int v5), (6, .int v6), (7, .int v7)] → W p l e rm_X9_fitOf s m args below meth c H locs 0 0 (MQ below (gw_Q (some (.int zr)) (gw_Pst D A (fun w => w = gw_mw cc a S)) A) args s 0 0 A) (F0 m 66 ls [])), ∀ (v1 : Int32) (v2 : Int32) (v5 : Int32) (v7 : Int32) (t0_ : Int32) (t1_ : Int32), f_X9_fitOf_b115 S K66 v1 v2 v5 v7 t0_ t1_ = some zr → ∀ (H : Heap) (locs : List Loc) (ls : Array Slot), gw_I D A s.heap (gw_mw cc a S) H locs → lv_has ls 8 [(0, .ref (a 0)), (1, .int v1), (2, .int v2), (5, .int v5), (7, .int v7)] → W p l e rm_X9_fitOf s m args below meth c H locs 0 0 (MQ below (gw_Q (some (.int zr)) (gw_Pst D A (fun w => w = gw_mw cc a S)) A) args s 0 0 A) (F0 m 115 ls [.int t0_, .int t1_]) := by
    intro K66 hK66
    intro v1 v2 v5 v7 t0_ t1_ h H locs ls hI hl
    unfold f_X9_fitOf_b115 at h
    refine lv_iadd hx hb dX9_fitOf_115 ?_
    obtain ⟨y1, e2, h⟩ := gw_letE h
    rw [← e2]
    refine lv_istore (lv' := [(6, .int y1), (0, .ref (a 0)), (1, .int v1), (2, .int v2), (5, .int v5), (7, .int v7)]) hx hb dX9_fitOf_116 hl (by decide) rfl (fun ls hl => ?_)
    obtain ⟨y3, e4, h⟩ := gw_letE h
    refine lv_iinc (v := y3) (lv' := [(7, .int y3), (6, .int y1), (0, .ref (a 0)), (1, .int v1), (2, .int v2), (5, .int v5)]) hx hb dX9_fitOf_118 hl (k := 5) rfl (by rw [e4]; rfl) (by decide) rfl (fun ls hl => ?_)
    refine lv_goto (tgt := 66) hx hb dX9_fitOf_121 (by decide) ?_
    exact hK66 v1 v2 v5 y1 y3 h _ _ _ hI (lv_sub hl [2, 3, 4, 5, 1, 0] rfl)
  have hb66 :  ∀ (n : Nat), ∀ (v1 : Int32) (v2 : Int32) (v5 : Int32) (v6 : Int32) (v7 : Int32), f_X9_fitOf_b66 S  n v1 v2 v5 v6 v7 = some zr → ∀ (H : Heap) (locs : List Loc) (ls : Array Slot), gw_I D A s.heap (gw_mw cc a S) H locs → lv_has ls 8 [(0, .ref (a 0)), (1, .int v1), (2, .int v2), (5, .int v5), (6, .int v6), (7, .int v7)] → W p l e rm_X9_fitOf s m args below meth c H locs 0 0 (MQ below (gw_Q (some (.int zr)) (gw_Pst D A (fun w => w = gw_mw cc a S)) A) args s 0 0 A) (F0 m 66 ls []) := by
    intro n
    induction n with
    | zero =>
      intro v1 v2 v5 v6 v7 h
      cases h
    | succ n ih =>
      intro v1 v2 v5 v6 v7 h H locs ls hI hl
      unfold f_X9_fitOf_b66 at h
      refine lv_iload hx hb dX9_fitOf_66 (lv_at hl 5 rfl) ?_
      refine lv_aload_n hx hb dX9_fitOf_68 rfl (lv_at hl 0 rfl) ?_
      refine gw_get (T := TX9) (k := 27) (v := .ref (a 24)) B hI gm_g0 rfl ly_X9_fitOf_9 (by decide) m_X9_fitOf_80 rfl rfl dX9_fitOf_69 ?_
      refine lv_iload hx hb dX9_fitOf_72 (lv_at hl 3 rfl) ?_
      obtain ⟨g5, h⟩ := gw_gdE h
      refine gw_iald (t0 := 0) B hI gm_g24 rfl g5 dX9_fitOf_74 ?_
      refine lv_icmp_gt (tgt := 124) hx hb dX9_fitOf_75 (by decide) (fun c6 => ?_) (fun c6 => ?_)
      · replace h := gw_ifT c6 h
        refine lv_iload hx hb dX9_fitOf_124 (lv_at hl 4 rfl) ?_
        refine lv_aload_n hx hb dX9_fitOf_126 rfl (lv_at hl 0 rfl) ?_
        refine gw_get (T := TX9) (k := 27) (v := .ref (a 24)) B hI gm_g0 rfl ly_X9_fitOf_9 (by decide) m_X9_fitOf_80 rfl rfl dX9_fitOf_127 ?_
        refine lv_iload hx hb dX9_fitOf_130 (lv_at hl 3 rfl) ?_
        refine gw_iald (t0 := 0) B hI gm_g24 rfl g5 dX9_fitOf_132 ?_
        refine lv_aload_n hx hb dX9_fitOf_133 rfl (lv_at hl 0 rfl) ?_
        refine gw_get (T := TX9) (k := 26) (v := .ref (a 23)) B hI gm_g0 rfl ly_X9_fitOf_9 (by decide) m_X9_fitOf_77 rfl rfl dX9_fitOf_134 ?_
        refine lv_iload hx hb dX9_fitOf_137 (lv_at hl 3 rfl) ?_
        refine gw_iald (t0 := 0) B hI gm_g23 rfl g5 dX9_fitOf_139 ?_
        refine lv_isub hx hb dX9_fitOf_140 ?_
        refine lv_iconst (v := 1) hx hb dX9_fitOf_141 (by decide) ?_
        refine lv_iadd hx hb dX9_fitOf_142 ?_
        refine lv_icmp_ne (tgt := 150) hx hb dX9_fitOf_143 (by decide) (fun c7 => ?_) (fun c7 => ?_)
        · replace h := gw_ifF c7 h
          refine lv_iload hx hb dX9_fitOf_150 (lv_at hl 4 rfl) ?_
          refine lv_if_le (tgt := 159) hx hb dX9_fitOf_152 (by decide) (fun c8 => ?_) (fun c8 => ?_)
          · replace h := gw_ifT c8 h
            refine lv_iconst (v := 0) hx hb dX9_fitOf_159 (by decide) ?_
            rw [← Option.some.inj h]
            exact gw_iret (W' := (fun w => w = gw_mw cc a S)) B hI rfl (Nat.zero_le _) (Nat.zero_le _) dX9_fitOf_160
          · replace h := gw_ifF c8 h
            refine lv_iconst (v := 1) hx hb dX9_fitOf_155 (by decide) ?_
            refine lv_goto (tgt := 160) hx hb dX9_fitOf_156 (by decide) ?_
            rw [← Option.some.inj h]
            exact gw_iret (W' := (fun w => w = gw_mw cc a S)) B hI rfl (Nat.zero_le _) (Nat.zero_le _) dX9_fitOf_160
        · replace h := gw_ifT c7 h
          refine lv_iconst (v := 2) hx hb dX9_fitOf_146 (by decide) ?_
          refine lv_goto (tgt := 160) hx hb dX9_fitOf_147 (by decide) ?_
          rw [← Option.some.inj h]
          exact gw_iret (W' := (fun w => w = gw_mw cc a S)) B hI rfl (Nat.zero_le _) (Nat.zero_le _) dX9_fitOf_160
      · replace h := gw_ifF c6 h
        refine lv_iload hx hb dX9_fitOf_78 (lv_at hl 4 rfl) ?_
        refine lv_aload_n hx hb dX9_fitOf_80 rfl (lv_at hl 0 rfl) ?_
        refine gw_get (T := TX9) (k := 11) (v := .ref (a 9)) B hI gm_g0 rfl ly_X9_fitOf_9 (by decide) m_X9_fitOf_34 rfl rfl dX9_fitOf_81 ?_
        refine lv_iload_n hx hb dX9_fitOf_84 rfl (lv_at hl 1 rfl) ?_
        obtain ⟨g9, h⟩ := gw_gdE h
        refine gw_iald (t0 := 0) B hI gm_g9 rfl g9 dX9_fitOf_85 ?_
        refine lv_iload hx hb dX9_fitOf_86 (lv_at hl 5 rfl) ?_
        refine lv_iadd hx hb dX9_fitOf_88 ?_
        refine lv_aload_n hx hb dX9_fitOf_89 rfl (lv_at hl 0 rfl) ?_
        refine gw_get (T := TX9) (k := 16) (v := .ref (a 14)) B hI gm_g0 rfl ly_X9_fitOf_9 (by decide) m_X9_fitOf_49 rfl rfl dX9_fitOf_90 ?_
        refine lv_iload_n hx hb dX9_fitOf_93 rfl (lv_at hl 1 rfl) ?_
        refine gw_iald (t0 := 0) B hI gm_g14 rfl g9 dX9_fitOf_94 ?_
        refine lv_iadd hx hb dX9_fitOf_95 ?_
        refine lv_iload_n hx hb dX9_fitOf_96 rfl (lv_at hl 2 rfl) ?_
        refine lv_isub hx hb dX9_fitOf_97 ?_
        obtain ⟨r10, e11, h⟩ := gw_bdE h
        refine gw_callS (As := [.int ((((S 9 v1.toNatClampNeg) + v7) + (S 14 v1.toNatClampNeg)) - v2)]) (n := 1) B hI (k_X9_size ((((S 9 v1.toNatClampNeg) + v7) + (S 14 v1.toNatClampNeg)) - v2) S e11) gX9_fitOf_X9_size rfl rfl rfl nds_X9_size ⟨Nat.le_of_ble_eq_true rfl, Nat.le_of_ble_eq_true rfl⟩ rfl hl.1 (by simp [gw_catq, gw_cI, gw_cR, gw_cL]) dX9_fitOf_98 ⟨Nat.le_of_ble_eq_true rfl, Nat.le_of_ble_eq_true rfl⟩ rfl (fun w' H locs hw hI => ?_)
        subst hw
        refine lv_aload_n hx hb dX9_fitOf_101 rfl (lv_at hl 0 rfl) ?_
        refine gw_get (T := TX9) (k := 2) (v := .ref (a 3)) B hI gm_g0 rfl ly_X9_fitOf_9 (by decide) m_X9_fitOf_16 rfl rfl dX9_fitOf_102 ?_
        refine lv_iconst (v := 4) hx hb dX9_fitOf_105 (by decide) ?_
        refine gw_iald (t0 := 0) B hI gm_g3 rfl (by decide) dX9_fitOf_106 ?_
        refine lv_icmp_gt (tgt := 114) hx hb dX9_fitOf_107 (by decide) (fun c12 => ?_) (fun c12 => ?_)
        · replace h := gw_ifT c12 h
          refine lv_iconst (v := 0) hx hb dX9_fitOf_114 (by decide) ?_
          exact hb115 (f_X9_fitOf_b66 S  n) ih v1 v2 v5 v7 (0 : Int32) v6 h _ _ _ hI (lv_sub hl [0, 1, 2, 3, 5] rfl)
        · replace h := gw_ifF c12 h
          refine lv_iconst (v := 1) hx hb dX9_fitOf_110 (by decide) ?_
          refine lv_goto (tgt := 115) hx hb dX9_fitOf_111 (by decide) ?_
          exact hb115 (f_X9_fitOf_b66 S  n) ih v1 v2 v5 v7 (1 : Int32) v6 h _ _ _ hI (lv_sub hl [0, 1, 2, 3, 5] rfl)
  have hb37 :  ∀ (v1 : Int32) (v2 : Int32) (t0_ : Int32), f_X9_fitOf_b37 S  v1 v2 t0_ = some zr → ∀ (H : Heap) (locs : List Loc) (ls : Array Slot), gw_I D A s.heap (gw_mw cc a S) H locs → lv_has ls 8 [(0, .ref (a 0)), (1, .int v1), (2, .int v2)] → W p l e rm_X9_fitOf s m args below meth c H locs 0 0 (MQ below (gw_Q (some (.int zr)) (gw_Pst D A (fun w => w = gw_mw cc a S)) A) args s 0 0 A) (F0 m 37 ls [.int t0_]) := by
    intro v1 v2 t0_ h H locs ls hI hl
    unfold f_X9_fitOf_b37 at h
    refine lv_istore (lv' := [(4, .int t0_), (0, .ref (a 0)), (1, .int v1), (2, .int v2)]) hx hb dX9_fitOf_37 hl (by decide) rfl (fun ls hl => ?_)
    refine lv_iload hx hb dX9_fitOf_39 (lv_at hl 0 rfl) ?_
    refine lv_if_ne (tgt := 46) hx hb dX9_fitOf_41 (by decide) (fun c13 => ?_) (fun c13 => ?_)
    · replace h := gw_ifF c13 h
      refine lv_aload_n hx hb dX9_fitOf_46 rfl (lv_at hl 1 rfl) ?_
      refine gw_get (T := TX9) (k := 10) (v := .ref (a 8)) B hI gm_g0 rfl ly_X9_fitOf_9 (by decide) m_X9_fitOf_31 rfl rfl dX9_fitOf_47 ?_
      refine lv_iload_n hx hb dX9_fitOf_50 rfl (lv_at hl 2 rfl) ?_
      obtain ⟨g14, h⟩ := gw_gdE h
      refine gw_iald (t0 := 0) B hI gm_g8 rfl g14 dX9_fitOf_51 ?_
      obtain ⟨y15, e16, h⟩ := gw_letE h
      rw [← e16]
      refine lv_istore (lv' := [(5, .int y15), (4, .int t0_), (0, .ref (a 0)), (1, .int v1), (2, .int v2)]) hx hb dX9_fitOf_52 hl (by decide) rfl (fun ls hl => ?_)
      refine lv_iconst (v := 0) hx hb dX9_fitOf_54 (by decide) ?_
      refine lv_istore (lv' := [(6, .int (0 : Int32)), (5, .int y15), (4, .int t0_), (0, .ref (a 0)), (1, .int v1), (2, .int v2)]) hx hb dX9_fitOf_55 hl (by decide) rfl (fun ls hl => ?_)
      refine lv_aload_n hx hb dX9_fitOf_57 rfl (lv_at hl 3 rfl) ?_
      refine gw_get (T := TX9) (k := 26) (v := .ref (a 23)) B hI gm_g0 rfl ly_X9_fitOf_9 (by decide) m_X9_fitOf_77 rfl rfl dX9_fitOf_58 ?_
      refine lv_iload hx hb dX9_fitOf_61 (lv_at hl 1 rfl) ?_
      obtain ⟨g17, h⟩ := gw_gdE h
      refine gw_iald (t0 := 0) B hI gm_g23 rfl g17 dX9_fitOf_63 ?_
      obtain ⟨y18, e19, h⟩ := gw_letE h
      rw [← e19]
      refine lv_istore (lv' := [(7, .int y18), (6, .int (0 : Int32)), (5, .int y15), (4, .int t0_), (0, .ref (a 0)), (1, .int v1), (2, .int v2)]) hx hb dX9_fitOf_64 hl (by decide) rfl (fun ls hl => ?_)
      exact hb66  gw_F v1 v2 y15 (0 : Int32) y18 h _ _ _ hI (lv_sub hl [4, 5, 6, 2, 1, 0] rfl)
    · replace h := gw_ifT c13 h
      refine lv_iconst (v := 0) hx hb dX9_fitOf_44 (by decide) ?_
      rw [← Option.some.inj h]
      exact gw_iret (W' := (fun w => w = gw_mw cc a S)) B hI rfl (Nat.zero_le _) (Nat.zero_le _) dX9_fitOf_45
  unfold f_X9_fitOf at h
  refine lv_iload_n hx hb dX9_fitOf_0 rfl (lv_at hl 3 rfl) ?_
  refine lv_if_ne (tgt := 22) hx hb dX9_fitOf_1 (by decide) (fun c20 => ?_) (fun c20 => ?_)
  · replace h := gw_ifF c20 h
    refine lv_aload_n hx hb dX9_fitOf_22 rfl (lv_at hl 0 rfl) ?_
    refine gw_get (T := TX9) (k := 9) (v := .ref (a 7)) B hI gm_g0 rfl ly_X9_fitOf_9 (by decide) m_X9_fitOf_28 rfl rfl dX9_fitOf_23 ?_
    refine lv_iload_n hx hb dX9_fitOf_26 rfl (lv_at hl 1 rfl) ?_
    obtain ⟨g21, h⟩ := gw_gdE h
    refine gw_iald (t0 := 0) B hI gm_g7 rfl g21 dX9_fitOf_27 ?_
    refine lv_iload_n hx hb dX9_fitOf_28 rfl (lv_at hl 3 rfl) ?_
    refine lv_icmp_ne (tgt := 36) hx hb dX9_fitOf_29 (by decide) (fun c22 => ?_) (fun c22 => ?_)
    · replace h := gw_ifF c22 h
      refine lv_iconst (v := 0) hx hb dX9_fitOf_36 (by decide) ?_
      exact hb37  x1 x2 (0 : Int32) h _ _ _ hI (lv_sub hl [0, 1, 2] rfl)
    · replace h := gw_ifT c22 h
      refine lv_iconst (v := 1) hx hb dX9_fitOf_32 (by decide) ?_
      refine lv_goto (tgt := 37) hx hb dX9_fitOf_33 (by decide) ?_
      exact hb37  x1 x2 (1 : Int32) h _ _ _ hI (lv_sub hl [0, 1, 2] rfl)
  · replace h := gw_ifT c20 h
    refine lv_aload_n hx hb dX9_fitOf_4 rfl (lv_at hl 0 rfl) ?_
    refine gw_get (T := TX9) (k := 9) (v := .ref (a 7)) B hI gm_g0 rfl ly_X9_fitOf_9 (by decide) m_X9_fitOf_28 rfl rfl dX9_fitOf_5 ?_
    refine lv_iload_n hx hb dX9_fitOf_8 rfl (lv_at hl 1 rfl) ?_
    obtain ⟨g23, h⟩ := gw_gdE h
    refine gw_iald (t0 := 0) B hI gm_g7 rfl g23 dX9_fitOf_9 ?_
    refine lv_iconst (v := 2) hx hb dX9_fitOf_10 (by decide) ?_
    refine lv_icmp_ge (tgt := 18) hx hb dX9_fitOf_11 (by decide) (fun c24 => ?_) (fun c24 => ?_)
    · replace h := gw_ifT c24 h
      refine lv_iconst (v := 0) hx hb dX9_fitOf_18 (by decide) ?_
      refine lv_goto (tgt := 37) hx hb dX9_fitOf_19 (by decide) ?_
      exact hb37  x1 x2 (0 : Int32) h _ _ _ hI (lv_sub hl [0, 1, 2] rfl)
    · replace h := gw_ifF c24 h
      refine lv_iconst (v := 1) hx hb dX9_fitOf_14 (by decide) ?_
      refine lv_goto (tgt := 37) hx hb dX9_fitOf_15 (by decide) ?_
      exact hb37  x1 x2 (1 : Int32) h _ _ _ hI (lv_sub hl [0, 1, 2] rfl)
set_option maxRecDepth 100000 in
set_option maxHeartbeats 4000000 in
theorem k_X9_fits (x1 : Int32) (x2 : Int32) (x3 : Int32) (S : gw_S) {zr : Int32} {zS : gw_S} (h : f_X9_fits x1 x2 x3 S = some (zr, zS)) : gw_M l yX9_fits wsX9_fits rm_X9_fits 0 0 D (gw_ty cc) t1 t2 [.ref (a 0), .int x1, .int x2, .int x3] (gw_mw cc a S) (fun w => w = gw_mw cc a zS) (some (.int zr)) := by
  refine gw_enter (cc := cX9_fits) (maxL := 4) (ret := (some .int)) (own := RX9) rfl (by decide) rfl (Nat.le_of_ble_eq_true rfl) ?_
  intro p e s m below meth c A B hin hI ls hl
  have hl : lv_has ls 4 [(0, .ref (a 0)), (1, .int x1), (2, .int x2), (3, .int x3)] := hl
  generalize ([.ref (a 0), .int x1, .int x2, .int x3] : List Value).toArray = args at B ⊢
  have hx := B.1.1
  have hb := B.1.2.1
  have hown : s.vm.findClass RX9 = some m.cls := B.1.2.2.2.1
  have hts := B.1.2.2.2.2
  unfold f_X9_fits at h
  refine lv_aload_n hx hb dX9_fits_0 rfl (lv_at hl 0 rfl) ?_
  refine lv_iload_n hx hb dX9_fits_1 rfl (lv_at hl 1 rfl) ?_
  obtain ⟨r1, e2, h⟩ := gw_bdE h
  refine gw_callV (As := [.int x1]) (n := 1) B hI (k_X9_isPiece x1 S e2) gX9_fits_X9_isPiece rfl rfl rfl nd_X9_isPiece ⟨Nat.le_of_ble_eq_true rfl, Nat.le_of_ble_eq_true rfl⟩ gm_g0 rfl rfl rfl hl.1 (Nat.zero_le _) dX9_fits_2 ⟨Nat.le_of_ble_eq_true rfl, Nat.le_of_ble_eq_true rfl⟩ rfl (fun w' H locs hw hI => ?_)
  subst hw
  refine lv_if_eq (tgt := 32) hx hb dX9_fits_5 (by decide) (fun c3 => ?_) (fun c3 => ?_)
  · replace h := gw_ifT c3 h
    refine lv_iconst (v := -1) hx hb dX9_fits_32 (by decide) ?_
    obtain ⟨h1, h2⟩ := Prod.mk.inj (Option.some.inj h)
    rw [h2] at hI
    rw [← h1]
    exact gw_iret (W' := (fun w => w = gw_mw cc a zS)) B hI rfl (Nat.zero_le _) (Nat.zero_le _) dX9_fits_33
  · replace h := gw_ifF c3 h
    refine lv_iload_n hx hb dX9_fits_8 rfl (lv_at hl 2 rfl) ?_
    refine lv_i2l hx hb dX9_fits_9 rfl ?_
    refine lv_lconst (v := 1) hx hb dX9_fits_10 (by decide) ?_
    refine lv_ldc2 (v := 40) hx hb hown (hts (.constantLong RX9 191 (40)) (by decide +kernel)) dX9_fits_11 ?_
    obtain ⟨r4, e5, h⟩ := gw_bdE h
    refine gw_callS (As := [.long (x2.toInt64), .long (1 : Int64), .long (40 : Int64)]) (n := 3) B hI (k_X9_in (x2.toInt64) (1 : Int64) (40 : Int64) S e5) gX9_fits_X9_in rfl rfl rfl nds_X9_in ⟨Nat.le_of_ble_eq_true rfl, Nat.le_of_ble_eq_true rfl⟩ rfl hl.1 (Nat.zero_le _) dX9_fits_14 ⟨Nat.le_of_ble_eq_true rfl, Nat.le_of_ble_eq_true rfl⟩ rfl (fun w' H locs hw hI => ?_)
    subst hw
    refine lv_if_eq (tgt := 32) hx hb dX9_fits_17 (by decide) (fun c6 => ?_) (fun c6 => ?_)
    · replace h := gw_ifT c6 h
      refine lv_iconst (v := -1) hx hb dX9_fits_32 (by decide) ?_
      obtain ⟨h1, h2⟩ := Prod.mk.inj (Option.some.inj h)
      rw [h2] at hI
      rw [← h1]
      exact gw_iret (W' := (fun w => w = gw_mw cc a zS)) B hI rfl (Nat.zero_le _) (Nat.zero_le _) dX9_fits_33
    · replace h := gw_ifF c6 h
      refine lv_iload_n hx hb dX9_fits_20 rfl (lv_at hl 3 rfl) ?_
      refine lv_i2l hx hb dX9_fits_21 rfl ?_
      refine lv_lconst (v := 0) hx hb dX9_fits_22 (by decide) ?_
      refine lv_ldc2 (v := 2) hx hb hown (hts (.constantLong RX9 241 (2)) (by decide +kernel)) dX9_fits_23 ?_
      obtain ⟨r7, e8, h⟩ := gw_bdE h
      refine gw_callS (As := [.long (x3.toInt64), .long (0 : Int64), .long (2 : Int64)]) (n := 3) B hI (k_X9_in (x3.toInt64) (0 : Int64) (2 : Int64) S e8) gX9_fits_X9_in rfl rfl rfl nds_X9_in ⟨Nat.le_of_ble_eq_true rfl, Nat.le_of_ble_eq_true rfl⟩ rfl hl.1 (Nat.zero_le _) dX9_fits_26 ⟨Nat.le_of_ble_eq_true rfl, Nat.le_of_ble_eq_true rfl⟩ rfl (fun w' H locs hw hI => ?_)
      subst hw
      refine lv_if_ne (tgt := 34) hx hb dX9_fits_29 (by decide) (fun c9 => ?_) (fun c9 => ?_)
      · replace h := gw_ifF c9 h
        refine lv_aload_n hx hb dX9_fits_34 rfl (lv_at hl 0 rfl) ?_
        obtain ⟨S10, e11, h⟩ := gw_bdE h
        refine gw_callVv (As := []) (n := 0) B hI (k_X9_findLies  S e11) gX9_fits_X9_findLies rfl rfl rfl nd_X9_findLies ⟨Nat.le_of_ble_eq_true rfl, Nat.le_of_ble_eq_true rfl⟩ gm_g0 rfl rfl rfl hl.1 (Nat.zero_le _) dX9_fits_35 ⟨Nat.le_of_ble_eq_true rfl, Nat.le_of_ble_eq_true rfl⟩ rfl (fun w' H locs hw hI => ?_)
        subst hw
        refine lv_aload_n hx hb dX9_fits_38 rfl (lv_at hl 0 rfl) ?_
        refine lv_iload_n hx hb dX9_fits_39 rfl (lv_at hl 1 rfl) ?_
        refine lv_iload_n hx hb dX9_fits_40 rfl (lv_at hl 2 rfl) ?_
        refine lv_iload_n hx hb dX9_fits_41 rfl (lv_at hl 3 rfl) ?_
        obtain ⟨r12, e13, h⟩ := gw_bdE h
        refine gw_callV (As := [.int x1, .int x2, .int x3]) (n := 3) B hI (k_X9_fitOf x1 x2 x3 S10 e13) gX9_fits_X9_fitOf rfl rfl rfl nd_X9_fitOf ⟨Nat.le_of_ble_eq_true rfl, Nat.le_of_ble_eq_true rfl⟩ gm_g0 rfl rfl rfl hl.1 (Nat.zero_le _) dX9_fits_42 ⟨Nat.le_of_ble_eq_true rfl, Nat.le_of_ble_eq_true rfl⟩ rfl (fun w' H locs hw hI => ?_)
        subst hw
        obtain ⟨h1, h2⟩ := Prod.mk.inj (Option.some.inj h)
        rw [h2] at hI
        rw [← h1]
        exact gw_iret (W' := (fun w => w = gw_mw cc a zS)) B hI rfl (Nat.zero_le _) (Nat.zero_le _) dX9_fits_45
      · replace h := gw_ifT c9 h
        refine lv_iconst (v := -1) hx hb dX9_fits_32 (by decide) ?_
        obtain ⟨h1, h2⟩ := Prod.mk.inj (Option.some.inj h)
        rw [h2] at hI
        rw [← h1]
        exact gw_iret (W' := (fun w => w = gw_mw cc a zS)) B hI rfl (Nat.zero_le _) (Nat.zero_le _) dX9_fits_33
set_option maxRecDepth 100000 in
set_option maxHeartbeats 4000000 in
theorem k_X9_isBooking (x0 : Int32) (x1 : Int32) (x2 : Int32) (x3 : Int32) (x4 : Int32) (x5 : Int32) (S : gw_S) {zr : Int32} (h : f_X9_isBooking x0 x1 x2 x3 x4 x5 S = some zr) : gw_M l yX9_isBooking wsX9_isBooking rm_X9_isBooking 0 0 D (gw_ty cc) t1 t2 [.int x0, .int x1, .int x2, .int x3, .int x4, .int x5] (gw_mw cc a S) (fun w => w = gw_mw cc a S) (some (.int zr)) := by
  refine gw_enter (cc := cX9_isBooking) (maxL := 6) (ret := (some .boolean)) (own := RX9) rfl (by decide) rfl (Nat.le_of_ble_eq_true rfl) ?_
  intro p e s m below meth c A B hin hI ls hl
  have hl : lv_has ls 6 [(0, .int x0), (1, .int x1), (2, .int x2), (3, .int x3), (4, .int x4), (5, .int x5)] := hl
  generalize ([.int x0, .int x1, .int x2, .int x3, .int x4, .int x5] : List Value).toArray = args at B ⊢
  have hx := B.1.1
  have hb := B.1.2.1
  have hown : s.vm.findClass RX9 = some m.cls := B.1.2.2.2.1
  have hts := B.1.2.2.2.2
  unfold f_X9_isBooking at h
  refine lv_iload_n hx hb dX9_isBooking_0 rfl (lv_at hl 0 rfl) ?_
  refine lv_i2l hx hb dX9_isBooking_1 rfl ?_
  refine lv_lconst (v := 1) hx hb dX9_isBooking_2 (by decide) ?_
  refine lv_ldc2 (v := 40) hx hb hown (hts (.constantLong RX9 191 (40)) (by decide +kernel)) dX9_isBooking_3 ?_
  obtain ⟨r1, e2, h⟩ := gw_bdE h
  refine gw_callS (As := [.long (x0.toInt64), .long (1 : Int64), .long (40 : Int64)]) (n := 3) B hI (k_X9_in (x0.toInt64) (1 : Int64) (40 : Int64) S e2) gX9_isBooking_X9_in rfl rfl rfl nds_X9_in ⟨Nat.le_of_ble_eq_true rfl, Nat.le_of_ble_eq_true rfl⟩ rfl hl.1 (Nat.zero_le _) dX9_isBooking_6 ⟨Nat.le_of_ble_eq_true rfl, Nat.le_of_ble_eq_true rfl⟩ rfl (fun w' H locs hw hI => ?_)
  subst hw
  refine lv_if_eq (tgt := 77) hx hb dX9_isBooking_9 (by decide) (fun c3 => ?_) (fun c3 => ?_)
  · replace h := gw_ifT c3 h
    refine lv_iconst (v := 0) hx hb dX9_isBooking_77 (by decide) ?_
    rw [← Option.some.inj h]
    exact gw_zret (W' := (fun w => w = gw_mw cc a S)) B hI rfl (Or.inl rfl) (Nat.zero_le _) (Nat.zero_le _) dX9_isBooking_78
  · replace h := gw_ifF c3 h
    refine lv_iload_n hx hb dX9_isBooking_12 rfl (lv_at hl 1 rfl) ?_
    refine lv_i2l hx hb dX9_isBooking_13 rfl ?_
    refine lv_lconst (v := 0) hx hb dX9_isBooking_14 (by decide) ?_
    refine lv_ldc2 (v := 2) hx hb hown (hts (.constantLong RX9 241 (2)) (by decide +kernel)) dX9_isBooking_15 ?_
    obtain ⟨r4, e5, h⟩ := gw_bdE h
    refine gw_callS (As := [.long (x1.toInt64), .long (0 : Int64), .long (2 : Int64)]) (n := 3) B hI (k_X9_in (x1.toInt64) (0 : Int64) (2 : Int64) S e5) gX9_isBooking_X9_in rfl rfl rfl nds_X9_in ⟨Nat.le_of_ble_eq_true rfl, Nat.le_of_ble_eq_true rfl⟩ rfl hl.1 (Nat.zero_le _) dX9_isBooking_18 ⟨Nat.le_of_ble_eq_true rfl, Nat.le_of_ble_eq_true rfl⟩ rfl (fun w' H locs hw hI => ?_)
    subst hw
    refine lv_if_eq (tgt := 77) hx hb dX9_isBooking_21 (by decide) (fun c6 => ?_) (fun c6 => ?_)
    · replace h := gw_ifT c6 h
      refine lv_iconst (v := 0) hx hb dX9_isBooking_77 (by decide) ?_
      rw [← Option.some.inj h]
      exact gw_zret (W' := (fun w => w = gw_mw cc a S)) B hI rfl (Or.inl rfl) (Nat.zero_le _) (Nat.zero_le _) dX9_isBooking_78
    · replace h := gw_ifF c6 h
      refine lv_iload_n hx hb dX9_isBooking_24 rfl (lv_at hl 2 rfl) ?_
      refine lv_i2l hx hb dX9_isBooking_25 rfl ?_
      refine lv_ldc2 (v := 20) hx hb hown (hts (.constantLong RX9 247 (20)) (by decide +kernel)) dX9_isBooking_26 ?_
      refine lv_ldc2 (v := 380) hx hb hown (hts (.constantLong RX9 249 (380)) (by decide +kernel)) dX9_isBooking_29 ?_
      obtain ⟨r7, e8, h⟩ := gw_bdE h
      refine gw_callS (As := [.long (x2.toInt64), .long (20 : Int64), .long (380 : Int64)]) (n := 3) B hI (k_X9_in (x2.toInt64) (20 : Int64) (380 : Int64) S e8) gX9_isBooking_X9_in rfl rfl rfl nds_X9_in ⟨Nat.le_of_ble_eq_true rfl, Nat.le_of_ble_eq_true rfl⟩ rfl hl.1 (Nat.zero_le _) dX9_isBooking_32 ⟨Nat.le_of_ble_eq_true rfl, Nat.le_of_ble_eq_true rfl⟩ rfl (fun w' H locs hw hI => ?_)
      subst hw
      refine lv_if_eq (tgt := 77) hx hb dX9_isBooking_35 (by decide) (fun c9 => ?_) (fun c9 => ?_)
      · replace h := gw_ifT c9 h
        refine lv_iconst (v := 0) hx hb dX9_isBooking_77 (by decide) ?_
        rw [← Option.some.inj h]
        exact gw_zret (W' := (fun w => w = gw_mw cc a S)) B hI rfl (Or.inl rfl) (Nat.zero_le _) (Nat.zero_le _) dX9_isBooking_78
      · replace h := gw_ifF c9 h
        refine lv_iload_n hx hb dX9_isBooking_38 rfl (lv_at hl 3 rfl) ?_
        obtain ⟨r10, e11, h⟩ := gw_bdE h
        refine gw_callS (As := [.int x3]) (n := 1) B hI (k_X9_isTown x3 S e11) gX9_isBooking_X9_isTown rfl rfl rfl nds_X9_isTown ⟨Nat.le_of_ble_eq_true rfl, Nat.le_of_ble_eq_true rfl⟩ rfl hl.1 (Nat.zero_le _) dX9_isBooking_39 ⟨Nat.le_of_ble_eq_true rfl, Nat.le_of_ble_eq_true rfl⟩ rfl (fun w' H locs hw hI => ?_)
        subst hw
        refine lv_if_eq (tgt := 77) hx hb dX9_isBooking_42 (by decide) (fun c12 => ?_) (fun c12 => ?_)
        · replace h := gw_ifT c12 h
          refine lv_iconst (v := 0) hx hb dX9_isBooking_77 (by decide) ?_
          rw [← Option.some.inj h]
          exact gw_zret (W' := (fun w => w = gw_mw cc a S)) B hI rfl (Or.inl rfl) (Nat.zero_le _) (Nat.zero_le _) dX9_isBooking_78
        · replace h := gw_ifF c12 h
          refine lv_iload hx hb dX9_isBooking_45 (lv_at hl 4 rfl) ?_
          refine lv_i2l hx hb dX9_isBooking_47 rfl ?_
          refine lv_lconst (v := 0) hx hb dX9_isBooking_48 (by decide) ?_
          refine lv_ldc2 (v := 399) hx hb hown (hts (.constantLong RX9 251 (399)) (by decide +kernel)) dX9_isBooking_49 ?_
          obtain ⟨r13, e14, h⟩ := gw_bdE h
          refine gw_callS (As := [.long (x4.toInt64), .long (0 : Int64), .long (399 : Int64)]) (n := 3) B hI (k_X9_in (x4.toInt64) (0 : Int64) (399 : Int64) S e14) gX9_isBooking_X9_in rfl rfl rfl nds_X9_in ⟨Nat.le_of_ble_eq_true rfl, Nat.le_of_ble_eq_true rfl⟩ rfl hl.1 (Nat.zero_le _) dX9_isBooking_52 ⟨Nat.le_of_ble_eq_true rfl, Nat.le_of_ble_eq_true rfl⟩ rfl (fun w' H locs hw hI => ?_)
          subst hw
          refine lv_if_eq (tgt := 77) hx hb dX9_isBooking_55 (by decide) (fun c15 => ?_) (fun c15 => ?_)
          · replace h := gw_ifT c15 h
            refine lv_iconst (v := 0) hx hb dX9_isBooking_77 (by decide) ?_
            rw [← Option.some.inj h]
            exact gw_zret (W' := (fun w => w = gw_mw cc a S)) B hI rfl (Or.inl rfl) (Nat.zero_le _) (Nat.zero_le _) dX9_isBooking_78
          · replace h := gw_ifF c15 h
            refine lv_iload hx hb dX9_isBooking_58 (lv_at hl 5 rfl) ?_
            refine lv_i2l hx hb dX9_isBooking_60 rfl ?_
            refine lv_ldc2 (v := -1) hx hb hown (hts (.constantLong RX9 253 (-1)) (by decide +kernel)) dX9_isBooking_61 ?_
            refine lv_ldc2 (v := 4) hx hb hown (hts (.constantLong RX9 255 (4)) (by decide +kernel)) dX9_isBooking_64 ?_
            obtain ⟨r16, e17, h⟩ := gw_bdE h
            refine gw_callS (As := [.long (x5.toInt64), .long (-1 : Int64), .long (4 : Int64)]) (n := 3) B hI (k_X9_in (x5.toInt64) (-1 : Int64) (4 : Int64) S e17) gX9_isBooking_X9_in rfl rfl rfl nds_X9_in ⟨Nat.le_of_ble_eq_true rfl, Nat.le_of_ble_eq_true rfl⟩ rfl hl.1 (Nat.zero_le _) dX9_isBooking_67 ⟨Nat.le_of_ble_eq_true rfl, Nat.le_of_ble_eq_true rfl⟩ rfl (fun w' H locs hw hI => ?_)
            subst hw
            refine lv_if_eq (tgt := 77) hx hb dX9_isBooking_70 (by decide) (fun c18 => ?_) (fun c18 => ?_)
            · replace h := gw_ifT c18 h
              refine lv_iconst (v := 0) hx hb dX9_isBooking_77 (by decide) ?_
              rw [← Option.some.inj h]
              exact gw_zret (W' := (fun w => w = gw_mw cc a S)) B hI rfl (Or.inl rfl) (Nat.zero_le _) (Nat.zero_le _) dX9_isBooking_78
            · replace h := gw_ifF c18 h
              refine lv_iconst (v := 1) hx hb dX9_isBooking_73 (by decide) ?_
              refine lv_goto (tgt := 78) hx hb dX9_isBooking_74 (by decide) ?_
              rw [← Option.some.inj h]
              exact gw_zret (W' := (fun w => w = gw_mw cc a S)) B hI rfl (Or.inr rfl) (Nat.zero_le _) (Nat.zero_le _) dX9_isBooking_78
theorem m_X9_addBooking_101 : Cond.fieldLink RX9 101 "GownLetModel" "offs" "[I" ∈ wsX9_addBooking := by decide +kernel
theorem m_X9_addBooking_104 : Cond.fieldLink RX9 104 "GownLetModel" "had" "[I" ∈ wsX9_addBooking := by decide +kernel
theorem m_X9_addBooking_257 : Cond.fieldLink RX9 257 "GownLetModel" "bookings" "I" ∈ wsX9_addBooking := by decide +kernel
theorem m_X9_addBooking_83 : Cond.fieldLink RX9 83 "GownLetModel" "bodies" "[I" ∈ wsX9_addBooking := by decide +kernel
theorem m_X9_addBooking_86 : Cond.fieldLink RX9 86 "GownLetModel" "wanted" "[I" ∈ wsX9_addBooking := by decide +kernel
theorem m_X9_addBooking_89 : Cond.fieldLink RX9 89 "GownLetModel" "nights" "[I" ∈ wsX9_addBooking := by decide +kernel
theorem m_X9_addBooking_92 : Cond.fieldLink RX9 92 "GownLetModel" "places" "[I" ∈ wsX9_addBooking := by decide +kernel
theorem m_X9_addBooking_95 : Cond.fieldLink RX9 95 "GownLetModel" "made" "[I" ∈ wsX9_addBooking := by decide +kernel
theorem m_X9_addBooking_98 : Cond.fieldLink RX9 98 "GownLetModel" "parties" "[I" ∈ wsX9_addBooking := by decide +kernel
theorem ly_X9_addBooking_9 : ∀ w ∈ wsX90, w ∈ wsX9_addBooking := fun w h => List.mem_cons_of_mem _ (List.mem_append_right _ h)
set_option maxRecDepth 100000 in
set_option maxHeartbeats 4000000 in
theorem k_X9_addBooking (x1 : Int32) (x2 : Int32) (x3 : Int32) (x4 : Int32) (x5 : Int32) (x6 : Int32) (S : gw_S)  {zS : gw_S} (h : f_X9_addBooking x1 x2 x3 x4 x5 x6 S = some zS) : gw_M l yX9_addBooking wsX9_addBooking rm_X9_addBooking 0 0 D (gw_ty cc) t1 t2 [.ref (a 0), .int x1, .int x2, .int x3, .int x4, .int x5, .int x6] (gw_mw cc a S) (fun w => w = gw_mw cc a zS) none := by
  refine gw_enter (cc := cX9_addBooking) (maxL := 7) (ret := none) (own := RX9) rfl (by decide) rfl (Nat.le_of_ble_eq_true rfl) ?_
  intro p e s m below meth c A B hin hI ls hl
  have hl : lv_has ls 7 [(0, .ref (a 0)), (1, .int x1), (2, .int x2), (3, .int x3), (4, .int x4), (5, .int x5), (6, .int x6)] := hl
  generalize ([.ref (a 0), .int x1, .int x2, .int x3, .int x4, .int x5, .int x6] : List Value).toArray = args at B ⊢
  have hx := B.1.1
  have hb := B.1.2.1
  have hown : s.vm.findClass RX9 = some m.cls := B.1.2.2.2.1
  have hts := B.1.2.2.2.2
  unfold f_X9_addBooking at h
  refine lv_aload_n hx hb dX9_addBooking_0 rfl (lv_at hl 0 rfl) ?_
  refine gw_get (T := TX9) (k := 30) (v := .ref (a 25)) B hI gm_g0 rfl ly_X9_addBooking_9 (by decide) m_X9_addBooking_83 rfl rfl dX9_addBooking_1 ?_
  refine lv_aload_n hx hb dX9_addBooking_4 rfl (lv_at hl 0 rfl) ?_
  refine gw_get (T := TX9) (k := 29) (v := .int (S 0 29)) B hI gm_g0 rfl ly_X9_addBooking_9 (by decide) m_X9_addBooking_257 rfl rfl dX9_addBooking_5 ?_
  refine lv_iload_n hx hb dX9_addBooking_8 rfl (lv_at hl 1 rfl) ?_
  obtain ⟨g1, h⟩ := gw_gdE h
  obtain ⟨S2, e3, h⟩ := gw_letE h
  refine gw_iast (t0 := 0) (w' := gw_mw cc a S2) B hI gm_g25 rfl g1 (gm_s25 e3) dX9_addBooking_9 (fun H locs hI => ?_)
  refine lv_aload_n hx hb dX9_addBooking_10 rfl (lv_at hl 0 rfl) ?_
  refine gw_get (T := TX9) (k := 31) (v := .ref (a 26)) B hI gm_g0 rfl ly_X9_addBooking_9 (by decide) m_X9_addBooking_86 rfl rfl dX9_addBooking_11 ?_
  refine lv_aload_n hx hb dX9_addBooking_14 rfl (lv_at hl 0 rfl) ?_
  refine gw_get (T := TX9) (k := 29) (v := .int (S2 0 29)) B hI gm_g0 rfl ly_X9_addBooking_9 (by decide) m_X9_addBooking_257 rfl rfl dX9_addBooking_15 ?_
  refine lv_iload_n hx hb dX9_addBooking_18 rfl (lv_at hl 2 rfl) ?_
  obtain ⟨g4, h⟩ := gw_gdE h
  obtain ⟨S5, e6, h⟩ := gw_letE h
  refine gw_iast (t0 := 0) (w' := gw_mw cc a S5) B hI gm_g26 rfl g4 (gm_s26 e6) dX9_addBooking_19 (fun H locs hI => ?_)
  refine lv_aload_n hx hb dX9_addBooking_20 rfl (lv_at hl 0 rfl) ?_
  refine gw_get (T := TX9) (k := 32) (v := .ref (a 27)) B hI gm_g0 rfl ly_X9_addBooking_9 (by decide) m_X9_addBooking_89 rfl rfl dX9_addBooking_21 ?_
  refine lv_aload_n hx hb dX9_addBooking_24 rfl (lv_at hl 0 rfl) ?_
  refine gw_get (T := TX9) (k := 29) (v := .int (S5 0 29)) B hI gm_g0 rfl ly_X9_addBooking_9 (by decide) m_X9_addBooking_257 rfl rfl dX9_addBooking_25 ?_
  refine lv_iload_n hx hb dX9_addBooking_28 rfl (lv_at hl 3 rfl) ?_
  obtain ⟨g7, h⟩ := gw_gdE h
  obtain ⟨S8, e9, h⟩ := gw_letE h
  refine gw_iast (t0 := 0) (w' := gw_mw cc a S8) B hI gm_g27 rfl g7 (gm_s27 e9) dX9_addBooking_29 (fun H locs hI => ?_)
  refine lv_aload_n hx hb dX9_addBooking_30 rfl (lv_at hl 0 rfl) ?_
  refine gw_get (T := TX9) (k := 33) (v := .ref (a 28)) B hI gm_g0 rfl ly_X9_addBooking_9 (by decide) m_X9_addBooking_92 rfl rfl dX9_addBooking_31 ?_
  refine lv_aload_n hx hb dX9_addBooking_34 rfl (lv_at hl 0 rfl) ?_
  refine gw_get (T := TX9) (k := 29) (v := .int (S8 0 29)) B hI gm_g0 rfl ly_X9_addBooking_9 (by decide) m_X9_addBooking_257 rfl rfl dX9_addBooking_35 ?_
  refine lv_iload hx hb dX9_addBooking_38 (lv_at hl 4 rfl) ?_
  obtain ⟨g10, h⟩ := gw_gdE h
  obtain ⟨S11, e12, h⟩ := gw_letE h
  refine gw_iast (t0 := 0) (w' := gw_mw cc a S11) B hI gm_g28 rfl g10 (gm_s28 e12) dX9_addBooking_40 (fun H locs hI => ?_)
  refine lv_aload_n hx hb dX9_addBooking_41 rfl (lv_at hl 0 rfl) ?_
  refine gw_get (T := TX9) (k := 34) (v := .ref (a 29)) B hI gm_g0 rfl ly_X9_addBooking_9 (by decide) m_X9_addBooking_95 rfl rfl dX9_addBooking_42 ?_
  refine lv_aload_n hx hb dX9_addBooking_45 rfl (lv_at hl 0 rfl) ?_
  refine gw_get (T := TX9) (k := 29) (v := .int (S11 0 29)) B hI gm_g0 rfl ly_X9_addBooking_9 (by decide) m_X9_addBooking_257 rfl rfl dX9_addBooking_46 ?_
  refine lv_iload hx hb dX9_addBooking_49 (lv_at hl 5 rfl) ?_
  obtain ⟨g13, h⟩ := gw_gdE h
  obtain ⟨S14, e15, h⟩ := gw_letE h
  refine gw_iast (t0 := 0) (w' := gw_mw cc a S14) B hI gm_g29 rfl g13 (gm_s29 e15) dX9_addBooking_51 (fun H locs hI => ?_)
  refine lv_aload_n hx hb dX9_addBooking_52 rfl (lv_at hl 0 rfl) ?_
  refine gw_get (T := TX9) (k := 35) (v := .ref (a 30)) B hI gm_g0 rfl ly_X9_addBooking_9 (by decide) m_X9_addBooking_98 rfl rfl dX9_addBooking_53 ?_
  refine lv_aload_n hx hb dX9_addBooking_56 rfl (lv_at hl 0 rfl) ?_
  refine gw_get (T := TX9) (k := 29) (v := .int (S14 0 29)) B hI gm_g0 rfl ly_X9_addBooking_9 (by decide) m_X9_addBooking_257 rfl rfl dX9_addBooking_57 ?_
  refine lv_iload hx hb dX9_addBooking_60 (lv_at hl 6 rfl) ?_
  obtain ⟨g16, h⟩ := gw_gdE h
  obtain ⟨S17, e18, h⟩ := gw_letE h
  refine gw_iast (t0 := 0) (w' := gw_mw cc a S17) B hI gm_g30 rfl g16 (gm_s30 e18) dX9_addBooking_62 (fun H locs hI => ?_)
  refine lv_aload_n hx hb dX9_addBooking_63 rfl (lv_at hl 0 rfl) ?_
  refine gw_get (T := TX9) (k := 36) (v := .ref (a 31)) B hI gm_g0 rfl ly_X9_addBooking_9 (by decide) m_X9_addBooking_101 rfl rfl dX9_addBooking_64 ?_
  refine lv_aload_n hx hb dX9_addBooking_67 rfl (lv_at hl 0 rfl) ?_
  refine gw_get (T := TX9) (k := 29) (v := .int (S17 0 29)) B hI gm_g0 rfl ly_X9_addBooking_9 (by decide) m_X9_addBooking_257 rfl rfl dX9_addBooking_68 ?_
  refine lv_iconst (v := -1) hx hb dX9_addBooking_71 (by decide) ?_
  obtain ⟨g19, h⟩ := gw_gdE h
  obtain ⟨S20, e21, h⟩ := gw_letE h
  refine gw_iast (t0 := 0) (w' := gw_mw cc a S20) B hI gm_g31 rfl g19 (gm_s31 e21) dX9_addBooking_72 (fun H locs hI => ?_)
  refine lv_aload_n hx hb dX9_addBooking_73 rfl (lv_at hl 0 rfl) ?_
  refine gw_get (T := TX9) (k := 37) (v := .ref (a 32)) B hI gm_g0 rfl ly_X9_addBooking_9 (by decide) m_X9_addBooking_104 rfl rfl dX9_addBooking_74 ?_
  refine lv_aload_n hx hb dX9_addBooking_77 rfl (lv_at hl 0 rfl) ?_
  refine gw_get (T := TX9) (k := 29) (v := .int (S20 0 29)) B hI gm_g0 rfl ly_X9_addBooking_9 (by decide) m_X9_addBooking_257 rfl rfl dX9_addBooking_78 ?_
  refine lv_iconst (v := -1) hx hb dX9_addBooking_81 (by decide) ?_
  obtain ⟨g22, h⟩ := gw_gdE h
  obtain ⟨S23, e24, h⟩ := gw_letE h
  refine gw_iast (t0 := 0) (w' := gw_mw cc a S23) B hI gm_g32 rfl g22 (gm_s32 e24) dX9_addBooking_82 (fun H locs hI => ?_)
  refine lv_aload_n hx hb dX9_addBooking_83 rfl (lv_at hl 0 rfl) ?_
  refine lv_dup hx hb dX9_addBooking_84 rfl ?_
  refine gw_get (T := TX9) (k := 29) (v := .int (S23 0 29)) B hI gm_g0 rfl ly_X9_addBooking_9 (by decide) m_X9_addBooking_257 rfl rfl dX9_addBooking_85 ?_
  refine lv_iconst (v := 1) hx hb dX9_addBooking_88 (by decide) ?_
  refine lv_iadd hx hb dX9_addBooking_89 ?_
  obtain ⟨S25, e26, h⟩ := gw_letE h
  refine gw_put (T := TX9) (k := 29) (w' := gw_mw cc a S25) B hI gm_g0 rfl ly_X9_addBooking_9 tyX9 tyX9_ok nmX9 (by decide) m_X9_addBooking_257 rfl rfl rfl rfl (Nat.le_of_ble_eq_true rfl) (gm_s0_29 e26) dX9_addBooking_90 (fun H locs hI => ?_)
  rw [Option.some.inj h] at hI
  exact gw_vret (W' := (fun w => w = gw_mw cc a zS)) B hI rfl (Nat.zero_le _) (Nat.zero_le _) dX9_addBooking_93
theorem m_X9_book_257 : Cond.fieldLink RX9 257 "GownLetModel" "bookings" "I" ∈ wsX9_book := by decide +kernel
theorem ly_X9_book_9 : ∀ w ∈ wsX90, w ∈ wsX9_book := fun w h => List.mem_cons_of_mem _ (List.mem_append_right _ h)
set_option maxRecDepth 100000 in
set_option maxHeartbeats 4000000 in
theorem k_X9_book (x1 : Int32) (x2 : Int32) (x3 : Int32) (x4 : Int32) (x5 : Int32) (x6 : Int32) (S : gw_S) {zr : Int32} {zS : gw_S} (h : f_X9_book x1 x2 x3 x4 x5 x6 S = some (zr, zS)) : gw_M l yX9_book wsX9_book rm_X9_book 0 0 D (gw_ty cc) t1 t2 [.ref (a 0), .int x1, .int x2, .int x3, .int x4, .int x5, .int x6] (gw_mw cc a S) (fun w => w = gw_mw cc a zS) (some (.int zr)) := by
  refine gw_enter (cc := cX9_book) (maxL := 7) (ret := (some .int)) (own := RX9) rfl (by decide) rfl (Nat.le_of_ble_eq_true rfl) ?_
  intro p e s m below meth c A B hin hI ls hl
  have hl : lv_has ls 7 [(0, .ref (a 0)), (1, .int x1), (2, .int x2), (3, .int x3), (4, .int x4), (5, .int x5), (6, .int x6)] := hl
  generalize ([.ref (a 0), .int x1, .int x2, .int x3, .int x4, .int x5, .int x6] : List Value).toArray = args at B ⊢
  have hx := B.1.1
  have hb := B.1.2.1
  have hown : s.vm.findClass RX9 = some m.cls := B.1.2.2.2.1
  have hts := B.1.2.2.2.2
  unfold f_X9_book at h
  refine lv_iload_n hx hb dX9_book_0 rfl (lv_at hl 1 rfl) ?_
  refine lv_iload_n hx hb dX9_book_1 rfl (lv_at hl 2 rfl) ?_
  refine lv_iload_n hx hb dX9_book_2 rfl (lv_at hl 3 rfl) ?_
  refine lv_iload hx hb dX9_book_3 (lv_at hl 4 rfl) ?_
  refine lv_iload hx hb dX9_book_5 (lv_at hl 5 rfl) ?_
  refine lv_iload hx hb dX9_book_7 (lv_at hl 6 rfl) ?_
  obtain ⟨r1, e2, h⟩ := gw_bdE h
  refine gw_callS (As := [.int x1, .int x2, .int x3, .int x4, .int x5, .int x6]) (n := 6) B hI (k_X9_isBooking x1 x2 x3 x4 x5 x6 S e2) gX9_book_X9_isBooking rfl rfl rfl nds_X9_isBooking ⟨Nat.le_of_ble_eq_true rfl, Nat.le_of_ble_eq_true rfl⟩ rfl hl.1 (Nat.zero_le _) dX9_book_9 ⟨Nat.le_of_ble_eq_true rfl, Nat.le_of_ble_eq_true rfl⟩ rfl (fun w' H locs hw hI => ?_)
  subst hw
  refine lv_if_ne (tgt := 17) hx hb dX9_book_12 (by decide) (fun c3 => ?_) (fun c3 => ?_)
  · replace h := gw_ifF c3 h
    refine lv_aload_n hx hb dX9_book_17 rfl (lv_at hl 0 rfl) ?_
    refine gw_get (T := TX9) (k := 29) (v := .int (S 0 29)) B hI gm_g0 rfl ly_X9_book_9 (by decide) m_X9_book_257 rfl rfl dX9_book_18 ?_
    refine lv_bipush (v := 30) hx hb dX9_book_21 (by decide) ?_
    refine lv_icmp_ne (tgt := 29) hx hb dX9_book_23 (by decide) (fun c4 => ?_) (fun c4 => ?_)
    · replace h := gw_ifF c4 h
      refine lv_aload_n hx hb dX9_book_29 rfl (lv_at hl 0 rfl) ?_
      refine lv_iload_n hx hb dX9_book_30 rfl (lv_at hl 1 rfl) ?_
      refine lv_iload_n hx hb dX9_book_31 rfl (lv_at hl 2 rfl) ?_
      refine lv_iload_n hx hb dX9_book_32 rfl (lv_at hl 3 rfl) ?_
      refine lv_iload hx hb dX9_book_33 (lv_at hl 4 rfl) ?_
      refine lv_iload hx hb dX9_book_35 (lv_at hl 5 rfl) ?_
      refine lv_iload hx hb dX9_book_37 (lv_at hl 6 rfl) ?_
      obtain ⟨S5, e6, h⟩ := gw_bdE h
      refine gw_callVv (As := [.int x1, .int x2, .int x3, .int x4, .int x5, .int x6]) (n := 6) B hI (k_X9_addBooking x1 x2 x3 x4 x5 x6 S e6) gX9_book_X9_addBooking rfl rfl rfl nd_X9_addBooking ⟨Nat.le_of_ble_eq_true rfl, Nat.le_of_ble_eq_true rfl⟩ gm_g0 rfl rfl rfl hl.1 (Nat.zero_le _) dX9_book_39 ⟨Nat.le_of_ble_eq_true rfl, Nat.le_of_ble_eq_true rfl⟩ rfl (fun w' H locs hw hI => ?_)
      subst hw
      refine lv_aload_n hx hb dX9_book_42 rfl (lv_at hl 0 rfl) ?_
      refine gw_get (T := TX9) (k := 29) (v := .int (S5 0 29)) B hI gm_g0 rfl ly_X9_book_9 (by decide) m_X9_book_257 rfl rfl dX9_book_43 ?_
      refine lv_iconst (v := 1) hx hb dX9_book_46 (by decide) ?_
      refine lv_isub hx hb dX9_book_47 ?_
      obtain ⟨h1, h2⟩ := Prod.mk.inj (Option.some.inj h)
      rw [h2] at hI
      rw [← h1]
      exact gw_iret (W' := (fun w => w = gw_mw cc a zS)) B hI rfl (Nat.zero_le _) (Nat.zero_le _) dX9_book_48
    · replace h := gw_ifT c4 h
      refine lv_bipush (v := -3) hx hb dX9_book_26 (by decide) ?_
      obtain ⟨h1, h2⟩ := Prod.mk.inj (Option.some.inj h)
      rw [h2] at hI
      rw [← h1]
      exact gw_iret (W' := (fun w => w = gw_mw cc a zS)) B hI rfl (Nat.zero_le _) (Nat.zero_le _) dX9_book_28
  · replace h := gw_ifT c3 h
    refine lv_iconst (v := -1) hx hb dX9_book_15 (by decide) ?_
    obtain ⟨h1, h2⟩ := Prod.mk.inj (Option.some.inj h)
    rw [h2] at hI
    rw [← h1]
    exact gw_iret (W' := (fun w => w = gw_mw cc a zS)) B hI rfl (Nat.zero_le _) (Nat.zero_le _) dX9_book_16
end
end
section
/-! contracts: printed by wip/gen -/
section
variable {l : Launch} {D : va_G} {t1 t2 : Nat} {cc : Nat → ClassId} {a b d : Nat → Nat}
theorem m_X9_isThere_257 : Cond.fieldLink RX9 257 "GownLetModel" "bookings" "I" ∈ wsX9_isThere := by decide +kernel
theorem ly_X9_isThere_9 : ∀ w ∈ wsX90, w ∈ wsX9_isThere := fun w h => List.mem_cons_of_mem _ (List.mem_append_right _ h)
set_option maxRecDepth 100000 in
set_option maxHeartbeats 4000000 in
theorem k_X9_isThere (x1 : Int32) (S : gw_S) {zr : Int32} (h : f_X9_isThere x1 S = some zr) : gw_M l yX9_isThere wsX9_isThere rm_X9_isThere 0 0 D (gw_ty cc) t1 t2 [.ref (a 0), .int x1] (gw_mw cc a S) (fun w => w = gw_mw cc a S) (some (.int zr)) := by
  refine gw_enter (cc := cX9_isThere) (maxL := 2) (ret := (some .boolean)) (own := RX9) rfl (by decide) rfl (Nat.le_of_ble_eq_true rfl) ?_
  intro p e s m below meth c A B hin hI ls hl
  have hl : lv_has ls 2 [(0, .ref (a 0)), (1, .int x1)] := hl
  generalize ([.ref (a 0), .int x1] : List Value).toArray = args at B ⊢
  have hx := B.1.1
  have hb := B.1.2.1
  have hown : s.vm.findClass RX9 = some m.cls := B.1.2.2.2.1
  have hts := B.1.2.2.2.2
  unfold f_X9_isThere at h
  refine lv_iload_n hx hb dX9_isThere_0 rfl (lv_at hl 1 rfl) ?_
  refine lv_i2l hx hb dX9_isThere_1 rfl ?_
  refine lv_lconst (v := 0) hx hb dX9_isThere_2 (by decide) ?_
  refine lv_aload_n hx hb dX9_isThere_3 rfl (lv_at hl 0 rfl) ?_
  refine gw_get (T := TX9) (k := 29) (v := .int (S 0 29)) B hI gm_g0 rfl ly_X9_isThere_9 (by decide) m_X9_isThere_257 rfl rfl dX9_isThere_4 ?_
  refine lv_iconst (v := 1) hx hb dX9_isThere_7 (by decide) ?_
  refine lv_isub hx hb dX9_isThere_8 ?_
  refine lv_i2l hx hb dX9_isThere_9 rfl ?_
  obtain ⟨r1, e2, h⟩ := gw_bdE h
  refine gw_callS (As := [.long (x1.toInt64), .long (0 : Int64), .long (((S 0 29) - (1 : Int32)).toInt64)]) (n := 3) B hI (k_X9_in (x1.toInt64) (0 : Int64) (((S 0 29) - (1 : Int32)).toInt64) S e2) gX9_isThere_X9_in rfl rfl rfl nds_X9_in ⟨Nat.le_of_ble_eq_true rfl, Nat.le_of_ble_eq_true rfl⟩ rfl hl.1 (Nat.zero_le _) dX9_isThere_10 ⟨Nat.le_of_ble_eq_true rfl, Nat.le_of_ble_eq_true rfl⟩ rfl (fun w' H locs hw hI => ?_)
  subst hw
  obtain ⟨g3, h⟩ := gw_gdE h
  rw [← Option.some.inj h]
  exact gw_zret (W' := (fun w => w = gw_mw cc a S)) B hI rfl g3 (Nat.zero_le _) (Nat.zero_le _) dX9_isThere_13
theorem m_X9_off_101 : Cond.fieldLink RX9 101 "GownLetModel" "offs" "[I" ∈ wsX9_off := by decide +kernel
theorem m_X9_off_104 : Cond.fieldLink RX9 104 "GownLetModel" "had" "[I" ∈ wsX9_off := by decide +kernel
theorem m_X9_off_107 : Cond.fieldLink RX9 107 "GownLetModel" "state" "[I" ∈ wsX9_off := by decide +kernel
theorem m_X9_off_95 : Cond.fieldLink RX9 95 "GownLetModel" "made" "[I" ∈ wsX9_off := by decide +kernel
theorem ly_X9_off_9 : ∀ w ∈ wsX90, w ∈ wsX9_off := fun w h => List.mem_cons_of_mem _ (List.mem_append_right _ h)
set_option maxRecDepth 100000 in
set_option maxHeartbeats 4000000 in
theorem k_X9_off (x1 : Int32) (x2 : Int32) (S : gw_S) {zr : Int32} {zS : gw_S} (h : f_X9_off x1 x2 S = some (zr, zS)) : gw_M l yX9_off wsX9_off rm_X9_off 0 0 D (gw_ty cc) t1 t2 [.ref (a 0), .int x1, .int x2] (gw_mw cc a S) (fun w => w = gw_mw cc a zS) (some (.int zr)) := by
  refine gw_enter (cc := cX9_off) (maxL := 3) (ret := (some .int)) (own := RX9) rfl (by decide) rfl (Nat.le_of_ble_eq_true rfl) ?_
  intro p e s m below meth c A B hin hI ls hl
  have hl : lv_has ls 3 [(0, .ref (a 0)), (1, .int x1), (2, .int x2)] := hl
  generalize ([.ref (a 0), .int x1, .int x2] : List Value).toArray = args at B ⊢
  have hx := B.1.1
  have hb := B.1.2.1
  have hown : s.vm.findClass RX9 = some m.cls := B.1.2.2.2.1
  have hts := B.1.2.2.2.2
  unfold f_X9_off at h
  refine lv_aload_n hx hb dX9_off_0 rfl (lv_at hl 0 rfl) ?_
  refine lv_iload_n hx hb dX9_off_1 rfl (lv_at hl 1 rfl) ?_
  obtain ⟨r1, e2, h⟩ := gw_bdE h
  refine gw_callV (As := [.int x1]) (n := 1) B hI (k_X9_isThere x1 S e2) gX9_off_X9_isThere rfl rfl rfl nd_X9_isThere ⟨Nat.le_of_ble_eq_true rfl, Nat.le_of_ble_eq_true rfl⟩ gm_g0 rfl rfl rfl hl.1 (Nat.zero_le _) dX9_off_2 ⟨Nat.le_of_ble_eq_true rfl, Nat.le_of_ble_eq_true rfl⟩ rfl (fun w' H locs hw hI => ?_)
  subst hw
  refine lv_if_eq (tgt := 26) hx hb dX9_off_5 (by decide) (fun c3 => ?_) (fun c3 => ?_)
  · replace h := gw_ifT c3 h
    refine lv_iconst (v := -1) hx hb dX9_off_26 (by decide) ?_
    obtain ⟨h1, h2⟩ := Prod.mk.inj (Option.some.inj h)
    rw [h2] at hI
    rw [← h1]
    exact gw_iret (W' := (fun w => w = gw_mw cc a zS)) B hI rfl (Nat.zero_le _) (Nat.zero_le _) dX9_off_27
  · replace h := gw_ifF c3 h
    refine lv_iload_n hx hb dX9_off_8 rfl (lv_at hl 2 rfl) ?_
    refine lv_i2l hx hb dX9_off_9 rfl ?_
    refine lv_aload_n hx hb dX9_off_10 rfl (lv_at hl 0 rfl) ?_
    refine gw_get (T := TX9) (k := 34) (v := .ref (a 29)) B hI gm_g0 rfl ly_X9_off_9 (by decide) m_X9_off_95 rfl rfl dX9_off_11 ?_
    refine lv_iload_n hx hb dX9_off_14 rfl (lv_at hl 1 rfl) ?_
    obtain ⟨g4, h⟩ := gw_gdE h
    refine gw_iald (t0 := 0) B hI gm_g29 rfl g4 dX9_off_15 ?_
    refine lv_i2l hx hb dX9_off_16 rfl ?_
    refine lv_ldc2 (v := 399) hx hb hown (hts (.constantLong RX9 251 (399)) (by decide +kernel)) dX9_off_17 ?_
    obtain ⟨r5, e6, h⟩ := gw_bdE h
    refine gw_callS (As := [.long (x2.toInt64), .long ((S 29 x1.toNatClampNeg).toInt64), .long (399 : Int64)]) (n := 3) B hI (k_X9_in (x2.toInt64) ((S 29 x1.toNatClampNeg).toInt64) (399 : Int64) S e6) gX9_off_X9_in rfl rfl rfl nds_X9_in ⟨Nat.le_of_ble_eq_true rfl, Nat.le_of_ble_eq_true rfl⟩ rfl hl.1 (Nat.zero_le _) dX9_off_20 ⟨Nat.le_of_ble_eq_true rfl, Nat.le_of_ble_eq_true rfl⟩ rfl (fun w' H locs hw hI => ?_)
    subst hw
    refine lv_if_ne (tgt := 28) hx hb dX9_off_23 (by decide) (fun c7 => ?_) (fun c7 => ?_)
    · replace h := gw_ifF c7 h
      refine lv_aload_n hx hb dX9_off_28 rfl (lv_at hl 0 rfl) ?_
      refine gw_get (T := TX9) (k := 36) (v := .ref (a 31)) B hI gm_g0 rfl ly_X9_off_9 (by decide) m_X9_off_101 rfl rfl dX9_off_29 ?_
      refine lv_iload_n hx hb dX9_off_32 rfl (lv_at hl 1 rfl) ?_
      refine gw_iald (t0 := 0) B hI gm_g31 rfl g4 dX9_off_33 ?_
      refine lv_if_ge (tgt := 46) hx hb dX9_off_34 (by decide) (fun c8 => ?_) (fun c8 => ?_)
      · replace h := gw_ifT c8 h
        refine lv_bipush (v := -2) hx hb dX9_off_46 (by decide) ?_
        obtain ⟨h1, h2⟩ := Prod.mk.inj (Option.some.inj h)
        rw [h2] at hI
        rw [← h1]
        exact gw_iret (W' := (fun w => w = gw_mw cc a zS)) B hI rfl (Nat.zero_le _) (Nat.zero_le _) dX9_off_48
      · replace h := gw_ifF c8 h
        refine lv_aload_n hx hb dX9_off_37 rfl (lv_at hl 0 rfl) ?_
        refine gw_get (T := TX9) (k := 38) (v := .ref (a 33)) B hI gm_g0 rfl ly_X9_off_9 (by decide) m_X9_off_107 rfl rfl dX9_off_38 ?_
        refine lv_iload_n hx hb dX9_off_41 rfl (lv_at hl 1 rfl) ?_
        refine gw_iald (t0 := 0) B hI gm_g33 rfl g4 dX9_off_42 ?_
        refine lv_if_le (tgt := 49) hx hb dX9_off_43 (by decide) (fun c9 => ?_) (fun c9 => ?_)
        · replace h := gw_ifT c9 h
          refine lv_aload_n hx hb dX9_off_49 rfl (lv_at hl 0 rfl) ?_
          refine gw_get (T := TX9) (k := 36) (v := .ref (a 31)) B hI gm_g0 rfl ly_X9_off_9 (by decide) m_X9_off_101 rfl rfl dX9_off_50 ?_
          refine lv_iload_n hx hb dX9_off_53 rfl (lv_at hl 1 rfl) ?_
          refine lv_iload_n hx hb dX9_off_54 rfl (lv_at hl 2 rfl) ?_
          obtain ⟨S10, e11, h⟩ := gw_letE h
          refine gw_iast (t0 := 0) (w' := gw_mw cc a S10) B hI gm_g31 rfl g4 (gm_s31 e11) dX9_off_55 (fun H locs hI => ?_)
          refine lv_aload_n hx hb dX9_off_56 rfl (lv_at hl 0 rfl) ?_
          refine gw_get (T := TX9) (k := 37) (v := .ref (a 32)) B hI gm_g0 rfl ly_X9_off_9 (by decide) m_X9_off_104 rfl rfl dX9_off_57 ?_
          refine lv_iload_n hx hb dX9_off_60 rfl (lv_at hl 1 rfl) ?_
          refine lv_iconst (v := -1) hx hb dX9_off_61 (by decide) ?_
          obtain ⟨S12, e13, h⟩ := gw_letE h
          refine gw_iast (t0 := 0) (w' := gw_mw cc a S12) B hI gm_g32 rfl g4 (gm_s32 e13) dX9_off_62 (fun H locs hI => ?_)
          refine lv_iconst (v := 1) hx hb dX9_off_63 (by decide) ?_
          obtain ⟨h1, h2⟩ := Prod.mk.inj (Option.some.inj h)
          rw [h2] at hI
          rw [← h1]
          exact gw_iret (W' := (fun w => w = gw_mw cc a zS)) B hI rfl (Nat.zero_le _) (Nat.zero_le _) dX9_off_64
        · replace h := gw_ifF c9 h
          refine lv_bipush (v := -2) hx hb dX9_off_46 (by decide) ?_
          obtain ⟨h1, h2⟩ := Prod.mk.inj (Option.some.inj h)
          rw [h2] at hI
          rw [← h1]
          exact gw_iret (W' := (fun w => w = gw_mw cc a zS)) B hI rfl (Nat.zero_le _) (Nat.zero_le _) dX9_off_48
    · replace h := gw_ifT c7 h
      refine lv_iconst (v := -1) hx hb dX9_off_26 (by decide) ?_
      obtain ⟨h1, h2⟩ := Prod.mk.inj (Option.some.inj h)
      rw [h2] at hI
      rw [← h1]
      exact gw_iret (W' := (fun w => w = gw_mw cc a zS)) B hI rfl (Nat.zero_le _) (Nat.zero_le _) dX9_off_27
theorem m_X9_postOf_25 : Cond.fieldLink RX9 25 "GownLetModel" "posts" "[I" ∈ wsX9_postOf := by decide +kernel
theorem m_X9_postOf_40 : Cond.fieldLink RX9 40 "GownLetModel" "towns" "[I" ∈ wsX9_postOf := by decide +kernel
theorem m_X9_postOf_92 : Cond.fieldLink RX9 92 "GownLetModel" "places" "[I" ∈ wsX9_postOf := by decide +kernel
theorem ly_X9_postOf_9 : ∀ w ∈ wsX90, w ∈ wsX9_postOf := fun w h => List.mem_cons_of_mem _ (List.mem_append_right _ h)
set_option maxRecDepth 100000 in
set_option maxHeartbeats 4000000 in
theorem k_X9_postOf (x1 : Int32) (x2 : Int32) (S : gw_S) {zr : Int32} (h : f_X9_postOf x1 x2 S = some zr) : gw_M l yX9_postOf wsX9_postOf rm_X9_postOf 0 0 D (gw_ty cc) t1 t2 [.ref (a 0), .int x1, .int x2] (gw_mw cc a S) (fun w => w = gw_mw cc a S) (some (.int zr)) := by
  refine gw_enter (cc := cX9_postOf) (maxL := 3) (ret := (some .int)) (own := RX9) rfl (by decide) rfl (Nat.le_of_ble_eq_true rfl) ?_
  intro p e s m below meth c A B hin hI ls hl
  have hl : lv_has ls 3 [(0, .ref (a 0)), (1, .int x1), (2, .int x2)] := hl
  generalize ([.ref (a 0), .int x1, .int x2] : List Value).toArray = args at B ⊢
  have hx := B.1.1
  have hb := B.1.2.1
  have hown : s.vm.findClass RX9 = some m.cls := B.1.2.2.2.1
  have hts := B.1.2.2.2.2
  unfold f_X9_postOf at h
  refine lv_aload_n hx hb dX9_postOf_0 rfl (lv_at hl 0 rfl) ?_
  refine gw_get (T := TX9) (k := 7) (v := .ref (a 6)) B hI gm_g0 rfl ly_X9_postOf_9 (by decide) m_X9_postOf_25 rfl rfl dX9_postOf_1 ?_
  refine lv_bipush (v := 9) hx hb dX9_postOf_4 (by decide) ?_
  refine lv_aload_n hx hb dX9_postOf_6 rfl (lv_at hl 0 rfl) ?_
  refine gw_get (T := TX9) (k := 13) (v := .ref (a 11)) B hI gm_g0 rfl ly_X9_postOf_9 (by decide) m_X9_postOf_40 rfl rfl dX9_postOf_7 ?_
  refine lv_iload_n hx hb dX9_postOf_10 rfl (lv_at hl 1 rfl) ?_
  obtain ⟨g1, h⟩ := gw_gdE h
  refine gw_iald (t0 := 0) B hI gm_g11 rfl g1 dX9_postOf_11 ?_
  refine lv_imul hx hb dX9_postOf_12 ?_
  refine lv_aload_n hx hb dX9_postOf_13 rfl (lv_at hl 0 rfl) ?_
  refine gw_get (T := TX9) (k := 33) (v := .ref (a 28)) B hI gm_g0 rfl ly_X9_postOf_9 (by decide) m_X9_postOf_92 rfl rfl dX9_postOf_14 ?_
  refine lv_iload_n hx hb dX9_postOf_17 rfl (lv_at hl 2 rfl) ?_
  obtain ⟨g2, h⟩ := gw_gdE h
  refine gw_iald (t0 := 0) B hI gm_g28 rfl g2 dX9_postOf_18 ?_
  refine lv_iadd hx hb dX9_postOf_19 ?_
  obtain ⟨g3, h⟩ := gw_gdE h
  refine gw_iald (t0 := 0) B hI gm_g6 rfl g3 dX9_postOf_20 ?_
  rw [← Option.some.inj h]
  exact gw_iret (W' := (fun w => w = gw_mw cc a S)) B hI rfl (Nat.zero_le _) (Nat.zero_le _) dX9_postOf_21
theorem m_X9_firstAway_16 : Cond.fieldLink RX9 16 "GownLetModel" "terms" "[I" ∈ wsX9_firstAway := by decide +kernel
theorem m_X9_firstAway_89 : Cond.fieldLink RX9 89 "GownLetModel" "nights" "[I" ∈ wsX9_firstAway := by decide +kernel
theorem ly_X9_firstAway_9 : ∀ w ∈ wsX90, w ∈ wsX9_firstAway := fun w h => List.mem_cons_of_mem _ (List.mem_append_right _ h)
set_option maxRecDepth 100000 in
set_option maxHeartbeats 4000000 in
theorem k_X9_firstAway (x1 : Int32) (x2 : Int32) (S : gw_S) {zr : Int32} (h : f_X9_firstAway x1 x2 S = some zr) : gw_M l yX9_firstAway wsX9_firstAway rm_X9_firstAway 0 0 D (gw_ty cc) t1 t2 [.ref (a 0), .int x1, .int x2] (gw_mw cc a S) (fun w => w = gw_mw cc a S) (some (.int zr)) := by
  refine gw_enter (cc := cX9_firstAway) (maxL := 3) (ret := (some .int)) (own := RX9) rfl (by decide) rfl (Nat.le_of_ble_eq_true rfl) ?_
  intro p e s m below meth c A B hin hI ls hl
  have hl : lv_has ls 3 [(0, .ref (a 0)), (1, .int x1), (2, .int x2)] := hl
  generalize ([.ref (a 0), .int x1, .int x2] : List Value).toArray = args at B ⊢
  have hx := B.1.1
  have hb := B.1.2.1
  have hown : s.vm.findClass RX9 = some m.cls := B.1.2.2.2.1
  have hts := B.1.2.2.2.2
  unfold f_X9_firstAway at h
  refine lv_aload_n hx hb dX9_firstAway_0 rfl (lv_at hl 0 rfl) ?_
  refine gw_get (T := TX9) (k := 32) (v := .ref (a 27)) B hI gm_g0 rfl ly_X9_firstAway_9 (by decide) m_X9_firstAway_89 rfl rfl dX9_firstAway_1 ?_
  refine lv_iload_n hx hb dX9_firstAway_4 rfl (lv_at hl 2 rfl) ?_
  obtain ⟨g1, h⟩ := gw_gdE h
  refine gw_iald (t0 := 0) B hI gm_g27 rfl g1 dX9_firstAway_5 ?_
  refine lv_aload_n hx hb dX9_firstAway_6 rfl (lv_at hl 0 rfl) ?_
  refine gw_get (T := TX9) (k := 2) (v := .ref (a 3)) B hI gm_g0 rfl ly_X9_firstAway_9 (by decide) m_X9_firstAway_16 rfl rfl dX9_firstAway_7 ?_
  refine lv_iconst (v := 0) hx hb dX9_firstAway_10 (by decide) ?_
  refine gw_iald (t0 := 0) B hI gm_g3 rfl (by decide) dX9_firstAway_11 ?_
  refine lv_isub hx hb dX9_firstAway_12 ?_
  refine lv_aload_n hx hb dX9_firstAway_13 rfl (lv_at hl 0 rfl) ?_
  refine lv_iload_n hx hb dX9_firstAway_14 rfl (lv_at hl 1 rfl) ?_
  refine lv_iload_n hx hb dX9_firstAway_15 rfl (lv_at hl 2 rfl) ?_
  obtain ⟨r2, e3, h⟩ := gw_bdE h
  refine gw_callV (As := [.int x1, .int x2]) (n := 2) B hI (k_X9_postOf x1 x2 S e3) gX9_firstAway_X9_postOf rfl rfl rfl nd_X9_postOf ⟨Nat.le_of_ble_eq_true rfl, Nat.le_of_ble_eq_true rfl⟩ gm_g0 rfl rfl rfl hl.1 (by simp [gw_catq, gw_cI, gw_cR, gw_cL]) dX9_firstAway_16 ⟨Nat.le_of_ble_eq_true rfl, Nat.le_of_ble_eq_true rfl⟩ rfl (fun w' H locs hw hI => ?_)
  subst hw
  refine lv_isub hx hb dX9_firstAway_19 ?_
  rw [← Option.some.inj h]
  exact gw_iret (W' := (fun w => w = gw_mw cc a S)) B hI rfl (Nat.zero_le _) (Nat.zero_le _) dX9_firstAway_20
theorem m_X9_lastAway_16 : Cond.fieldLink RX9 16 "GownLetModel" "terms" "[I" ∈ wsX9_lastAway := by decide +kernel
theorem m_X9_lastAway_89 : Cond.fieldLink RX9 89 "GownLetModel" "nights" "[I" ∈ wsX9_lastAway := by decide +kernel
theorem ly_X9_lastAway_9 : ∀ w ∈ wsX90, w ∈ wsX9_lastAway := fun w h => List.mem_cons_of_mem _ (List.mem_append_right _ h)
set_option maxRecDepth 100000 in
set_option maxHeartbeats 4000000 in
theorem k_X9_lastAway (x1 : Int32) (x2 : Int32) (S : gw_S) {zr : Int32} (h : f_X9_lastAway x1 x2 S = some zr) : gw_M l yX9_lastAway wsX9_lastAway rm_X9_lastAway 0 0 D (gw_ty cc) t1 t2 [.ref (a 0), .int x1, .int x2] (gw_mw cc a S) (fun w => w = gw_mw cc a S) (some (.int zr)) := by
  refine gw_enter (cc := cX9_lastAway) (maxL := 3) (ret := (some .int)) (own := RX9) rfl (by decide) rfl (Nat.le_of_ble_eq_true rfl) ?_
  intro p e s m below meth c A B hin hI ls hl
  have hl : lv_has ls 3 [(0, .ref (a 0)), (1, .int x1), (2, .int x2)] := hl
  generalize ([.ref (a 0), .int x1, .int x2] : List Value).toArray = args at B ⊢
  have hx := B.1.1
  have hb := B.1.2.1
  have hown : s.vm.findClass RX9 = some m.cls := B.1.2.2.2.1
  have hts := B.1.2.2.2.2
  unfold f_X9_lastAway at h
  refine lv_aload_n hx hb dX9_lastAway_0 rfl (lv_at hl 0 rfl) ?_
  refine gw_get (T := TX9) (k := 32) (v := .ref (a 27)) B hI gm_g0 rfl ly_X9_lastAway_9 (by decide) m_X9_lastAway_89 rfl rfl dX9_lastAway_1 ?_
  refine lv_iload_n hx hb dX9_lastAway_4 rfl (lv_at hl 2 rfl) ?_
  obtain ⟨g1, h⟩ := gw_gdE h
  refine gw_iald (t0 := 0) B hI gm_g27 rfl g1 dX9_lastAway_5 ?_
  refine lv_aload_n hx hb dX9_lastAway_6 rfl (lv_at hl 0 rfl) ?_
  refine lv_iload_n hx hb dX9_lastAway_7 rfl (lv_at hl 1 rfl) ?_
  refine lv_iload_n hx hb dX9_lastAway_8 rfl (lv_at hl 2 rfl) ?_
  obtain ⟨r2, e3, h⟩ := gw_bdE h
  refine gw_callV (As := [.int x1, .int x2]) (n := 2) B hI (k_X9_postOf x1 x2 S e3) gX9_lastAway_X9_postOf rfl rfl rfl nd_X9_postOf ⟨Nat.le_of_ble_eq_true rfl, Nat.le_of_ble_eq_true rfl⟩ gm_g0 rfl rfl rfl hl.1 (by simp [gw_catq, gw_cI, gw_cR, gw_cL]) dX9_lastAway_9 ⟨Nat.le_of_ble_eq_true rfl, Nat.le_of_ble_eq_true rfl⟩ rfl (fun w' H locs hw hI => ?_)
  subst hw
  refine lv_iadd hx hb dX9_lastAway_12 ?_
  refine lv_aload_n hx hb dX9_lastAway_13 rfl (lv_at hl 0 rfl) ?_
  refine gw_get (T := TX9) (k := 2) (v := .ref (a 3)) B hI gm_g0 rfl ly_X9_lastAway_9 (by decide) m_X9_lastAway_16 rfl rfl dX9_lastAway_14 ?_
  refine lv_iconst (v := 1) hx hb dX9_lastAway_17 (by decide) ?_
  refine gw_iald (t0 := 0) B hI gm_g3 rfl (by decide) dX9_lastAway_18 ?_
  refine lv_iadd hx hb dX9_lastAway_19 ?_
  rw [← Option.some.inj h]
  exact gw_iret (W' := (fun w => w = gw_mw cc a S)) B hI rfl (Nat.zero_le _) (Nat.zero_le _) dX9_lastAway_20
set_option maxRecDepth 100000 in
set_option maxHeartbeats 4000000 in
theorem k_X9_meet (x1 : Int32) (x2 : Int32) (x3 : Int32) (S : gw_S) {zr : Int32} (h : f_X9_meet x1 x2 x3 S = some zr) : gw_M l yX9_meet wsX9_meet rm_X9_meet 0 0 D (gw_ty cc) t1 t2 [.ref (a 0), .int x1, .int x2, .int x3] (gw_mw cc a S) (fun w => w = gw_mw cc a S) (some (.int zr)) := by
  refine gw_enter (cc := cX9_meet) (maxL := 4) (ret := (some .boolean)) (own := RX9) rfl (by decide) rfl (Nat.le_of_ble_eq_true rfl) ?_
  intro p e s m below meth c A B hin hI ls hl
  have hl : lv_has ls 4 [(0, .ref (a 0)), (1, .int x1), (2, .int x2), (3, .int x3)] := hl
  generalize ([.ref (a 0), .int x1, .int x2, .int x3] : List Value).toArray = args at B ⊢
  have hx := B.1.1
  have hb := B.1.2.1
  have hown : s.vm.findClass RX9 = some m.cls := B.1.2.2.2.1
  have hts := B.1.2.2.2.2
  unfold f_X9_meet at h
  refine lv_aload_n hx hb dX9_meet_0 rfl (lv_at hl 0 rfl) ?_
  refine lv_iload_n hx hb dX9_meet_1 rfl (lv_at hl 1 rfl) ?_
  refine lv_iload_n hx hb dX9_meet_2 rfl (lv_at hl 2 rfl) ?_
  obtain ⟨r1, e2, h⟩ := gw_bdE h
  refine gw_callV (As := [.int x1, .int x2]) (n := 2) B hI (k_X9_firstAway x1 x2 S e2) gX9_meet_X9_firstAway rfl rfl rfl nd_X9_firstAway ⟨Nat.le_of_ble_eq_true rfl, Nat.le_of_ble_eq_true rfl⟩ gm_g0 rfl rfl rfl hl.1 (Nat.zero_le _) dX9_meet_3 ⟨Nat.le_of_ble_eq_true rfl, Nat.le_of_ble_eq_true rfl⟩ rfl (fun w' H locs hw hI => ?_)
  subst hw
  refine lv_aload_n hx hb dX9_meet_6 rfl (lv_at hl 0 rfl) ?_
  refine lv_iload_n hx hb dX9_meet_7 rfl (lv_at hl 1 rfl) ?_
  refine lv_iload_n hx hb dX9_meet_8 rfl (lv_at hl 3 rfl) ?_
  obtain ⟨r3, e4, h⟩ := gw_bdE h
  refine gw_callV (As := [.int x1, .int x3]) (n := 2) B hI (k_X9_lastAway x1 x3 S e4) gX9_meet_X9_lastAway rfl rfl rfl nd_X9_lastAway ⟨Nat.le_of_ble_eq_true rfl, Nat.le_of_ble_eq_true rfl⟩ gm_g0 rfl rfl rfl hl.1 (by simp [gw_catq, gw_cI, gw_cR, gw_cL]) dX9_meet_9 ⟨Nat.le_of_ble_eq_true rfl, Nat.le_of_ble_eq_true rfl⟩ rfl (fun w' H locs hw hI => ?_)
  subst hw
  refine lv_icmp_gt (tgt := 34) hx hb dX9_meet_12 (by decide) (fun c5 => ?_) (fun c5 => ?_)
  · replace h := gw_ifT c5 h
    refine lv_iconst (v := 0) hx hb dX9_meet_34 (by decide) ?_
    rw [← Option.some.inj h]
    exact gw_zret (W' := (fun w => w = gw_mw cc a S)) B hI rfl (Or.inl rfl) (Nat.zero_le _) (Nat.zero_le _) dX9_meet_35
  · replace h := gw_ifF c5 h
    refine lv_aload_n hx hb dX9_meet_15 rfl (lv_at hl 0 rfl) ?_
    refine lv_iload_n hx hb dX9_meet_16 rfl (lv_at hl 1 rfl) ?_
    refine lv_iload_n hx hb dX9_meet_17 rfl (lv_at hl 3 rfl) ?_
    obtain ⟨r6, e7, h⟩ := gw_bdE h
    refine gw_callV (As := [.int x1, .int x3]) (n := 2) B hI (k_X9_firstAway x1 x3 S e7) gX9_meet_X9_firstAway rfl rfl rfl nd_X9_firstAway ⟨Nat.le_of_ble_eq_true rfl, Nat.le_of_ble_eq_true rfl⟩ gm_g0 rfl rfl rfl hl.1 (Nat.zero_le _) dX9_meet_18 ⟨Nat.le_of_ble_eq_true rfl, Nat.le_of_ble_eq_true rfl⟩ rfl (fun w' H locs hw hI => ?_)
    subst hw
    refine lv_aload_n hx hb dX9_meet_21 rfl (lv_at hl 0 rfl) ?_
    refine lv_iload_n hx hb dX9_meet_22 rfl (lv_at hl 1 rfl) ?_
    refine lv_iload_n hx hb dX9_meet_23 rfl (lv_at hl 2 rfl) ?_
    obtain ⟨r8, e9, h⟩ := gw_bdE h
    refine gw_callV (As := [.int x1, .int x2]) (n := 2) B hI (k_X9_lastAway x1 x2 S e9) gX9_meet_X9_lastAway rfl rfl rfl nd_X9_lastAway ⟨Nat.le_of_ble_eq_true rfl, Nat.le_of_ble_eq_true rfl⟩ gm_g0 rfl rfl rfl hl.1 (by simp [gw_catq, gw_cI, gw_cR, gw_cL]) dX9_meet_24 ⟨Nat.le_of_ble_eq_true rfl, Nat.le_of_ble_eq_true rfl⟩ rfl (fun w' H locs hw hI => ?_)
    subst hw
    refine lv_icmp_gt (tgt := 34) hx hb dX9_meet_27 (by decide) (fun c10 => ?_) (fun c10 => ?_)
    · replace h := gw_ifT c10 h
      refine lv_iconst (v := 0) hx hb dX9_meet_34 (by decide) ?_
      rw [← Option.some.inj h]
      exact gw_zret (W' := (fun w => w = gw_mw cc a S)) B hI rfl (Or.inl rfl) (Nat.zero_le _) (Nat.zero_le _) dX9_meet_35
    · replace h := gw_ifF c10 h
      refine lv_iconst (v := 1) hx hb dX9_meet_30 (by decide) ?_
      refine lv_goto (tgt := 35) hx hb dX9_meet_31 (by decide) ?_
      rw [← Option.some.inj h]
      exact gw_zret (W' := (fun w => w = gw_mw cc a S)) B hI rfl (Or.inr rfl) (Nat.zero_le _) (Nat.zero_le _) dX9_meet_35
theorem m_X9_isWell_59 : Cond.fieldLink RX9 59 "GownLetModel" "isTorn" "[Z" ∈ wsX9_isWell := by decide +kernel
theorem m_X9_isWell_62 : Cond.fieldLink RX9 62 "GownLetModel" "tornFrom" "[I" ∈ wsX9_isWell := by decide +kernel
theorem m_X9_isWell_89 : Cond.fieldLink RX9 89 "GownLetModel" "nights" "[I" ∈ wsX9_isWell := by decide +kernel
theorem ly_X9_isWell_9 : ∀ w ∈ wsX90, w ∈ wsX9_isWell := fun w h => List.mem_cons_of_mem _ (List.mem_append_right _ h)
set_option maxRecDepth 100000 in
set_option maxHeartbeats 4000000 in
theorem k_X9_isWell (x1 : Int32) (x2 : Int32) (S : gw_S) {zr : Int32} (h : f_X9_isWell x1 x2 S = some zr) : gw_M l yX9_isWell wsX9_isWell rm_X9_isWell 0 0 D (gw_ty cc) t1 t2 [.ref (a 0), .int x1, .int x2] (gw_mw cc a S) (fun w => w = gw_mw cc a S) (some (.int zr)) := by
  refine gw_enter (cc := cX9_isWell) (maxL := 3) (ret := (some .boolean)) (own := RX9) rfl (by decide) rfl (Nat.le_of_ble_eq_true rfl) ?_
  intro p e s m below meth c A B hin hI ls hl
  have hl : lv_has ls 3 [(0, .ref (a 0)), (1, .int x1), (2, .int x2)] := hl
  generalize ([.ref (a 0), .int x1, .int x2] : List Value).toArray = args at B ⊢
  have hx := B.1.1
  have hb := B.1.2.1
  have hown : s.vm.findClass RX9 = some m.cls := B.1.2.2.2.1
  have hts := B.1.2.2.2.2
  unfold f_X9_isWell at h
  refine lv_aload_n hx hb dX9_isWell_0 rfl (lv_at hl 0 rfl) ?_
  refine lv_iload_n hx hb dX9_isWell_1 rfl (lv_at hl 1 rfl) ?_
  obtain ⟨r1, e2, h⟩ := gw_bdE h
  refine gw_callV (As := [.int x1]) (n := 1) B hI (k_X9_isRetired x1 S e2) gX9_isWell_X9_isRetired rfl rfl rfl nd_X9_isRetired ⟨Nat.le_of_ble_eq_true rfl, Nat.le_of_ble_eq_true rfl⟩ gm_g0 rfl rfl rfl hl.1 (Nat.zero_le _) dX9_isWell_2 ⟨Nat.le_of_ble_eq_true rfl, Nat.le_of_ble_eq_true rfl⟩ rfl (fun w' H locs hw hI => ?_)
  subst hw
  refine lv_if_ne (tgt := 36) hx hb dX9_isWell_5 (by decide) (fun c3 => ?_) (fun c3 => ?_)
  · replace h := gw_ifF c3 h
    refine lv_iconst (v := 0) hx hb dX9_isWell_36 (by decide) ?_
    rw [← Option.some.inj h]
    exact gw_zret (W' := (fun w => w = gw_mw cc a S)) B hI rfl (Or.inl rfl) (Nat.zero_le _) (Nat.zero_le _) dX9_isWell_37
  · replace h := gw_ifT c3 h
    refine lv_aload_n hx hb dX9_isWell_8 rfl (lv_at hl 0 rfl) ?_
    refine gw_get (T := TX9) (k := 19) (v := .ref (a 17)) B hI gm_g0 rfl ly_X9_isWell_9 (by decide) m_X9_isWell_59 rfl rfl dX9_isWell_9 ?_
    refine lv_iload_n hx hb dX9_isWell_12 rfl (lv_at hl 1 rfl) ?_
    obtain ⟨g4, h⟩ := gw_gdE h
    refine gw_zald (t0 := 2) B hI gm_g17 rfl g4 dX9_isWell_13 ?_
    refine lv_if_eq (tgt := 32) hx hb dX9_isWell_14 (by decide) (fun c5 => ?_) (fun c5 => ?_)
    · replace h := gw_ifT c5 h
      refine lv_iconst (v := 1) hx hb dX9_isWell_32 (by decide) ?_
      refine lv_goto (tgt := 37) hx hb dX9_isWell_33 (by decide) ?_
      rw [← Option.some.inj h]
      exact gw_zret (W' := (fun w => w = gw_mw cc a S)) B hI rfl (Or.inr rfl) (Nat.zero_le _) (Nat.zero_le _) dX9_isWell_37
    · replace h := gw_ifF c5 h
      refine lv_aload_n hx hb dX9_isWell_17 rfl (lv_at hl 0 rfl) ?_
      refine gw_get (T := TX9) (k := 20) (v := .ref (a 18)) B hI gm_g0 rfl ly_X9_isWell_9 (by decide) m_X9_isWell_62 rfl rfl dX9_isWell_18 ?_
      refine lv_iload_n hx hb dX9_isWell_21 rfl (lv_at hl 1 rfl) ?_
      refine gw_iald (t0 := 0) B hI gm_g18 rfl g4 dX9_isWell_22 ?_
      refine lv_aload_n hx hb dX9_isWell_23 rfl (lv_at hl 0 rfl) ?_
      refine gw_get (T := TX9) (k := 32) (v := .ref (a 27)) B hI gm_g0 rfl ly_X9_isWell_9 (by decide) m_X9_isWell_89 rfl rfl dX9_isWell_24 ?_
      refine lv_iload_n hx hb dX9_isWell_27 rfl (lv_at hl 2 rfl) ?_
      obtain ⟨g6, h⟩ := gw_gdE h
      refine gw_iald (t0 := 0) B hI gm_g27 rfl g6 dX9_isWell_28 ?_
      refine lv_icmp_le (tgt := 36) hx hb dX9_isWell_29 (by decide) (fun c7 => ?_) (fun c7 => ?_)
      · replace h := gw_ifT c7 h
        refine lv_iconst (v := 0) hx hb dX9_isWell_36 (by decide) ?_
        rw [← Option.some.inj h]
        exact gw_zret (W' := (fun w => w = gw_mw cc a S)) B hI rfl (Or.inl rfl) (Nat.zero_le _) (Nat.zero_le _) dX9_isWell_37
      · replace h := gw_ifF c7 h
        refine lv_iconst (v := 1) hx hb dX9_isWell_32 (by decide) ?_
        refine lv_goto (tgt := 37) hx hb dX9_isWell_33 (by decide) ?_
        rw [← Option.some.inj h]
        exact gw_zret (W' := (fun w => w = gw_mw cc a S)) B hI rfl (Or.inr rfl) (Nat.zero_le _) (Nat.zero_le _) dX9_isWell_37
theorem m_X9_holderOf_104 : Cond.fieldLink RX9 104 "GownLetModel" "had" "[I" ∈ wsX9_holderOf := by decide +kernel
theorem m_X9_holderOf_257 : Cond.fieldLink RX9 257 "GownLetModel" "bookings" "I" ∈ wsX9_holderOf := by decide +kernel
theorem ly_X9_holderOf_9 : ∀ w ∈ wsX90, w ∈ wsX9_holderOf := fun w h => List.mem_cons_of_mem _ (List.mem_append_right _ h)
set_option maxRecDepth 100000 in
set_option maxHeartbeats 4000000 in
theorem k_X9_holderOf (x1 : Int32) (x2 : Int32) (S : gw_S) {zr : Int32} (h : f_X9_holderOf x1 x2 S = some zr) : gw_M l yX9_holderOf wsX9_holderOf rm_X9_holderOf 0 0 D (gw_ty cc) t1 t2 [.ref (a 0), .int x1, .int x2] (gw_mw cc a S) (fun w => w = gw_mw cc a S) (some (.int zr)) := by
  refine gw_enter (cc := cX9_holderOf) (maxL := 5) (ret := (some .int)) (own := RX9) rfl (by decide) rfl (Nat.le_of_ble_eq_true rfl) ?_
  intro p e s m below meth c A B hin hI ls hl
  have hl : lv_has ls 5 [(0, .ref (a 0)), (1, .int x1), (2, .int x2)] := hl
  generalize ([.ref (a 0), .int x1, .int x2] : List Value).toArray = args at B ⊢
  have hx := B.1.1
  have hb := B.1.2.1
  have hown : s.vm.findClass RX9 = some m.cls := B.1.2.2.2.1
  have hts := B.1.2.2.2.2
  have hb55 : ∀ (K5 : Int32 → Int32 → Int32 → Int32 → Option (Int32)) (_ : ∀ (v1 : Int32) (v2 : Int32) (v3 : Int32) (v4 : Int32), K5 v1 v2 v3 v4 = some zr → ∀ (H : Heap) (locs : List Loc) (ls : Array Slot), gw_I D A s.heap (gw_mw cc a S) H locs → lv_has ls 5 [(0, .ref (a 0)), (1, .int v1), (2, .int v2), (3, .int v3), (4, .int v4)] → W p l e rm_X9_holderOf s m args below meth c H locs 0 0 (MQ below (gw_Q (some (.int zr)) (gw_Pst D A (fun w => w = gw_mw cc a S)) A) args s 0 0 A) (F0 m 5 ls [])), ∀ (v1 : Int32) (v2 : Int32) (v3 : Int32) (v4 : Int32), f_X9_holderOf_b55 S K5 v1 v2 v3 v4 = some zr → ∀ (H : Heap) (locs : List Loc) (ls : Array Slot), gw_I D A s.heap (gw_mw cc a S) H locs → lv_has ls 5 [(0, .ref (a 0)), (1, .int v1), (2, .int v2), (3, .int v3), (4, .int v4)] → W p l e rm_X9_holderOf s m args below meth c H locs 0 0 (MQ below (gw_Q (some (.int zr)) (gw_Pst D A (fun w => w = gw_mw cc a S)) A) args s 0 0 A) (F0 m 55 ls []) := by
    intro K5 hK5
    intro v1 v2 v3 v4 h H locs ls hI hl
    unfold f_X9_holderOf_b55 at h
    obtain ⟨y1, e2, h⟩ := gw_letE h
    refine lv_iinc (v := y1) (lv' := [(4, .int y1), (0, .ref (a 0)), (1, .int v1), (2, .int v2), (3, .int v3)]) hx hb dX9_holderOf_55 hl (k := 4) rfl (by rw [e2]; rfl) (by decide) rfl (fun ls hl => ?_)
    refine lv_goto (tgt := 5) hx hb dX9_holderOf_58 (by decide) ?_
    exact hK5 v1 v2 v3 y1 h _ _ _ hI (lv_sub hl [1, 2, 3, 4, 0] rfl)
  have hb54 : ∀ (K5 : Int32 → Int32 → Int32 → Int32 → Option (Int32)) (_ : ∀ (v1 : Int32) (v2 : Int32) (v3 : Int32) (v4 : Int32), K5 v1 v2 v3 v4 = some zr → ∀ (H : Heap) (locs : List Loc) (ls : Array Slot), gw_I D A s.heap (gw_mw cc a S) H locs → lv_has ls 5 [(0, .ref (a 0)), (1, .int v1), (2, .int v2), (3, .int v3), (4, .int v4)] → W p l e rm_X9_holderOf s m args below meth c H locs 0 0 (MQ below (gw_Q (some (.int zr)) (gw_Pst D A (fun w => w = gw_mw cc a S)) A) args s 0 0 A) (F0 m 5 ls [])), ∀ (v1 : Int32) (v2 : Int32) (v4 : Int32) (t0_ : Int32), f_X9_holderOf_b54 S K5 v1 v2 v4 t0_ = some zr → ∀ (H : Heap) (locs : List Loc) (ls : Array Slot), gw_I D A s.heap (gw_mw cc a S) H locs → lv_has ls 5 [(0, .ref (a 0)), (1, .int v1), (2, .int v2), (4, .int v4)] → W p l e rm_X9_holderOf s m args below meth c H locs 0 0 (MQ below (gw_Q (some (.int zr)) (gw_Pst D A (fun w => w = gw_mw cc a S)) A) args s 0 0 A) (F0 m 54 ls [.int t0_]) := by
    intro K5 hK5
    intro v1 v2 v4 t0_ h H locs ls hI hl
    unfold f_X9_holderOf_b54 at h
    refine lv_istore_n (lv' := [(3, .int t0_), (0, .ref (a 0)), (1, .int v1), (2, .int v2), (4, .int v4)]) hx hb dX9_holderOf_54 rfl hl (by decide) rfl (fun ls hl => ?_)
    exact hb55 K5 hK5 v1 v2 t0_ v4 h _ _ _ hI (lv_sub hl [1, 2, 3, 0, 4] rfl)
  have hb5 :  ∀ (n : Nat), ∀ (v1 : Int32) (v2 : Int32) (v3 : Int32) (v4 : Int32), f_X9_holderOf_b5 S  n v1 v2 v3 v4 = some zr → ∀ (H : Heap) (locs : List Loc) (ls : Array Slot), gw_I D A s.heap (gw_mw cc a S) H locs → lv_has ls 5 [(0, .ref (a 0)), (1, .int v1), (2, .int v2), (3, .int v3), (4, .int v4)] → W p l e rm_X9_holderOf s m args below meth c H locs 0 0 (MQ below (gw_Q (some (.int zr)) (gw_Pst D A (fun w => w = gw_mw cc a S)) A) args s 0 0 A) (F0 m 5 ls []) := by
    intro n
    induction n with
    | zero =>
      intro v1 v2 v3 v4 h
      cases h
    | succ n ih =>
      intro v1 v2 v3 v4 h H locs ls hI hl
      unfold f_X9_holderOf_b5 at h
      refine lv_iload hx hb dX9_holderOf_5 (lv_at hl 4 rfl) ?_
      refine lv_aload_n hx hb dX9_holderOf_7 rfl (lv_at hl 0 rfl) ?_
      refine gw_get (T := TX9) (k := 29) (v := .int (S 0 29)) B hI gm_g0 rfl ly_X9_holderOf_9 (by decide) m_X9_holderOf_257 rfl rfl dX9_holderOf_8 ?_
      refine lv_icmp_ge (tgt := 61) hx hb dX9_holderOf_11 (by decide) (fun c3 => ?_) (fun c3 => ?_)
      · replace h := gw_ifT c3 h
        refine lv_iload_n hx hb dX9_holderOf_61 rfl (lv_at hl 3 rfl) ?_
        rw [← Option.some.inj h]
        exact gw_iret (W' := (fun w => w = gw_mw cc a S)) B hI rfl (Nat.zero_le _) (Nat.zero_le _) dX9_holderOf_62
      · replace h := gw_ifF c3 h
        refine lv_iload hx hb dX9_holderOf_14 (lv_at hl 4 rfl) ?_
        refine lv_iload_n hx hb dX9_holderOf_16 rfl (lv_at hl 2 rfl) ?_
        refine lv_icmp_eq (tgt := 55) hx hb dX9_holderOf_17 (by decide) (fun c4 => ?_) (fun c4 => ?_)
        · replace h := gw_ifT c4 h
          exact hb55 (f_X9_holderOf_b5 S  n) ih v1 v2 v3 v4 h _ _ _ hI (lv_sub hl [0, 1, 2, 3, 4] rfl)
        · replace h := gw_ifF c4 h
          refine lv_aload_n hx hb dX9_holderOf_20 rfl (lv_at hl 0 rfl) ?_
          refine gw_get (T := TX9) (k := 37) (v := .ref (a 32)) B hI gm_g0 rfl ly_X9_holderOf_9 (by decide) m_X9_holderOf_104 rfl rfl dX9_holderOf_21 ?_
          refine lv_iload hx hb dX9_holderOf_24 (lv_at hl 4 rfl) ?_
          obtain ⟨g5, h⟩ := gw_gdE h
          refine gw_iald (t0 := 0) B hI gm_g32 rfl g5 dX9_holderOf_26 ?_
          refine lv_iload_n hx hb dX9_holderOf_27 rfl (lv_at hl 1 rfl) ?_
          refine lv_icmp_ne (tgt := 55) hx hb dX9_holderOf_28 (by decide) (fun c6 => ?_) (fun c6 => ?_)
          · replace h := gw_ifF c6 h
            exact hb55 (f_X9_holderOf_b5 S  n) ih v1 v2 v3 v4 h _ _ _ hI (lv_sub hl [0, 1, 2, 3, 4] rfl)
          · replace h := gw_ifT c6 h
            refine lv_aload_n hx hb dX9_holderOf_31 rfl (lv_at hl 0 rfl) ?_
            refine lv_iload_n hx hb dX9_holderOf_32 rfl (lv_at hl 1 rfl) ?_
            refine lv_iload_n hx hb dX9_holderOf_33 rfl (lv_at hl 2 rfl) ?_
            refine lv_iload hx hb dX9_holderOf_34 (lv_at hl 4 rfl) ?_
            obtain ⟨r7, e8, h⟩ := gw_bdE h
            refine gw_callV (As := [.int v1, .int v2, .int v4]) (n := 3) B hI (k_X9_meet v1 v2 v4 S e8) gX9_holderOf_X9_meet rfl rfl rfl nd_X9_meet ⟨Nat.le_of_ble_eq_true rfl, Nat.le_of_ble_eq_true rfl⟩ gm_g0 rfl rfl rfl hl.1 (Nat.zero_le _) dX9_holderOf_36 ⟨Nat.le_of_ble_eq_true rfl, Nat.le_of_ble_eq_true rfl⟩ rfl (fun w' H locs hw hI => ?_)
            subst hw
            refine lv_if_eq (tgt := 55) hx hb dX9_holderOf_39 (by decide) (fun c9 => ?_) (fun c9 => ?_)
            · replace h := gw_ifT c9 h
              exact hb55 (f_X9_holderOf_b5 S  n) ih v1 v2 v3 v4 h _ _ _ hI (lv_sub hl [0, 1, 2, 3, 4] rfl)
            · replace h := gw_ifF c9 h
              refine lv_iload_n hx hb dX9_holderOf_42 rfl (lv_at hl 3 rfl) ?_
              refine lv_iconst (v := -1) hx hb dX9_holderOf_43 (by decide) ?_
              refine lv_icmp_ne (tgt := 52) hx hb dX9_holderOf_44 (by decide) (fun c10 => ?_) (fun c10 => ?_)
              · replace h := gw_ifF c10 h
                refine lv_bipush (v := -2) hx hb dX9_holderOf_52 (by decide) ?_
                exact hb54 (f_X9_holderOf_b5 S  n) ih v1 v2 v4 (-2 : Int32) h _ _ _ hI (lv_sub hl [0, 1, 2, 4] rfl)
              · replace h := gw_ifT c10 h
                refine lv_iload hx hb dX9_holderOf_47 (lv_at hl 4 rfl) ?_
                refine lv_goto (tgt := 54) hx hb dX9_holderOf_49 (by decide) ?_
                exact hb54 (f_X9_holderOf_b5 S  n) ih v1 v2 v4 v4 h _ _ _ hI (lv_sub hl [0, 1, 2, 4] rfl)
  unfold f_X9_holderOf at h
  refine lv_iconst (v := -1) hx hb dX9_holderOf_0 (by decide) ?_
  refine lv_istore_n (lv' := [(3, .int (-1 : Int32)), (0, .ref (a 0)), (1, .int x1), (2, .int x2)]) hx hb dX9_holderOf_1 rfl hl (by decide) rfl (fun ls hl => ?_)
  refine lv_iconst (v := 0) hx hb dX9_holderOf_2 (by decide) ?_
  refine lv_istore (lv' := [(4, .int (0 : Int32)), (3, .int (-1 : Int32)), (0, .ref (a 0)), (1, .int x1), (2, .int x2)]) hx hb dX9_holderOf_3 hl (by decide) rfl (fun ls hl => ?_)
  exact hb5  gw_F x1 x2 (-1 : Int32) (0 : Int32) h _ _ _ hI (lv_sub hl [2, 3, 4, 1, 0] rfl)
set_option maxRecDepth 100000 in
set_option maxHeartbeats 4000000 in
theorem k_X9_isFree (x1 : Int32) (x2 : Int32) (S : gw_S) {zr : Int32} (h : f_X9_isFree x1 x2 S = some zr) : gw_M l yX9_isFree wsX9_isFree rm_X9_isFree 0 0 D (gw_ty cc) t1 t2 [.ref (a 0), .int x1, .int x2] (gw_mw cc a S) (fun w => w = gw_mw cc a S) (some (.int zr)) := by
  refine gw_enter (cc := cX9_isFree) (maxL := 3) (ret := (some .boolean)) (own := RX9) rfl (by decide) rfl (Nat.le_of_ble_eq_true rfl) ?_
  intro p e s m below meth c A B hin hI ls hl
  have hl : lv_has ls 3 [(0, .ref (a 0)), (1, .int x1), (2, .int x2)] := hl
  generalize ([.ref (a 0), .int x1, .int x2] : List Value).toArray = args at B ⊢
  have hx := B.1.1
  have hb := B.1.2.1
  have hown : s.vm.findClass RX9 = some m.cls := B.1.2.2.2.1
  have hts := B.1.2.2.2.2
  unfold f_X9_isFree at h
  refine lv_aload_n hx hb dX9_isFree_0 rfl (lv_at hl 0 rfl) ?_
  refine lv_iload_n hx hb dX9_isFree_1 rfl (lv_at hl 1 rfl) ?_
  refine lv_iload_n hx hb dX9_isFree_2 rfl (lv_at hl 2 rfl) ?_
  obtain ⟨r1, e2, h⟩ := gw_bdE h
  refine gw_callV (As := [.int x1, .int x2]) (n := 2) B hI (k_X9_isWell x1 x2 S e2) gX9_isFree_X9_isWell rfl rfl rfl nd_X9_isWell ⟨Nat.le_of_ble_eq_true rfl, Nat.le_of_ble_eq_true rfl⟩ gm_g0 rfl rfl rfl hl.1 (Nat.zero_le _) dX9_isFree_3 ⟨Nat.le_of_ble_eq_true rfl, Nat.le_of_ble_eq_true rfl⟩ rfl (fun w' H locs hw hI => ?_)
  subst hw
  refine lv_if_eq (tgt := 23) hx hb dX9_isFree_6 (by decide) (fun c3 => ?_) (fun c3 => ?_)
  · replace h := gw_ifT c3 h
    refine lv_iconst (v := 0) hx hb dX9_isFree_23 (by decide) ?_
    rw [← Option.some.inj h]
    exact gw_zret (W' := (fun w => w = gw_mw cc a S)) B hI rfl (Or.inl rfl) (Nat.zero_le _) (Nat.zero_le _) dX9_isFree_24
  · replace h := gw_ifF c3 h
    refine lv_aload_n hx hb dX9_isFree_9 rfl (lv_at hl 0 rfl) ?_
    refine lv_iload_n hx hb dX9_isFree_10 rfl (lv_at hl 1 rfl) ?_
    refine lv_iload_n hx hb dX9_isFree_11 rfl (lv_at hl 2 rfl) ?_
    obtain ⟨r4, e5, h⟩ := gw_bdE h
    refine gw_callV (As := [.int x1, .int x2]) (n := 2) B hI (k_X9_holderOf x1 x2 S e5) gX9_isFree_X9_holderOf rfl rfl rfl nd_X9_holderOf ⟨Nat.le_of_ble_eq_true rfl, Nat.le_of_ble_eq_true rfl⟩ gm_g0 rfl rfl rfl hl.1 (Nat.zero_le _) dX9_isFree_12 ⟨Nat.le_of_ble_eq_true rfl, Nat.le_of_ble_eq_true rfl⟩ rfl (fun w' H locs hw hI => ?_)
    subst hw
    refine lv_iconst (v := -1) hx hb dX9_isFree_15 (by decide) ?_
    refine lv_icmp_ne (tgt := 23) hx hb dX9_isFree_16 (by decide) (fun c6 => ?_) (fun c6 => ?_)
    · replace h := gw_ifF c6 h
      refine lv_iconst (v := 0) hx hb dX9_isFree_23 (by decide) ?_
      rw [← Option.some.inj h]
      exact gw_zret (W' := (fun w => w = gw_mw cc a S)) B hI rfl (Or.inl rfl) (Nat.zero_le _) (Nat.zero_le _) dX9_isFree_24
    · replace h := gw_ifT c6 h
      refine lv_iconst (v := 1) hx hb dX9_isFree_19 (by decide) ?_
      refine lv_goto (tgt := 24) hx hb dX9_isFree_20 (by decide) ?_
      rw [← Option.some.inj h]
      exact gw_zret (W' := (fun w => w = gw_mw cc a S)) B hI rfl (Or.inr rfl) (Nat.zero_le _) (Nat.zero_le _) dX9_isFree_24
theorem m_X9_givenOf_203 : Cond.fieldLink RX9 203 "GownLetModel" "pieces" "I" ∈ wsX9_givenOf := by decide +kernel
theorem m_X9_givenOf_31 : Cond.fieldLink RX9 31 "GownLetModel" "makers" "[I" ∈ wsX9_givenOf := by decide +kernel
theorem m_X9_givenOf_34 : Cond.fieldLink RX9 34 "GownLetModel" "labels" "[I" ∈ wsX9_givenOf := by decide +kernel
theorem m_X9_givenOf_37 : Cond.fieldLink RX9 37 "GownLetModel" "lots" "[I" ∈ wsX9_givenOf := by decide +kernel
theorem m_X9_givenOf_49 : Cond.fieldLink RX9 49 "GownLetModel" "hems" "[I" ∈ wsX9_givenOf := by decide +kernel
theorem m_X9_givenOf_77 : Cond.fieldLink RX9 77 "GownLetModel" "lows" "[I" ∈ wsX9_givenOf := by decide +kernel
theorem m_X9_givenOf_83 : Cond.fieldLink RX9 83 "GownLetModel" "bodies" "[I" ∈ wsX9_givenOf := by decide +kernel
theorem m_X9_givenOf_86 : Cond.fieldLink RX9 86 "GownLetModel" "wanted" "[I" ∈ wsX9_givenOf := by decide +kernel
theorem ly_X9_givenOf_9 : ∀ w ∈ wsX90, w ∈ wsX9_givenOf := fun w h => List.mem_cons_of_mem _ (List.mem_append_right _ h)
set_option maxRecDepth 100000 in
set_option maxHeartbeats 4000000 in
theorem k_X9_givenOf (x1 : Int32) (x2 : Int32) (S : gw_S) {zr : Int32} (h : f_X9_givenOf x1 x2 S = some zr) : gw_M l yX9_givenOf wsX9_givenOf rm_X9_givenOf 0 0 D (gw_ty cc) t1 t2 [.ref (a 0), .int x1, .int x2] (gw_mw cc a S) (fun w => w = gw_mw cc a S) (some (.int zr)) := by
  refine gw_enter (cc := cX9_givenOf) (maxL := 7) (ret := (some .int)) (own := RX9) rfl (by decide) rfl (Nat.le_of_ble_eq_true rfl) ?_
  intro p e s m below meth c A B hin hI ls hl
  have hl : lv_has ls 7 [(0, .ref (a 0)), (1, .int x1), (2, .int x2)] := hl
  generalize ([.ref (a 0), .int x1, .int x2] : List Value).toArray = args at B ⊢
  have hx := B.1.1
  have hb := B.1.2.1
  have hown : s.vm.findClass RX9 = some m.cls := B.1.2.2.2.1
  have hts := B.1.2.2.2.2
  have hb134 : ∀ (K9 : Int32 → Int32 → Int32 → Int32 → Int32 → Option (Int32)) (_ : ∀ (v1 : Int32) (v2 : Int32) (v3 : Int32) (v4 : Int32) (v5 : Int32), K9 v1 v2 v3 v4 v5 = some zr → ∀ (H : Heap) (locs : List Loc) (ls : Array Slot), gw_I D A s.heap (gw_mw cc a S) H locs → lv_has ls 7 [(0, .ref (a 0)), (1, .int v1), (2, .int v2), (3, .int v3), (4, .int v4), (5, .int v5)] → W p l e rm_X9_givenOf s m args below meth c H locs 0 0 (MQ below (gw_Q (some (.int zr)) (gw_Pst D A (fun w => w = gw_mw cc a S)) A) args s 0 0 A) (F0 m 9 ls [])), ∀ (v1 : Int32) (v2 : Int32) (v3 : Int32) (v4 : Int32) (v5 : Int32), f_X9_givenOf_b134 S K9 v1 v2 v3 v4 v5 = some zr → ∀ (H : Heap) (locs : List Loc) (ls : Array Slot), gw_I D A s.heap (gw_mw cc a S) H locs → lv_has ls 7 [(0, .ref (a 0)), (1, .int v1), (2, .int v2), (3, .int v3), (4, .int v4), (5, .int v5)] → W p l e rm_X9_givenOf s m args below meth c H locs 0 0 (MQ below (gw_Q (some (.int zr)) (gw_Pst D A (fun w => w = gw_mw cc a S)) A) args s 0 0 A) (F0 m 134 ls []) := by
    intro K9 hK9
    intro v1 v2 v3 v4 v5 h H locs ls hI hl
    unfold f_X9_givenOf_b134 at h
    obtain ⟨y1, e2, h⟩ := gw_letE h
    refine lv_iinc (v := y1) (lv' := [(5, .int y1), (0, .ref (a 0)), (1, .int v1), (2, .int v2), (3, .int v3), (4, .int v4)]) hx hb dX9_givenOf_134 hl (k := 5) rfl (by rw [e2]; rfl) (by decide) rfl (fun ls hl => ?_)
    refine lv_goto (tgt := 9) hx hb dX9_givenOf_137 (by decide) ?_
    exact hK9 v1 v2 v3 v4 y1 h _ _ _ hI (lv_sub hl [1, 2, 3, 4, 5, 0] rfl)
  have hb127 : ∀ (K9 : Int32 → Int32 → Int32 → Int32 → Int32 → Option (Int32)) (_ : ∀ (v1 : Int32) (v2 : Int32) (v3 : Int32) (v4 : Int32) (v5 : Int32), K9 v1 v2 v3 v4 v5 = some zr → ∀ (H : Heap) (locs : List Loc) (ls : Array Slot), gw_I D A s.heap (gw_mw cc a S) H locs → lv_has ls 7 [(0, .ref (a 0)), (1, .int v1), (2, .int v2), (3, .int v3), (4, .int v4), (5, .int v5)] → W p l e rm_X9_givenOf s m args below meth c H locs 0 0 (MQ below (gw_Q (some (.int zr)) (gw_Pst D A (fun w => w = gw_mw cc a S)) A) args s 0 0 A) (F0 m 9 ls [])), ∀ (v1 : Int32) (v2 : Int32) (v5 : Int32) (v6 : Int32), f_X9_givenOf_b127 S K9 v1 v2 v5 v6 = some zr → ∀ (H : Heap) (locs : List Loc) (ls : Array Slot), gw_I D A s.heap (gw_mw cc a S) H locs → lv_has ls 7 [(0, .ref (a 0)), (1, .int v1), (2, .int v2), (5, .int v5), (6, .int v6)] → W p l e rm_X9_givenOf s m args below meth c H locs 0 0 (MQ below (gw_Q (some (.int zr)) (gw_Pst D A (fun w => w = gw_mw cc a S)) A) args s 0 0 A) (F0 m 127 ls []) := by
    intro K9 hK9
    intro v1 v2 v5 v6 h H locs ls hI hl
    unfold f_X9_givenOf_b127 at h
    refine lv_iload hx hb dX9_givenOf_127 (lv_at hl 3 rfl) ?_
    refine lv_istore_n (lv' := [(3, .int v5), (0, .ref (a 0)), (1, .int v1), (2, .int v2), (5, .int v5), (6, .int v6)]) hx hb dX9_givenOf_129 rfl hl (by decide) rfl (fun ls hl => ?_)
    refine lv_iload hx hb dX9_givenOf_130 (lv_at hl 5 rfl) ?_
    refine lv_istore (lv' := [(4, .int v6), (3, .int v5), (0, .ref (a 0)), (1, .int v1), (2, .int v2), (5, .int v5), (6, .int v6)]) hx hb dX9_givenOf_132 hl (by decide) rfl (fun ls hl => ?_)
    exact hb134 K9 hK9 v1 v2 v5 v6 v5 h _ _ _ hI (lv_sub hl [2, 3, 4, 1, 0, 5] rfl)
  have hb33 : ∀ (K9 : Int32 → Int32 → Int32 → Int32 → Int32 → Option (Int32)) (_ : ∀ (v1 : Int32) (v2 : Int32) (v3 : Int32) (v4 : Int32) (v5 : Int32), K9 v1 v2 v3 v4 v5 = some zr → ∀ (H : Heap) (locs : List Loc) (ls : Array Slot), gw_I D A s.heap (gw_mw cc a S) H locs → lv_has ls 7 [(0, .ref (a 0)), (1, .int v1), (2, .int v2), (3, .int v3), (4, .int v4), (5, .int v5)] → W p l e rm_X9_givenOf s m args below meth c H locs 0 0 (MQ below (gw_Q (some (.int zr)) (gw_Pst D A (fun w => w = gw_mw cc a S)) A) args s 0 0 A) (F0 m 9 ls [])), ∀ (v1 : Int32) (v2 : Int32) (v3 : Int32) (v4 : Int32) (v5 : Int32), f_X9_givenOf_b33 S K9 v1 v2 v3 v4 v5 = some zr → ∀ (H : Heap) (locs : List Loc) (ls : Array Slot), gw_I D A s.heap (gw_mw cc a S) H locs → lv_has ls 7 [(0, .ref (a 0)), (1, .int v1), (2, .int v2), (3, .int v3), (4, .int v4), (5, .int v5)] → W p l e rm_X9_givenOf s m args below meth c H locs 0 0 (MQ below (gw_Q (some (.int zr)) (gw_Pst D A (fun w => w = gw_mw cc a S)) A) args s 0 0 A) (F0 m 33 ls []) := by
    intro K9 hK9
    intro v1 v2 v3 v4 v5 h H locs ls hI hl
    unfold f_X9_givenOf_b33 at h
    refine lv_aload_n hx hb dX9_givenOf_33 rfl (lv_at hl 0 rfl) ?_
    refine lv_iload hx hb dX9_givenOf_34 (lv_at hl 5 rfl) ?_
    refine lv_aload_n hx hb dX9_givenOf_36 rfl (lv_at hl 0 rfl) ?_
    refine gw_get (T := TX9) (k := 30) (v := .ref (a 25)) B hI gm_g0 rfl ly_X9_givenOf_9 (by decide) m_X9_givenOf_83 rfl rfl dX9_givenOf_37 ?_
    refine lv_iload_n hx hb dX9_givenOf_40 rfl (lv_at hl 1 rfl) ?_
    obtain ⟨g3, h⟩ := gw_gdE h
    refine gw_iald (t0 := 0) B hI gm_g25 rfl g3 dX9_givenOf_41 ?_
    refine lv_aload_n hx hb dX9_givenOf_42 rfl (lv_at hl 0 rfl) ?_
    refine gw_get (T := TX9) (k := 31) (v := .ref (a 26)) B hI gm_g0 rfl ly_X9_givenOf_9 (by decide) m_X9_givenOf_86 rfl rfl dX9_givenOf_43 ?_
    refine lv_iload_n hx hb dX9_givenOf_46 rfl (lv_at hl 1 rfl) ?_
    refine gw_iald (t0 := 0) B hI gm_g26 rfl g3 dX9_givenOf_47 ?_
    obtain ⟨r4, e5, h⟩ := gw_bdE h
    refine gw_callV (As := [.int v5, .int (S 25 v1.toNatClampNeg), .int (S 26 v1.toNatClampNeg)]) (n := 3) B hI (k_X9_fitOf v5 (S 25 v1.toNatClampNeg) (S 26 v1.toNatClampNeg) S e5) gX9_givenOf_X9_fitOf rfl rfl rfl nd_X9_fitOf ⟨Nat.le_of_ble_eq_true rfl, Nat.le_of_ble_eq_true rfl⟩ gm_g0 rfl rfl rfl hl.1 (Nat.zero_le _) dX9_givenOf_48 ⟨Nat.le_of_ble_eq_true rfl, Nat.le_of_ble_eq_true rfl⟩ rfl (fun w' H locs hw hI => ?_)
    subst hw
    refine lv_iconst (v := 2) hx hb dX9_givenOf_51 (by decide) ?_
    refine lv_icmp_ne (tgt := 134) hx hb dX9_givenOf_52 (by decide) (fun c6 => ?_) (fun c6 => ?_)
    · replace h := gw_ifF c6 h
      exact hb134 K9 hK9 v1 v2 v3 v4 v5 h _ _ _ hI (lv_sub hl [0, 1, 2, 3, 4, 5] rfl)
    · replace h := gw_ifT c6 h
      refine lv_aload_n hx hb dX9_givenOf_55 rfl (lv_at hl 0 rfl) ?_
      refine lv_iload hx hb dX9_givenOf_56 (lv_at hl 5 rfl) ?_
      refine lv_iload_n hx hb dX9_givenOf_58 rfl (lv_at hl 1 rfl) ?_
      obtain ⟨r7, e8, h⟩ := gw_bdE h
      refine gw_callV (As := [.int v5, .int v1]) (n := 2) B hI (k_X9_isFree v5 v1 S e8) gX9_givenOf_X9_isFree rfl rfl rfl nd_X9_isFree ⟨Nat.le_of_ble_eq_true rfl, Nat.le_of_ble_eq_true rfl⟩ gm_g0 rfl rfl rfl hl.1 (Nat.zero_le _) dX9_givenOf_59 ⟨Nat.le_of_ble_eq_true rfl, Nat.le_of_ble_eq_true rfl⟩ rfl (fun w' H locs hw hI => ?_)
      subst hw
      refine lv_if_eq (tgt := 134) hx hb dX9_givenOf_62 (by decide) (fun c9 => ?_) (fun c9 => ?_)
      · replace h := gw_ifT c9 h
        exact hb134 K9 hK9 v1 v2 v3 v4 v5 h _ _ _ hI (lv_sub hl [0, 1, 2, 3, 4, 5] rfl)
      · replace h := gw_ifF c9 h
        refine lv_bipush (v := 16) hx hb dX9_givenOf_65 (by decide) ?_
        refine lv_aload_n hx hb dX9_givenOf_67 rfl (lv_at hl 0 rfl) ?_
        refine gw_get (T := TX9) (k := 11) (v := .ref (a 9)) B hI gm_g0 rfl ly_X9_givenOf_9 (by decide) m_X9_givenOf_34 rfl rfl dX9_givenOf_68 ?_
        refine lv_iload hx hb dX9_givenOf_71 (lv_at hl 5 rfl) ?_
        obtain ⟨g10, h⟩ := gw_gdE h
        refine gw_iald (t0 := 0) B hI gm_g9 rfl g10 dX9_givenOf_73 ?_
        refine lv_aload_n hx hb dX9_givenOf_74 rfl (lv_at hl 0 rfl) ?_
        refine gw_get (T := TX9) (k := 26) (v := .ref (a 23)) B hI gm_g0 rfl ly_X9_givenOf_9 (by decide) m_X9_givenOf_77 rfl rfl dX9_givenOf_75 ?_
        refine lv_aload_n hx hb dX9_givenOf_78 rfl (lv_at hl 0 rfl) ?_
        refine gw_get (T := TX9) (k := 10) (v := .ref (a 8)) B hI gm_g0 rfl ly_X9_givenOf_9 (by decide) m_X9_givenOf_31 rfl rfl dX9_givenOf_79 ?_
        refine lv_iload hx hb dX9_givenOf_82 (lv_at hl 5 rfl) ?_
        refine gw_iald (t0 := 0) B hI gm_g8 rfl g10 dX9_givenOf_84 ?_
        obtain ⟨g11, h⟩ := gw_gdE h
        refine gw_iald (t0 := 0) B hI gm_g23 rfl g11 dX9_givenOf_85 ?_
        refine lv_iadd hx hb dX9_givenOf_86 ?_
        refine lv_aload_n hx hb dX9_givenOf_87 rfl (lv_at hl 0 rfl) ?_
        refine gw_get (T := TX9) (k := 16) (v := .ref (a 14)) B hI gm_g0 rfl ly_X9_givenOf_9 (by decide) m_X9_givenOf_49 rfl rfl dX9_givenOf_88 ?_
        refine lv_iload hx hb dX9_givenOf_91 (lv_at hl 5 rfl) ?_
        refine gw_iald (t0 := 0) B hI gm_g14 rfl g10 dX9_givenOf_93 ?_
        refine lv_iadd hx hb dX9_givenOf_94 ?_
        refine lv_aload_n hx hb dX9_givenOf_95 rfl (lv_at hl 0 rfl) ?_
        refine gw_get (T := TX9) (k := 30) (v := .ref (a 25)) B hI gm_g0 rfl ly_X9_givenOf_9 (by decide) m_X9_givenOf_83 rfl rfl dX9_givenOf_96 ?_
        refine lv_iload_n hx hb dX9_givenOf_99 rfl (lv_at hl 1 rfl) ?_
        refine gw_iald (t0 := 0) B hI gm_g25 rfl g3 dX9_givenOf_100 ?_
        refine lv_isub hx hb dX9_givenOf_101 ?_
        obtain ⟨r12, e13, h⟩ := gw_bdE h
        refine gw_callS (As := [.int ((((S 9 v5.toNatClampNeg) + (S 23 (S 8 v5.toNatClampNeg).toNatClampNeg)) + (S 14 v5.toNatClampNeg)) - (S 25 v1.toNatClampNeg))]) (n := 1) B hI (k_X9_size ((((S 9 v5.toNatClampNeg) + (S 23 (S 8 v5.toNatClampNeg).toNatClampNeg)) + (S 14 v5.toNatClampNeg)) - (S 25 v1.toNatClampNeg)) S e13) gX9_givenOf_X9_size rfl rfl rfl nds_X9_size ⟨Nat.le_of_ble_eq_true rfl, Nat.le_of_ble_eq_true rfl⟩ rfl hl.1 (by simp [gw_catq, gw_cI, gw_cR, gw_cL]) dX9_givenOf_102 ⟨Nat.le_of_ble_eq_true rfl, Nat.le_of_ble_eq_true rfl⟩ rfl (fun w' H locs hw hI => ?_)
        subst hw
        refine lv_imul hx hb dX9_givenOf_105 ?_
        refine lv_aload_n hx hb dX9_givenOf_106 rfl (lv_at hl 0 rfl) ?_
        refine lv_iload hx hb dX9_givenOf_107 (lv_at hl 5 rfl) ?_
        refine lv_iload_n hx hb dX9_givenOf_109 rfl (lv_at hl 1 rfl) ?_
        obtain ⟨r14, e15, h⟩ := gw_bdE h
        refine gw_callV (As := [.int v5, .int v1]) (n := 2) B hI (k_X9_postOf v5 v1 S e15) gX9_givenOf_X9_postOf rfl rfl rfl nd_X9_postOf ⟨Nat.le_of_ble_eq_true rfl, Nat.le_of_ble_eq_true rfl⟩ gm_g0 rfl rfl rfl hl.1 (by simp [gw_catq, gw_cI, gw_cR, gw_cL]) dX9_givenOf_110 ⟨Nat.le_of_ble_eq_true rfl, Nat.le_of_ble_eq_true rfl⟩ rfl (fun w' H locs hw hI => ?_)
        subst hw
        refine lv_iadd hx hb dX9_givenOf_113 ?_
        obtain ⟨y16, e17, h⟩ := gw_letE h
        rw [← e17]
        refine lv_istore (lv' := [(6, .int y16), (0, .ref (a 0)), (1, .int v1), (2, .int v2), (3, .int v3), (4, .int v4), (5, .int v5)]) hx hb dX9_givenOf_114 hl (by decide) rfl (fun ls hl => ?_)
        refine lv_iload_n hx hb dX9_givenOf_116 rfl (lv_at hl 4 rfl) ?_
        refine lv_if_lt (tgt := 127) hx hb dX9_givenOf_117 (by decide) (fun c18 => ?_) (fun c18 => ?_)
        · replace h := gw_ifT c18 h
          exact hb127 K9 hK9 v1 v2 v5 y16 h _ _ _ hI (lv_sub hl [1, 2, 3, 6, 0] rfl)
        · replace h := gw_ifF c18 h
          refine lv_iload hx hb dX9_givenOf_120 (lv_at hl 0 rfl) ?_
          refine lv_iload hx hb dX9_givenOf_122 (lv_at hl 5 rfl) ?_
          refine lv_icmp_ge (tgt := 134) hx hb dX9_givenOf_124 (by decide) (fun c19 => ?_) (fun c19 => ?_)
          · replace h := gw_ifT c19 h
            exact hb134 K9 hK9 v1 v2 v3 v4 v5 h _ _ _ hI (lv_sub hl [1, 2, 3, 4, 5, 6] rfl)
          · replace h := gw_ifF c19 h
            exact hb127 K9 hK9 v1 v2 v5 y16 h _ _ _ hI (lv_sub hl [1, 2, 3, 6, 0] rfl)
  have hb9 :  ∀ (n : Nat), ∀ (v1 : Int32) (v2 : Int32) (v3 : Int32) (v4 : Int32) (v5 : Int32), f_X9_givenOf_b9 S  n v1 v2 v3 v4 v5 = some zr → ∀ (H : Heap) (locs : List Loc) (ls : Array Slot), gw_I D A s.heap (gw_mw cc a S) H locs → lv_has ls 7 [(0, .ref (a 0)), (1, .int v1), (2, .int v2), (3, .int v3), (4, .int v4), (5, .int v5)] → W p l e rm_X9_givenOf s m args below meth c H locs 0 0 (MQ below (gw_Q (some (.int zr)) (gw_Pst D A (fun w => w = gw_mw cc a S)) A) args s 0 0 A) (F0 m 9 ls []) := by
    intro n
    induction n with
    | zero =>
      intro v1 v2 v3 v4 v5 h
      cases h
    | succ n ih =>
      intro v1 v2 v3 v4 v5 h H locs ls hI hl
      unfold f_X9_givenOf_b9 at h
      refine lv_iload hx hb dX9_givenOf_9 (lv_at hl 5 rfl) ?_
      refine lv_aload_n hx hb dX9_givenOf_11 rfl (lv_at hl 0 rfl) ?_
      refine gw_get (T := TX9) (k := 8) (v := .int (S 0 8)) B hI gm_g0 rfl ly_X9_givenOf_9 (by decide) m_X9_givenOf_203 rfl rfl dX9_givenOf_12 ?_
      refine lv_icmp_ge (tgt := 140) hx hb dX9_givenOf_15 (by decide) (fun c20 => ?_) (fun c20 => ?_)
      · replace h := gw_ifT c20 h
        refine lv_iload_n hx hb dX9_givenOf_140 rfl (lv_at hl 3 rfl) ?_
        rw [← Option.some.inj h]
        exact gw_iret (W' := (fun w => w = gw_mw cc a S)) B hI rfl (Nat.zero_le _) (Nat.zero_le _) dX9_givenOf_141
      · replace h := gw_ifF c20 h
        refine lv_iload_n hx hb dX9_givenOf_18 rfl (lv_at hl 2 rfl) ?_
        refine lv_if_lt (tgt := 33) hx hb dX9_givenOf_19 (by decide) (fun c21 => ?_) (fun c21 => ?_)
        · replace h := gw_ifT c21 h
          exact hb33 (f_X9_givenOf_b9 S  n) ih v1 v2 v3 v4 v5 h _ _ _ hI (lv_sub hl [0, 1, 2, 3, 4, 5] rfl)
        · replace h := gw_ifF c21 h
          refine lv_aload_n hx hb dX9_givenOf_22 rfl (lv_at hl 0 rfl) ?_
          refine gw_get (T := TX9) (k := 12) (v := .ref (a 10)) B hI gm_g0 rfl ly_X9_givenOf_9 (by decide) m_X9_givenOf_37 rfl rfl dX9_givenOf_23 ?_
          refine lv_iload hx hb dX9_givenOf_26 (lv_at hl 5 rfl) ?_
          obtain ⟨g22, h⟩ := gw_gdE h
          refine gw_iald (t0 := 0) B hI gm_g10 rfl g22 dX9_givenOf_28 ?_
          refine lv_iload_n hx hb dX9_givenOf_29 rfl (lv_at hl 2 rfl) ?_
          refine lv_icmp_ne (tgt := 134) hx hb dX9_givenOf_30 (by decide) (fun c23 => ?_) (fun c23 => ?_)
          · replace h := gw_ifF c23 h
            exact hb134 (f_X9_givenOf_b9 S  n) ih v1 v2 v3 v4 v5 h _ _ _ hI (lv_sub hl [0, 1, 2, 3, 4, 5] rfl)
          · replace h := gw_ifT c23 h
            exact hb33 (f_X9_givenOf_b9 S  n) ih v1 v2 v3 v4 v5 h _ _ _ hI (lv_sub hl [0, 1, 2, 3, 4, 5] rfl)
  unfold f_X9_givenOf at h
  refine lv_bipush (v := -4) hx hb dX9_givenOf_0 (by decide) ?_
  refine lv_istore_n (lv' := [(3, .int (-4 : Int32)), (0, .ref (a 0)), (1, .int x1), (2, .int x2)]) hx hb dX9_givenOf_2 rfl hl (by decide) rfl (fun ls hl => ?_)
  refine lv_iconst (v := 0) hx hb dX9_givenOf_3 (by decide) ?_
  refine lv_istore (lv' := [(4, .int (0 : Int32)), (3, .int (-4 : Int32)), (0, .ref (a 0)), (1, .int x1), (2, .int x2)]) hx hb dX9_givenOf_4 hl (by decide) rfl (fun ls hl => ?_)
  refine lv_iconst (v := 0) hx hb dX9_givenOf_6 (by decide) ?_
  refine lv_istore (lv' := [(5, .int (0 : Int32)), (4, .int (0 : Int32)), (3, .int (-4 : Int32)), (0, .ref (a 0)), (1, .int x1), (2, .int x2)]) hx hb dX9_givenOf_7 hl (by decide) rfl (fun ls hl => ?_)
  exact hb9  gw_F x1 x2 (-4 : Int32) (0 : Int32) (0 : Int32) h _ _ _ hI (lv_sub hl [3, 4, 5, 2, 1, 0] rfl)
theorem m_X9_isOpen_101 : Cond.fieldLink RX9 101 "GownLetModel" "offs" "[I" ∈ wsX9_isOpen := by decide +kernel
theorem m_X9_isOpen_104 : Cond.fieldLink RX9 104 "GownLetModel" "had" "[I" ∈ wsX9_isOpen := by decide +kernel
theorem ly_X9_isOpen_9 : ∀ w ∈ wsX90, w ∈ wsX9_isOpen := fun w h => List.mem_cons_of_mem _ (List.mem_append_right _ h)
set_option maxRecDepth 100000 in
set_option maxHeartbeats 4000000 in
theorem k_X9_isOpen (x1 : Int32) (S : gw_S) {zr : Int32} (h : f_X9_isOpen x1 S = some zr) : gw_M l yX9_isOpen wsX9_isOpen rm_X9_isOpen 0 0 D (gw_ty cc) t1 t2 [.ref (a 0), .int x1] (gw_mw cc a S) (fun w => w = gw_mw cc a S) (some (.int zr)) := by
  refine gw_enter (cc := cX9_isOpen) (maxL := 2) (ret := (some .boolean)) (own := RX9) rfl (by decide) rfl (Nat.le_of_ble_eq_true rfl) ?_
  intro p e s m below meth c A B hin hI ls hl
  have hl : lv_has ls 2 [(0, .ref (a 0)), (1, .int x1)] := hl
  generalize ([.ref (a 0), .int x1] : List Value).toArray = args at B ⊢
  have hx := B.1.1
  have hb := B.1.2.1
  have hown : s.vm.findClass RX9 = some m.cls := B.1.2.2.2.1
  have hts := B.1.2.2.2.2
  unfold f_X9_isOpen at h
  refine lv_aload_n hx hb dX9_isOpen_0 rfl (lv_at hl 0 rfl) ?_
  refine gw_get (T := TX9) (k := 37) (v := .ref (a 32)) B hI gm_g0 rfl ly_X9_isOpen_9 (by decide) m_X9_isOpen_104 rfl rfl dX9_isOpen_1 ?_
  refine lv_iload_n hx hb dX9_isOpen_4 rfl (lv_at hl 1 rfl) ?_
  obtain ⟨g1, h⟩ := gw_gdE h
  refine gw_iald (t0 := 0) B hI gm_g32 rfl g1 dX9_isOpen_5 ?_
  refine lv_if_ge (tgt := 22) hx hb dX9_isOpen_6 (by decide) (fun c2 => ?_) (fun c2 => ?_)
  · replace h := gw_ifT c2 h
    refine lv_iconst (v := 0) hx hb dX9_isOpen_22 (by decide) ?_
    rw [← Option.some.inj h]
    exact gw_zret (W' := (fun w => w = gw_mw cc a S)) B hI rfl (Or.inl rfl) (Nat.zero_le _) (Nat.zero_le _) dX9_isOpen_23
  · replace h := gw_ifF c2 h
    refine lv_aload_n hx hb dX9_isOpen_9 rfl (lv_at hl 0 rfl) ?_
    refine gw_get (T := TX9) (k := 36) (v := .ref (a 31)) B hI gm_g0 rfl ly_X9_isOpen_9 (by decide) m_X9_isOpen_101 rfl rfl dX9_isOpen_10 ?_
    refine lv_iload_n hx hb dX9_isOpen_13 rfl (lv_at hl 1 rfl) ?_
    refine gw_iald (t0 := 0) B hI gm_g31 rfl g1 dX9_isOpen_14 ?_
    refine lv_if_ge (tgt := 22) hx hb dX9_isOpen_15 (by decide) (fun c3 => ?_) (fun c3 => ?_)
    · replace h := gw_ifT c3 h
      refine lv_iconst (v := 0) hx hb dX9_isOpen_22 (by decide) ?_
      rw [← Option.some.inj h]
      exact gw_zret (W' := (fun w => w = gw_mw cc a S)) B hI rfl (Or.inl rfl) (Nat.zero_le _) (Nat.zero_le _) dX9_isOpen_23
    · replace h := gw_ifF c3 h
      refine lv_iconst (v := 1) hx hb dX9_isOpen_18 (by decide) ?_
      refine lv_goto (tgt := 23) hx hb dX9_isOpen_19 (by decide) ?_
      rw [← Option.some.inj h]
      exact gw_zret (W' := (fun w => w = gw_mw cc a S)) B hI rfl (Or.inr rfl) (Nat.zero_le _) (Nat.zero_le _) dX9_isOpen_23
theorem m_X9_give_104 : Cond.fieldLink RX9 104 "GownLetModel" "had" "[I" ∈ wsX9_give := by decide +kernel
theorem ly_X9_give_9 : ∀ w ∈ wsX90, w ∈ wsX9_give := fun w h => List.mem_cons_of_mem _ (List.mem_append_right _ h)
set_option maxRecDepth 100000 in
set_option maxHeartbeats 4000000 in
theorem k_X9_give (x1 : Int32) (S : gw_S) {zr : Int32} {zS : gw_S} (h : f_X9_give x1 S = some (zr, zS)) : gw_M l yX9_give wsX9_give rm_X9_give 0 0 D (gw_ty cc) t1 t2 [.ref (a 0), .int x1] (gw_mw cc a S) (fun w => w = gw_mw cc a zS) (some (.int zr)) := by
  refine gw_enter (cc := cX9_give) (maxL := 3) (ret := (some .int)) (own := RX9) rfl (by decide) rfl (Nat.le_of_ble_eq_true rfl) ?_
  intro p e s m below meth c A B hin hI ls hl
  have hl : lv_has ls 3 [(0, .ref (a 0)), (1, .int x1)] := hl
  generalize ([.ref (a 0), .int x1] : List Value).toArray = args at B ⊢
  have hx := B.1.1
  have hb := B.1.2.1
  have hown : s.vm.findClass RX9 = some m.cls := B.1.2.2.2.1
  have hts := B.1.2.2.2.2
  have hb46 :  ∀ (v2 : Int32) (t0_ : Int32) (t1_ : Int32) (S : gw_S), f_X9_give_b46  v2 t0_ t1_ S = some (zr, zS) → ∀ (H : Heap) (locs : List Loc) (ls : Array Slot), gw_I D A s.heap (gw_mw cc a S) H locs → lv_has ls 3 [(2, .int v2)] → W p l e rm_X9_give s m args below meth c H locs 0 0 (MQ below (gw_Q (some (.int zr)) (gw_Pst D A (fun w => w = gw_mw cc a zS)) A) args s 0 0 A) (F0 m 46 ls [.int t0_, .int t1_, .ref (a 32)]) := by
    intro v2 t0_ t1_ S h H locs ls hI hl
    unfold f_X9_give_b46 at h
    obtain ⟨g1, h⟩ := gw_gdE h
    obtain ⟨S2, e3, h⟩ := gw_letE h
    refine gw_iast (t0 := 0) (w' := gw_mw cc a S2) B hI gm_g32 rfl g1 (gm_s32 e3) dX9_give_46 (fun H locs hI => ?_)
    refine lv_iload_n hx hb dX9_give_47 rfl (lv_at hl 0 rfl) ?_
    obtain ⟨h1, h2⟩ := Prod.mk.inj (Option.some.inj h)
    rw [h2] at hI
    rw [← h1]
    exact gw_iret (W' := (fun w => w = gw_mw cc a zS)) B hI rfl (Nat.zero_le _) (Nat.zero_le _) dX9_give_48
  unfold f_X9_give at h
  refine lv_aload_n hx hb dX9_give_0 rfl (lv_at hl 0 rfl) ?_
  refine lv_iload_n hx hb dX9_give_1 rfl (lv_at hl 1 rfl) ?_
  obtain ⟨r4, e5, h⟩ := gw_bdE h
  refine gw_callV (As := [.int x1]) (n := 1) B hI (k_X9_isThere x1 S e5) gX9_give_X9_isThere rfl rfl rfl nd_X9_isThere ⟨Nat.le_of_ble_eq_true rfl, Nat.le_of_ble_eq_true rfl⟩ gm_g0 rfl rfl rfl hl.1 (Nat.zero_le _) dX9_give_2 ⟨Nat.le_of_ble_eq_true rfl, Nat.le_of_ble_eq_true rfl⟩ rfl (fun w' H locs hw hI => ?_)
  subst hw
  refine lv_if_ne (tgt := 10) hx hb dX9_give_5 (by decide) (fun c6 => ?_) (fun c6 => ?_)
  · replace h := gw_ifF c6 h
    refine lv_aload_n hx hb dX9_give_10 rfl (lv_at hl 0 rfl) ?_
    refine lv_iload_n hx hb dX9_give_11 rfl (lv_at hl 1 rfl) ?_
    obtain ⟨r7, e8, h⟩ := gw_bdE h
    refine gw_callV (As := [.int x1]) (n := 1) B hI (k_X9_isOpen x1 S e8) gX9_give_X9_isOpen rfl rfl rfl nd_X9_isOpen ⟨Nat.le_of_ble_eq_true rfl, Nat.le_of_ble_eq_true rfl⟩ gm_g0 rfl rfl rfl hl.1 (Nat.zero_le _) dX9_give_12 ⟨Nat.le_of_ble_eq_true rfl, Nat.le_of_ble_eq_true rfl⟩ rfl (fun w' H locs hw hI => ?_)
    subst hw
    refine lv_if_ne (tgt := 21) hx hb dX9_give_15 (by decide) (fun c9 => ?_) (fun c9 => ?_)
    · replace h := gw_ifF c9 h
      refine lv_aload_n hx hb dX9_give_21 rfl (lv_at hl 0 rfl) ?_
      obtain ⟨S10, e11, h⟩ := gw_bdE h
      refine gw_callVv (As := []) (n := 0) B hI (k_X9_findLies  S e11) gX9_give_X9_findLies rfl rfl rfl nd_X9_findLies ⟨Nat.le_of_ble_eq_true rfl, Nat.le_of_ble_eq_true rfl⟩ gm_g0 rfl rfl rfl hl.1 (Nat.zero_le _) dX9_give_22 ⟨Nat.le_of_ble_eq_true rfl, Nat.le_of_ble_eq_true rfl⟩ rfl (fun w' H locs hw hI => ?_)
      subst hw
      refine lv_aload_n hx hb dX9_give_25 rfl (lv_at hl 0 rfl) ?_
      refine lv_iload_n hx hb dX9_give_26 rfl (lv_at hl 1 rfl) ?_
      refine lv_iconst (v := -1) hx hb dX9_give_27 (by decide) ?_
      obtain ⟨r12, e13, h⟩ := gw_bdE h
      refine gw_callV (As := [.int x1, .int (-1 : Int32)]) (n := 2) B hI (k_X9_givenOf x1 (-1 : Int32) S10 e13) gX9_give_X9_givenOf rfl rfl rfl nd_X9_givenOf ⟨Nat.le_of_ble_eq_true rfl, Nat.le_of_ble_eq_true rfl⟩ gm_g0 rfl rfl rfl hl.1 (Nat.zero_le _) dX9_give_28 ⟨Nat.le_of_ble_eq_true rfl, Nat.le_of_ble_eq_true rfl⟩ rfl (fun w' H locs hw hI => ?_)
      subst hw
      refine lv_istore_n (lv' := [(2, .int r12), (0, .ref (a 0)), (1, .int x1)]) hx hb dX9_give_31 rfl hl (by decide) rfl (fun ls hl => ?_)
      refine lv_aload_n hx hb dX9_give_32 rfl (lv_at hl 1 rfl) ?_
      refine gw_get (T := TX9) (k := 37) (v := .ref (a 32)) B hI gm_g0 rfl ly_X9_give_9 (by decide) m_X9_give_104 rfl rfl dX9_give_33 ?_
      refine lv_iload_n hx hb dX9_give_36 rfl (lv_at hl 2 rfl) ?_
      refine lv_iload_n hx hb dX9_give_37 rfl (lv_at hl 0 rfl) ?_
      refine lv_if_ge (tgt := 45) hx hb dX9_give_38 (by decide) (fun c14 => ?_) (fun c14 => ?_)
      · replace h := gw_ifT c14 h
        refine lv_iload_n hx hb dX9_give_45 rfl (lv_at hl 0 rfl) ?_
        exact hb46  r12 r12 x1 S10 h _ _ _ hI (lv_sub hl [0] rfl)
      · replace h := gw_ifF c14 h
        refine lv_iconst (v := -1) hx hb dX9_give_41 (by decide) ?_
        refine lv_goto (tgt := 46) hx hb dX9_give_42 (by decide) ?_
        exact hb46  r12 (-1 : Int32) x1 S10 h _ _ _ hI (lv_sub hl [0] rfl)
    · replace h := gw_ifT c9 h
      refine lv_bipush (v := -2) hx hb dX9_give_18 (by decide) ?_
      obtain ⟨h1, h2⟩ := Prod.mk.inj (Option.some.inj h)
      rw [h2] at hI
      rw [← h1]
      exact gw_iret (W' := (fun w => w = gw_mw cc a zS)) B hI rfl (Nat.zero_le _) (Nat.zero_le _) dX9_give_20
  · replace h := gw_ifT c6 h
    refine lv_iconst (v := -1) hx hb dX9_give_8 (by decide) ?_
    obtain ⟨h1, h2⟩ := Prod.mk.inj (Option.some.inj h)
    rw [h2] at hI
    rw [← h1]
    exact gw_iret (W' := (fun w => w = gw_mw cc a zS)) B hI rfl (Nat.zero_le _) (Nat.zero_le _) dX9_give_9
theorem m_X9_has_104 : Cond.fieldLink RX9 104 "GownLetModel" "had" "[I" ∈ wsX9_has := by decide +kernel
theorem ly_X9_has_9 : ∀ w ∈ wsX90, w ∈ wsX9_has := fun w h => List.mem_cons_of_mem _ (List.mem_append_right _ h)
set_option maxRecDepth 100000 in
set_option maxHeartbeats 4000000 in
theorem k_X9_has (x1 : Int32) (S : gw_S) {zr : Int32} (h : f_X9_has x1 S = some zr) : gw_M l yX9_has wsX9_has rm_X9_has 0 0 D (gw_ty cc) t1 t2 [.ref (a 0), .int x1] (gw_mw cc a S) (fun w => w = gw_mw cc a S) (some (.int zr)) := by
  refine gw_enter (cc := cX9_has) (maxL := 2) (ret := (some .int)) (own := RX9) rfl (by decide) rfl (Nat.le_of_ble_eq_true rfl) ?_
  intro p e s m below meth c A B hin hI ls hl
  have hl : lv_has ls 2 [(0, .ref (a 0)), (1, .int x1)] := hl
  generalize ([.ref (a 0), .int x1] : List Value).toArray = args at B ⊢
  have hx := B.1.1
  have hb := B.1.2.1
  have hown : s.vm.findClass RX9 = some m.cls := B.1.2.2.2.1
  have hts := B.1.2.2.2.2
  unfold f_X9_has at h
  refine lv_aload_n hx hb dX9_has_0 rfl (lv_at hl 0 rfl) ?_
  refine lv_iload_n hx hb dX9_has_1 rfl (lv_at hl 1 rfl) ?_
  obtain ⟨r1, e2, h⟩ := gw_bdE h
  refine gw_callV (As := [.int x1]) (n := 1) B hI (k_X9_isThere x1 S e2) gX9_has_X9_isThere rfl rfl rfl nd_X9_isThere ⟨Nat.le_of_ble_eq_true rfl, Nat.le_of_ble_eq_true rfl⟩ gm_g0 rfl rfl rfl hl.1 (Nat.zero_le _) dX9_has_2 ⟨Nat.le_of_ble_eq_true rfl, Nat.le_of_ble_eq_true rfl⟩ rfl (fun w' H locs hw hI => ?_)
  subst hw
  refine lv_if_ne (tgt := 12) hx hb dX9_has_5 (by decide) (fun c3 => ?_) (fun c3 => ?_)
  · replace h := gw_ifF c3 h
    refine lv_aload_n hx hb dX9_has_12 rfl (lv_at hl 0 rfl) ?_
    refine gw_get (T := TX9) (k := 37) (v := .ref (a 32)) B hI gm_g0 rfl ly_X9_has_9 (by decide) m_X9_has_104 rfl rfl dX9_has_13 ?_
    refine lv_iload_n hx hb dX9_has_16 rfl (lv_at hl 1 rfl) ?_
    obtain ⟨g4, h⟩ := gw_gdE h
    refine gw_iald (t0 := 0) B hI gm_g32 rfl g4 dX9_has_17 ?_
    refine lv_if_ge (tgt := 26) hx hb dX9_has_18 (by decide) (fun c5 => ?_) (fun c5 => ?_)
    · replace h := gw_ifT c5 h
      refine lv_aload_n hx hb dX9_has_26 rfl (lv_at hl 0 rfl) ?_
      refine gw_get (T := TX9) (k := 37) (v := .ref (a 32)) B hI gm_g0 rfl ly_X9_has_9 (by decide) m_X9_has_104 rfl rfl dX9_has_27 ?_
      refine lv_iload_n hx hb dX9_has_30 rfl (lv_at hl 1 rfl) ?_
      refine gw_iald (t0 := 0) B hI gm_g32 rfl g4 dX9_has_31 ?_
      rw [← Option.some.inj h]
      exact gw_iret (W' := (fun w => w = gw_mw cc a S)) B hI rfl (Nat.zero_le _) (Nat.zero_le _) dX9_has_32
    · replace h := gw_ifF c5 h
      refine lv_bipush (v := -4) hx hb dX9_has_21 (by decide) ?_
      refine lv_goto (tgt := 32) hx hb dX9_has_23 (by decide) ?_
      rw [← Option.some.inj h]
      exact gw_iret (W' := (fun w => w = gw_mw cc a S)) B hI rfl (Nat.zero_le _) (Nat.zero_le _) dX9_has_32
  · replace h := gw_ifT c3 h
    refine lv_iconst (v := -1) hx hb dX9_has_8 (by decide) ?_
    refine lv_goto (tgt := 32) hx hb dX9_has_9 (by decide) ?_
    rw [← Option.some.inj h]
    exact gw_iret (W' := (fun w => w = gw_mw cc a S)) B hI rfl (Nat.zero_le _) (Nat.zero_le _) dX9_has_32
set_option maxRecDepth 100000 in
set_option maxHeartbeats 4000000 in
theorem k_X9_free (x1 : Int32) (x2 : Int32) (S : gw_S) {zr : Int32} (h : f_X9_free x1 x2 S = some zr) : gw_M l yX9_free wsX9_free rm_X9_free 0 0 D (gw_ty cc) t1 t2 [.ref (a 0), .int x1, .int x2] (gw_mw cc a S) (fun w => w = gw_mw cc a S) (some (.int zr)) := by
  refine gw_enter (cc := cX9_free) (maxL := 3) (ret := (some .int)) (own := RX9) rfl (by decide) rfl (Nat.le_of_ble_eq_true rfl) ?_
  intro p e s m below meth c A B hin hI ls hl
  have hl : lv_has ls 3 [(0, .ref (a 0)), (1, .int x1), (2, .int x2)] := hl
  generalize ([.ref (a 0), .int x1, .int x2] : List Value).toArray = args at B ⊢
  have hx := B.1.1
  have hb := B.1.2.1
  have hown : s.vm.findClass RX9 = some m.cls := B.1.2.2.2.1
  have hts := B.1.2.2.2.2
  unfold f_X9_free at h
  refine lv_aload_n hx hb dX9_free_0 rfl (lv_at hl 0 rfl) ?_
  refine lv_iload_n hx hb dX9_free_1 rfl (lv_at hl 1 rfl) ?_
  obtain ⟨r1, e2, h⟩ := gw_bdE h
  refine gw_callV (As := [.int x1]) (n := 1) B hI (k_X9_isPiece x1 S e2) gX9_free_X9_isPiece rfl rfl rfl nd_X9_isPiece ⟨Nat.le_of_ble_eq_true rfl, Nat.le_of_ble_eq_true rfl⟩ gm_g0 rfl rfl rfl hl.1 (Nat.zero_le _) dX9_free_2 ⟨Nat.le_of_ble_eq_true rfl, Nat.le_of_ble_eq_true rfl⟩ rfl (fun w' H locs hw hI => ?_)
  subst hw
  refine lv_if_eq (tgt := 16) hx hb dX9_free_5 (by decide) (fun c3 => ?_) (fun c3 => ?_)
  · replace h := gw_ifT c3 h
    refine lv_iconst (v := -1) hx hb dX9_free_16 (by decide) ?_
    refine lv_goto (tgt := 34) hx hb dX9_free_17 (by decide) ?_
    rw [← Option.some.inj h]
    exact gw_iret (W' := (fun w => w = gw_mw cc a S)) B hI rfl (Nat.zero_le _) (Nat.zero_le _) dX9_free_34
  · replace h := gw_ifF c3 h
    refine lv_aload_n hx hb dX9_free_8 rfl (lv_at hl 0 rfl) ?_
    refine lv_iload_n hx hb dX9_free_9 rfl (lv_at hl 2 rfl) ?_
    obtain ⟨r4, e5, h⟩ := gw_bdE h
    refine gw_callV (As := [.int x2]) (n := 1) B hI (k_X9_isThere x2 S e5) gX9_free_X9_isThere rfl rfl rfl nd_X9_isThere ⟨Nat.le_of_ble_eq_true rfl, Nat.le_of_ble_eq_true rfl⟩ gm_g0 rfl rfl rfl hl.1 (Nat.zero_le _) dX9_free_10 ⟨Nat.le_of_ble_eq_true rfl, Nat.le_of_ble_eq_true rfl⟩ rfl (fun w' H locs hw hI => ?_)
    subst hw
    refine lv_if_ne (tgt := 20) hx hb dX9_free_13 (by decide) (fun c6 => ?_) (fun c6 => ?_)
    · replace h := gw_ifF c6 h
      refine lv_aload_n hx hb dX9_free_20 rfl (lv_at hl 0 rfl) ?_
      refine lv_iload_n hx hb dX9_free_21 rfl (lv_at hl 1 rfl) ?_
      refine lv_iload_n hx hb dX9_free_22 rfl (lv_at hl 2 rfl) ?_
      obtain ⟨r7, e8, h⟩ := gw_bdE h
      refine gw_callV (As := [.int x1, .int x2]) (n := 2) B hI (k_X9_isFree x1 x2 S e8) gX9_free_X9_isFree rfl rfl rfl nd_X9_isFree ⟨Nat.le_of_ble_eq_true rfl, Nat.le_of_ble_eq_true rfl⟩ gm_g0 rfl rfl rfl hl.1 (Nat.zero_le _) dX9_free_23 ⟨Nat.le_of_ble_eq_true rfl, Nat.le_of_ble_eq_true rfl⟩ rfl (fun w' H locs hw hI => ?_)
      subst hw
      refine lv_if_eq (tgt := 33) hx hb dX9_free_26 (by decide) (fun c9 => ?_) (fun c9 => ?_)
      · replace h := gw_ifT c9 h
        refine lv_iconst (v := 0) hx hb dX9_free_33 (by decide) ?_
        rw [← Option.some.inj h]
        exact gw_iret (W' := (fun w => w = gw_mw cc a S)) B hI rfl (Nat.zero_le _) (Nat.zero_le _) dX9_free_34
      · replace h := gw_ifF c9 h
        refine lv_iconst (v := 1) hx hb dX9_free_29 (by decide) ?_
        refine lv_goto (tgt := 34) hx hb dX9_free_30 (by decide) ?_
        rw [← Option.some.inj h]
        exact gw_iret (W' := (fun w => w = gw_mw cc a S)) B hI rfl (Nat.zero_le _) (Nat.zero_le _) dX9_free_34
    · replace h := gw_ifT c6 h
      refine lv_iconst (v := -1) hx hb dX9_free_16 (by decide) ?_
      refine lv_goto (tgt := 34) hx hb dX9_free_17 (by decide) ?_
      rw [← Option.some.inj h]
      exact gw_iret (W' := (fun w => w = gw_mw cc a S)) B hI rfl (Nat.zero_le _) (Nat.zero_le _) dX9_free_34
set_option maxRecDepth 100000 in
set_option maxHeartbeats 4000000 in
theorem k_X9_away (x1 : Int32) (x2 : Int32) (x3 : Int32) (S : gw_S) {zr : Int32} (h : f_X9_away x1 x2 x3 S = some zr) : gw_M l yX9_away wsX9_away rm_X9_away 0 0 D (gw_ty cc) t1 t2 [.ref (a 0), .int x1, .int x2, .int x3] (gw_mw cc a S) (fun w => w = gw_mw cc a S) (some (.int zr)) := by
  refine gw_enter (cc := cX9_away) (maxL := 4) (ret := (some .int)) (own := RX9) rfl (by decide) rfl (Nat.le_of_ble_eq_true rfl) ?_
  intro p e s m below meth c A B hin hI ls hl
  have hl : lv_has ls 4 [(0, .ref (a 0)), (1, .int x1), (2, .int x2), (3, .int x3)] := hl
  generalize ([.ref (a 0), .int x1, .int x2, .int x3] : List Value).toArray = args at B ⊢
  have hx := B.1.1
  have hb := B.1.2.1
  have hown : s.vm.findClass RX9 = some m.cls := B.1.2.2.2.1
  have hts := B.1.2.2.2.2
  unfold f_X9_away at h
  refine lv_aload_n hx hb dX9_away_0 rfl (lv_at hl 0 rfl) ?_
  refine lv_iload_n hx hb dX9_away_1 rfl (lv_at hl 1 rfl) ?_
  obtain ⟨r1, e2, h⟩ := gw_bdE h
  refine gw_callV (As := [.int x1]) (n := 1) B hI (k_X9_isPiece x1 S e2) gX9_away_X9_isPiece rfl rfl rfl nd_X9_isPiece ⟨Nat.le_of_ble_eq_true rfl, Nat.le_of_ble_eq_true rfl⟩ gm_g0 rfl rfl rfl hl.1 (Nat.zero_le _) dX9_away_2 ⟨Nat.le_of_ble_eq_true rfl, Nat.le_of_ble_eq_true rfl⟩ rfl (fun w' H locs hw hI => ?_)
  subst hw
  refine lv_if_eq (tgt := 26) hx hb dX9_away_5 (by decide) (fun c3 => ?_) (fun c3 => ?_)
  · replace h := gw_ifT c3 h
    refine lv_iconst (v := -1) hx hb dX9_away_26 (by decide) ?_
    rw [← Option.some.inj h]
    exact gw_iret (W' := (fun w => w = gw_mw cc a S)) B hI rfl (Nat.zero_le _) (Nat.zero_le _) dX9_away_27
  · replace h := gw_ifF c3 h
    refine lv_aload_n hx hb dX9_away_8 rfl (lv_at hl 0 rfl) ?_
    refine lv_iload_n hx hb dX9_away_9 rfl (lv_at hl 2 rfl) ?_
    obtain ⟨r4, e5, h⟩ := gw_bdE h
    refine gw_callV (As := [.int x2]) (n := 1) B hI (k_X9_isThere x2 S e5) gX9_away_X9_isThere rfl rfl rfl nd_X9_isThere ⟨Nat.le_of_ble_eq_true rfl, Nat.le_of_ble_eq_true rfl⟩ gm_g0 rfl rfl rfl hl.1 (Nat.zero_le _) dX9_away_10 ⟨Nat.le_of_ble_eq_true rfl, Nat.le_of_ble_eq_true rfl⟩ rfl (fun w' H locs hw hI => ?_)
    subst hw
    refine lv_if_eq (tgt := 26) hx hb dX9_away_13 (by decide) (fun c6 => ?_) (fun c6 => ?_)
    · replace h := gw_ifT c6 h
      refine lv_iconst (v := -1) hx hb dX9_away_26 (by decide) ?_
      rw [← Option.some.inj h]
      exact gw_iret (W' := (fun w => w = gw_mw cc a S)) B hI rfl (Nat.zero_le _) (Nat.zero_le _) dX9_away_27
    · replace h := gw_ifF c6 h
      refine lv_iload_n hx hb dX9_away_16 rfl (lv_at hl 3 rfl) ?_
      refine lv_i2l hx hb dX9_away_17 rfl ?_
      refine lv_lconst (v := 0) hx hb dX9_away_18 (by decide) ?_
      refine lv_lconst (v := 1) hx hb dX9_away_19 (by decide) ?_
      obtain ⟨r7, e8, h⟩ := gw_bdE h
      refine gw_callS (As := [.long (x3.toInt64), .long (0 : Int64), .long (1 : Int64)]) (n := 3) B hI (k_X9_in (x3.toInt64) (0 : Int64) (1 : Int64) S e8) gX9_away_X9_in rfl rfl rfl nds_X9_in ⟨Nat.le_of_ble_eq_true rfl, Nat.le_of_ble_eq_true rfl⟩ rfl hl.1 (Nat.zero_le _) dX9_away_20 ⟨Nat.le_of_ble_eq_true rfl, Nat.le_of_ble_eq_true rfl⟩ rfl (fun w' H locs hw hI => ?_)
      subst hw
      refine lv_if_ne (tgt := 28) hx hb dX9_away_23 (by decide) (fun c9 => ?_) (fun c9 => ?_)
      · replace h := gw_ifF c9 h
        refine lv_iload_n hx hb dX9_away_28 rfl (lv_at hl 3 rfl) ?_
        refine lv_if_ne (tgt := 41) hx hb dX9_away_29 (by decide) (fun c10 => ?_) (fun c10 => ?_)
        · replace h := gw_ifF c10 h
          refine lv_aload_n hx hb dX9_away_41 rfl (lv_at hl 0 rfl) ?_
          refine lv_iload_n hx hb dX9_away_42 rfl (lv_at hl 1 rfl) ?_
          refine lv_iload_n hx hb dX9_away_43 rfl (lv_at hl 2 rfl) ?_
          obtain ⟨r11, e12, h⟩ := gw_bdE h
          refine gw_callV (As := [.int x1, .int x2]) (n := 2) B hI (k_X9_lastAway x1 x2 S e12) gX9_away_X9_lastAway rfl rfl rfl nd_X9_lastAway ⟨Nat.le_of_ble_eq_true rfl, Nat.le_of_ble_eq_true rfl⟩ gm_g0 rfl rfl rfl hl.1 (Nat.zero_le _) dX9_away_44 ⟨Nat.le_of_ble_eq_true rfl, Nat.le_of_ble_eq_true rfl⟩ rfl (fun w' H locs hw hI => ?_)
          subst hw
          rw [← Option.some.inj h]
          exact gw_iret (W' := (fun w => w = gw_mw cc a S)) B hI rfl (Nat.zero_le _) (Nat.zero_le _) dX9_away_47
        · replace h := gw_ifT c10 h
          refine lv_aload_n hx hb dX9_away_32 rfl (lv_at hl 0 rfl) ?_
          refine lv_iload_n hx hb dX9_away_33 rfl (lv_at hl 1 rfl) ?_
          refine lv_iload_n hx hb dX9_away_34 rfl (lv_at hl 2 rfl) ?_
          obtain ⟨r13, e14, h⟩ := gw_bdE h
          refine gw_callV (As := [.int x1, .int x2]) (n := 2) B hI (k_X9_firstAway x1 x2 S e14) gX9_away_X9_firstAway rfl rfl rfl nd_X9_firstAway ⟨Nat.le_of_ble_eq_true rfl, Nat.le_of_ble_eq_true rfl⟩ gm_g0 rfl rfl rfl hl.1 (Nat.zero_le _) dX9_away_35 ⟨Nat.le_of_ble_eq_true rfl, Nat.le_of_ble_eq_true rfl⟩ rfl (fun w' H locs hw hI => ?_)
          subst hw
          refine lv_goto (tgt := 47) hx hb dX9_away_38 (by decide) ?_
          rw [← Option.some.inj h]
          exact gw_iret (W' := (fun w => w = gw_mw cc a S)) B hI rfl (Nat.zero_le _) (Nat.zero_le _) dX9_away_47
      · replace h := gw_ifT c9 h
        refine lv_iconst (v := -1) hx hb dX9_away_26 (by decide) ?_
        rw [← Option.some.inj h]
        exact gw_iret (W' := (fun w => w = gw_mw cc a S)) B hI rfl (Nat.zero_le _) (Nat.zero_le _) dX9_away_27
theorem m_X9_tear_104 : Cond.fieldLink RX9 104 "GownLetModel" "had" "[I" ∈ wsX9_tear := by decide +kernel
theorem m_X9_tear_107 : Cond.fieldLink RX9 107 "GownLetModel" "state" "[I" ∈ wsX9_tear := by decide +kernel
theorem m_X9_tear_257 : Cond.fieldLink RX9 257 "GownLetModel" "bookings" "I" ∈ wsX9_tear := by decide +kernel
theorem m_X9_tear_59 : Cond.fieldLink RX9 59 "GownLetModel" "isTorn" "[Z" ∈ wsX9_tear := by decide +kernel
theorem m_X9_tear_62 : Cond.fieldLink RX9 62 "GownLetModel" "tornFrom" "[I" ∈ wsX9_tear := by decide +kernel
theorem m_X9_tear_89 : Cond.fieldLink RX9 89 "GownLetModel" "nights" "[I" ∈ wsX9_tear := by decide +kernel
theorem ly_X9_tear_9 : ∀ w ∈ wsX90, w ∈ wsX9_tear := fun w h => List.mem_cons_of_mem _ (List.mem_append_right _ h)
set_option maxRecDepth 100000 in
set_option maxHeartbeats 4000000 in
theorem k_X9_tear (x1 : Int32) (x2 : Int32) (S : gw_S) {zr : Int32} {zS : gw_S} (h : f_X9_tear x1 x2 S = some (zr, zS)) : gw_M l yX9_tear wsX9_tear rm_X9_tear 0 0 D (gw_ty cc) t1 t2 [.ref (a 0), .int x1, .int x2] (gw_mw cc a S) (fun w => w = gw_mw cc a zS) (some (.int zr)) := by
  refine gw_enter (cc := cX9_tear) (maxL := 5) (ret := (some .int)) (own := RX9) rfl (by decide) rfl (Nat.le_of_ble_eq_true rfl) ?_
  intro p e s m below meth c A B hin hI ls hl
  have hl : lv_has ls 5 [(0, .ref (a 0)), (1, .int x1), (2, .int x2)] := hl
  generalize ([.ref (a 0), .int x1, .int x2] : List Value).toArray = args at B ⊢
  have hx := B.1.1
  have hb := B.1.2.1
  have hown : s.vm.findClass RX9 = some m.cls := B.1.2.2.2.1
  have hts := B.1.2.2.2.2
  have hb115 : ∀ (K63 : Int32 → Int32 → Int32 → Int32 → gw_S → Option (Int32 × gw_S)) (_ : ∀ (v1 : Int32) (v2 : Int32) (v3 : Int32) (v4 : Int32) (S : gw_S), K63 v1 v2 v3 v4 S = some (zr, zS) → ∀ (H : Heap) (locs : List Loc) (ls : Array Slot), gw_I D A s.heap (gw_mw cc a S) H locs → lv_has ls 5 [(0, .ref (a 0)), (1, .int v1), (2, .int v2), (3, .int v3), (4, .int v4)] → W p l e rm_X9_tear s m args below meth c H locs 0 0 (MQ below (gw_Q (some (.int zr)) (gw_Pst D A (fun w => w = gw_mw cc a zS)) A) args s 0 0 A) (F0 m 63 ls [])), ∀ (v1 : Int32) (v2 : Int32) (v3 : Int32) (v4 : Int32) (S : gw_S), f_X9_tear_b115 K63 v1 v2 v3 v4 S = some (zr, zS) → ∀ (H : Heap) (locs : List Loc) (ls : Array Slot), gw_I D A s.heap (gw_mw cc a S) H locs → lv_has ls 5 [(0, .ref (a 0)), (1, .int v1), (2, .int v2), (3, .int v3), (4, .int v4)] → W p l e rm_X9_tear s m args below meth c H locs 0 0 (MQ below (gw_Q (some (.int zr)) (gw_Pst D A (fun w => w = gw_mw cc a zS)) A) args s 0 0 A) (F0 m 115 ls []) := by
    intro K63 hK63
    intro v1 v2 v3 v4 S h H locs ls hI hl
    unfold f_X9_tear_b115 at h
    obtain ⟨y1, e2, h⟩ := gw_letE h
    refine lv_iinc (v := y1) (lv' := [(4, .int y1), (0, .ref (a 0)), (1, .int v1), (2, .int v2), (3, .int v3)]) hx hb dX9_tear_115 hl (k := 4) rfl (by rw [e2]; rfl) (by decide) rfl (fun ls hl => ?_)
    refine lv_goto (tgt := 63) hx hb dX9_tear_118 (by decide) ?_
    exact hK63 v1 v2 v3 y1 S h _ _ _ hI (lv_sub hl [1, 2, 3, 4, 0] rfl)
  have hb63 :  ∀ (n : Nat), ∀ (v1 : Int32) (v2 : Int32) (v3 : Int32) (v4 : Int32) (S : gw_S), f_X9_tear_b63  n v1 v2 v3 v4 S = some (zr, zS) → ∀ (H : Heap) (locs : List Loc) (ls : Array Slot), gw_I D A s.heap (gw_mw cc a S) H locs → lv_has ls 5 [(0, .ref (a 0)), (1, .int v1), (2, .int v2), (3, .int v3), (4, .int v4)] → W p l e rm_X9_tear s m args below meth c H locs 0 0 (MQ below (gw_Q (some (.int zr)) (gw_Pst D A (fun w => w = gw_mw cc a zS)) A) args s 0 0 A) (F0 m 63 ls []) := by
    intro n
    induction n with
    | zero =>
      intro v1 v2 v3 v4 S h
      cases h
    | succ n ih =>
      intro v1 v2 v3 v4 S h H locs ls hI hl
      unfold f_X9_tear_b63 at h
      refine lv_iload hx hb dX9_tear_63 (lv_at hl 4 rfl) ?_
      refine lv_aload_n hx hb dX9_tear_65 rfl (lv_at hl 0 rfl) ?_
      refine gw_get (T := TX9) (k := 29) (v := .int (S 0 29)) B hI gm_g0 rfl ly_X9_tear_9 (by decide) m_X9_tear_257 rfl rfl dX9_tear_66 ?_
      refine lv_icmp_ge (tgt := 121) hx hb dX9_tear_69 (by decide) (fun c3 => ?_) (fun c3 => ?_)
      · replace h := gw_ifT c3 h
        refine lv_iload_n hx hb dX9_tear_121 rfl (lv_at hl 3 rfl) ?_
        obtain ⟨h1, h2⟩ := Prod.mk.inj (Option.some.inj h)
        rw [h2] at hI
        rw [← h1]
        exact gw_iret (W' := (fun w => w = gw_mw cc a zS)) B hI rfl (Nat.zero_le _) (Nat.zero_le _) dX9_tear_122
      · replace h := gw_ifF c3 h
        refine lv_aload_n hx hb dX9_tear_72 rfl (lv_at hl 0 rfl) ?_
        refine gw_get (T := TX9) (k := 37) (v := .ref (a 32)) B hI gm_g0 rfl ly_X9_tear_9 (by decide) m_X9_tear_104 rfl rfl dX9_tear_73 ?_
        refine lv_iload hx hb dX9_tear_76 (lv_at hl 4 rfl) ?_
        obtain ⟨g4, h⟩ := gw_gdE h
        refine gw_iald (t0 := 0) B hI gm_g32 rfl g4 dX9_tear_78 ?_
        refine lv_iload_n hx hb dX9_tear_79 rfl (lv_at hl 1 rfl) ?_
        refine lv_icmp_ne (tgt := 115) hx hb dX9_tear_80 (by decide) (fun c5 => ?_) (fun c5 => ?_)
        · replace h := gw_ifF c5 h
          exact hb115 (f_X9_tear_b63  n) ih v1 v2 v3 v4 S h _ _ _ hI (lv_sub hl [0, 1, 2, 3, 4] rfl)
        · replace h := gw_ifT c5 h
          refine lv_aload_n hx hb dX9_tear_83 rfl (lv_at hl 0 rfl) ?_
          refine gw_get (T := TX9) (k := 32) (v := .ref (a 27)) B hI gm_g0 rfl ly_X9_tear_9 (by decide) m_X9_tear_89 rfl rfl dX9_tear_84 ?_
          refine lv_iload hx hb dX9_tear_87 (lv_at hl 4 rfl) ?_
          refine gw_iald (t0 := 0) B hI gm_g27 rfl g4 dX9_tear_89 ?_
          refine lv_iload_n hx hb dX9_tear_90 rfl (lv_at hl 2 rfl) ?_
          refine lv_icmp_lt (tgt := 115) hx hb dX9_tear_91 (by decide) (fun c6 => ?_) (fun c6 => ?_)
          · replace h := gw_ifT c6 h
            exact hb115 (f_X9_tear_b63  n) ih v1 v2 v3 v4 S h _ _ _ hI (lv_sub hl [0, 1, 2, 3, 4] rfl)
          · replace h := gw_ifF c6 h
            refine lv_aload_n hx hb dX9_tear_94 rfl (lv_at hl 0 rfl) ?_
            refine gw_get (T := TX9) (k := 38) (v := .ref (a 33)) B hI gm_g0 rfl ly_X9_tear_9 (by decide) m_X9_tear_107 rfl rfl dX9_tear_95 ?_
            refine lv_iload hx hb dX9_tear_98 (lv_at hl 4 rfl) ?_
            refine gw_iald (t0 := 0) B hI gm_g33 rfl g4 dX9_tear_100 ?_
            refine lv_if_ne (tgt := 115) hx hb dX9_tear_101 (by decide) (fun c7 => ?_) (fun c7 => ?_)
            · replace h := gw_ifF c7 h
              exact hb115 (f_X9_tear_b63  n) ih v1 v2 v3 v4 S h _ _ _ hI (lv_sub hl [0, 1, 2, 3, 4] rfl)
            · replace h := gw_ifT c7 h
              refine lv_aload_n hx hb dX9_tear_104 rfl (lv_at hl 0 rfl) ?_
              refine gw_get (T := TX9) (k := 37) (v := .ref (a 32)) B hI gm_g0 rfl ly_X9_tear_9 (by decide) m_X9_tear_104 rfl rfl dX9_tear_105 ?_
              refine lv_iload hx hb dX9_tear_108 (lv_at hl 4 rfl) ?_
              refine lv_iconst (v := -1) hx hb dX9_tear_110 (by decide) ?_
              obtain ⟨S8, e9, h⟩ := gw_letE h
              refine gw_iast (t0 := 0) (w' := gw_mw cc a S8) B hI gm_g32 rfl g4 (gm_s32 e9) dX9_tear_111 (fun H locs hI => ?_)
              obtain ⟨y10, e11, h⟩ := gw_letE h
              refine lv_iinc (v := y10) (lv' := [(3, .int y10), (0, .ref (a 0)), (1, .int v1), (2, .int v2), (4, .int v4)]) hx hb dX9_tear_112 hl (k := 3) rfl (by rw [e11]; rfl) (by decide) rfl (fun ls hl => ?_)
              exact hb115 (f_X9_tear_b63  n) ih v1 v2 y10 v4 S8 h _ _ _ hI (lv_sub hl [1, 2, 3, 0, 4] rfl)
  have hb44 :  ∀ (v1 : Int32) (v2 : Int32) (S : gw_S), f_X9_tear_b44  v1 v2 S = some (zr, zS) → ∀ (H : Heap) (locs : List Loc) (ls : Array Slot), gw_I D A s.heap (gw_mw cc a S) H locs → lv_has ls 5 [(0, .ref (a 0)), (1, .int v1), (2, .int v2)] → W p l e rm_X9_tear s m args below meth c H locs 0 0 (MQ below (gw_Q (some (.int zr)) (gw_Pst D A (fun w => w = gw_mw cc a zS)) A) args s 0 0 A) (F0 m 44 ls []) := by
    intro v1 v2 S h H locs ls hI hl
    unfold f_X9_tear_b44 at h
    refine lv_aload_n hx hb dX9_tear_44 rfl (lv_at hl 0 rfl) ?_
    refine gw_get (T := TX9) (k := 19) (v := .ref (a 17)) B hI gm_g0 rfl ly_X9_tear_9 (by decide) m_X9_tear_59 rfl rfl dX9_tear_45 ?_
    refine lv_iload_n hx hb dX9_tear_48 rfl (lv_at hl 1 rfl) ?_
    refine lv_iconst (v := 1) hx hb dX9_tear_49 (by decide) ?_
    obtain ⟨g12, h⟩ := gw_gdE h
    obtain ⟨S13, e14, h⟩ := gw_letE h
    refine gw_zast (t0 := 2) (w' := gw_mw cc a S13) B hI gm_g17 rfl g12 (gm_s17 e14) dX9_tear_50 (fun H locs hI => ?_)
    refine lv_aload_n hx hb dX9_tear_51 rfl (lv_at hl 0 rfl) ?_
    refine gw_get (T := TX9) (k := 20) (v := .ref (a 18)) B hI gm_g0 rfl ly_X9_tear_9 (by decide) m_X9_tear_62 rfl rfl dX9_tear_52 ?_
    refine lv_iload_n hx hb dX9_tear_55 rfl (lv_at hl 1 rfl) ?_
    refine lv_iload_n hx hb dX9_tear_56 rfl (lv_at hl 2 rfl) ?_
    obtain ⟨S15, e16, h⟩ := gw_letE h
    refine gw_iast (t0 := 0) (w' := gw_mw cc a S15) B hI gm_g18 rfl g12 (gm_s18 e16) dX9_tear_57 (fun H locs hI => ?_)
    refine lv_iconst (v := 0) hx hb dX9_tear_58 (by decide) ?_
    refine lv_istore_n (lv' := [(3, .int (0 : Int32)), (0, .ref (a 0)), (1, .int v1), (2, .int v2)]) hx hb dX9_tear_59 rfl hl (by decide) rfl (fun ls hl => ?_)
    refine lv_iconst (v := 0) hx hb dX9_tear_60 (by decide) ?_
    refine lv_istore (lv' := [(4, .int (0 : Int32)), (3, .int (0 : Int32)), (0, .ref (a 0)), (1, .int v1), (2, .int v2)]) hx hb dX9_tear_61 hl (by decide) rfl (fun ls hl => ?_)
    exact hb63  gw_F v1 v2 (0 : Int32) (0 : Int32) S15 h _ _ _ hI (lv_sub hl [2, 3, 4, 1, 0] rfl)
  unfold f_X9_tear at h
  refine lv_aload_n hx hb dX9_tear_0 rfl (lv_at hl 0 rfl) ?_
  refine lv_iload_n hx hb dX9_tear_1 rfl (lv_at hl 1 rfl) ?_
  obtain ⟨r17, e18, h⟩ := gw_bdE h
  refine gw_callV (As := [.int x1]) (n := 1) B hI (k_X9_isPiece x1 S e18) gX9_tear_X9_isPiece rfl rfl rfl nd_X9_isPiece ⟨Nat.le_of_ble_eq_true rfl, Nat.le_of_ble_eq_true rfl⟩ gm_g0 rfl rfl rfl hl.1 (Nat.zero_le _) dX9_tear_2 ⟨Nat.le_of_ble_eq_true rfl, Nat.le_of_ble_eq_true rfl⟩ rfl (fun w' H locs hw hI => ?_)
  subst hw
  refine lv_if_eq (tgt := 20) hx hb dX9_tear_5 (by decide) (fun c19 => ?_) (fun c19 => ?_)
  · replace h := gw_ifT c19 h
    refine lv_iconst (v := -1) hx hb dX9_tear_20 (by decide) ?_
    obtain ⟨h1, h2⟩ := Prod.mk.inj (Option.some.inj h)
    rw [h2] at hI
    rw [← h1]
    exact gw_iret (W' := (fun w => w = gw_mw cc a zS)) B hI rfl (Nat.zero_le _) (Nat.zero_le _) dX9_tear_21
  · replace h := gw_ifF c19 h
    refine lv_iload_n hx hb dX9_tear_8 rfl (lv_at hl 2 rfl) ?_
    refine lv_i2l hx hb dX9_tear_9 rfl ?_
    refine lv_lconst (v := 0) hx hb dX9_tear_10 (by decide) ?_
    refine lv_ldc2 (v := 399) hx hb hown (hts (.constantLong RX9 251 (399)) (by decide +kernel)) dX9_tear_11 ?_
    obtain ⟨r20, e21, h⟩ := gw_bdE h
    refine gw_callS (As := [.long (x2.toInt64), .long (0 : Int64), .long (399 : Int64)]) (n := 3) B hI (k_X9_in (x2.toInt64) (0 : Int64) (399 : Int64) S e21) gX9_tear_X9_in rfl rfl rfl nds_X9_in ⟨Nat.le_of_ble_eq_true rfl, Nat.le_of_ble_eq_true rfl⟩ rfl hl.1 (Nat.zero_le _) dX9_tear_14 ⟨Nat.le_of_ble_eq_true rfl, Nat.le_of_ble_eq_true rfl⟩ rfl (fun w' H locs hw hI => ?_)
    subst hw
    refine lv_if_ne (tgt := 22) hx hb dX9_tear_17 (by decide) (fun c22 => ?_) (fun c22 => ?_)
    · replace h := gw_ifF c22 h
      refine lv_aload_n hx hb dX9_tear_22 rfl (lv_at hl 0 rfl) ?_
      refine gw_get (T := TX9) (k := 19) (v := .ref (a 17)) B hI gm_g0 rfl ly_X9_tear_9 (by decide) m_X9_tear_59 rfl rfl dX9_tear_23 ?_
      refine lv_iload_n hx hb dX9_tear_26 rfl (lv_at hl 1 rfl) ?_
      obtain ⟨g23, h⟩ := gw_gdE h
      refine gw_zald (t0 := 2) B hI gm_g17 rfl g23 dX9_tear_27 ?_
      refine lv_if_eq (tgt := 44) hx hb dX9_tear_28 (by decide) (fun c24 => ?_) (fun c24 => ?_)
      · replace h := gw_ifT c24 h
        exact hb44  x1 x2 S h _ _ _ hI (lv_sub hl [0, 1, 2] rfl)
      · replace h := gw_ifF c24 h
        refine lv_aload_n hx hb dX9_tear_31 rfl (lv_at hl 0 rfl) ?_
        refine gw_get (T := TX9) (k := 20) (v := .ref (a 18)) B hI gm_g0 rfl ly_X9_tear_9 (by decide) m_X9_tear_62 rfl rfl dX9_tear_32 ?_
        refine lv_iload_n hx hb dX9_tear_35 rfl (lv_at hl 1 rfl) ?_
        refine gw_iald (t0 := 0) B hI gm_g18 rfl g23 dX9_tear_36 ?_
        refine lv_iload_n hx hb dX9_tear_37 rfl (lv_at hl 2 rfl) ?_
        refine lv_icmp_gt (tgt := 44) hx hb dX9_tear_38 (by decide) (fun c25 => ?_) (fun c25 => ?_)
        · replace h := gw_ifT c25 h
          exact hb44  x1 x2 S h _ _ _ hI (lv_sub hl [0, 1, 2] rfl)
        · replace h := gw_ifF c25 h
          refine lv_bipush (v := -2) hx hb dX9_tear_41 (by decide) ?_
          obtain ⟨h1, h2⟩ := Prod.mk.inj (Option.some.inj h)
          rw [h2] at hI
          rw [← h1]
          exact gw_iret (W' := (fun w => w = gw_mw cc a zS)) B hI rfl (Nat.zero_le _) (Nat.zero_le _) dX9_tear_43
    · replace h := gw_ifT c22 h
      refine lv_iconst (v := -1) hx hb dX9_tear_20 (by decide) ?_
      obtain ⟨h1, h2⟩ := Prod.mk.inj (Option.some.inj h)
      rw [h2] at hI
      rw [← h1]
      exact gw_iret (W' := (fun w => w = gw_mw cc a zS)) B hI rfl (Nat.zero_le _) (Nat.zero_le _) dX9_tear_21
theorem m_X9_mend_59 : Cond.fieldLink RX9 59 "GownLetModel" "isTorn" "[Z" ∈ wsX9_mend := by decide +kernel
theorem ly_X9_mend_9 : ∀ w ∈ wsX90, w ∈ wsX9_mend := fun w h => List.mem_cons_of_mem _ (List.mem_append_right _ h)
set_option maxRecDepth 100000 in
set_option maxHeartbeats 4000000 in
theorem k_X9_mend (x1 : Int32) (S : gw_S) {zr : Int32} {zS : gw_S} (h : f_X9_mend x1 S = some (zr, zS)) : gw_M l yX9_mend wsX9_mend rm_X9_mend 0 0 D (gw_ty cc) t1 t2 [.ref (a 0), .int x1] (gw_mw cc a S) (fun w => w = gw_mw cc a zS) (some (.int zr)) := by
  refine gw_enter (cc := cX9_mend) (maxL := 2) (ret := (some .int)) (own := RX9) rfl (by decide) rfl (Nat.le_of_ble_eq_true rfl) ?_
  intro p e s m below meth c A B hin hI ls hl
  have hl : lv_has ls 2 [(0, .ref (a 0)), (1, .int x1)] := hl
  generalize ([.ref (a 0), .int x1] : List Value).toArray = args at B ⊢
  have hx := B.1.1
  have hb := B.1.2.1
  have hown : s.vm.findClass RX9 = some m.cls := B.1.2.2.2.1
  have hts := B.1.2.2.2.2
  unfold f_X9_mend at h
  refine lv_aload_n hx hb dX9_mend_0 rfl (lv_at hl 0 rfl) ?_
  refine lv_iload_n hx hb dX9_mend_1 rfl (lv_at hl 1 rfl) ?_
  obtain ⟨r1, e2, h⟩ := gw_bdE h
  refine gw_callV (As := [.int x1]) (n := 1) B hI (k_X9_isPiece x1 S e2) gX9_mend_X9_isPiece rfl rfl rfl nd_X9_isPiece ⟨Nat.le_of_ble_eq_true rfl, Nat.le_of_ble_eq_true rfl⟩ gm_g0 rfl rfl rfl hl.1 (Nat.zero_le _) dX9_mend_2 ⟨Nat.le_of_ble_eq_true rfl, Nat.le_of_ble_eq_true rfl⟩ rfl (fun w' H locs hw hI => ?_)
  subst hw
  refine lv_if_ne (tgt := 10) hx hb dX9_mend_5 (by decide) (fun c3 => ?_) (fun c3 => ?_)
  · replace h := gw_ifF c3 h
    refine lv_aload_n hx hb dX9_mend_10 rfl (lv_at hl 0 rfl) ?_
    refine gw_get (T := TX9) (k := 19) (v := .ref (a 17)) B hI gm_g0 rfl ly_X9_mend_9 (by decide) m_X9_mend_59 rfl rfl dX9_mend_11 ?_
    refine lv_iload_n hx hb dX9_mend_14 rfl (lv_at hl 1 rfl) ?_
    obtain ⟨g4, h⟩ := gw_gdE h
    refine gw_zald (t0 := 2) B hI gm_g17 rfl g4 dX9_mend_15 ?_
    refine lv_if_ne (tgt := 22) hx hb dX9_mend_16 (by decide) (fun c5 => ?_) (fun c5 => ?_)
    · replace h := gw_ifF c5 h
      refine lv_aload_n hx hb dX9_mend_22 rfl (lv_at hl 0 rfl) ?_
      refine gw_get (T := TX9) (k := 19) (v := .ref (a 17)) B hI gm_g0 rfl ly_X9_mend_9 (by decide) m_X9_mend_59 rfl rfl dX9_mend_23 ?_
      refine lv_iload_n hx hb dX9_mend_26 rfl (lv_at hl 1 rfl) ?_
      refine lv_iconst (v := 0) hx hb dX9_mend_27 (by decide) ?_
      obtain ⟨S6, e7, h⟩ := gw_letE h
      refine gw_zast (t0 := 2) (w' := gw_mw cc a S6) B hI gm_g17 rfl g4 (gm_s17 e7) dX9_mend_28 (fun H locs hI => ?_)
      refine lv_iconst (v := 1) hx hb dX9_mend_29 (by decide) ?_
      obtain ⟨h1, h2⟩ := Prod.mk.inj (Option.some.inj h)
      rw [h2] at hI
      rw [← h1]
      exact gw_iret (W' := (fun w => w = gw_mw cc a zS)) B hI rfl (Nat.zero_le _) (Nat.zero_le _) dX9_mend_30
    · replace h := gw_ifT c5 h
      refine lv_bipush (v := -2) hx hb dX9_mend_19 (by decide) ?_
      obtain ⟨h1, h2⟩ := Prod.mk.inj (Option.some.inj h)
      rw [h2] at hI
      rw [← h1]
      exact gw_iret (W' := (fun w => w = gw_mw cc a zS)) B hI rfl (Nat.zero_le _) (Nat.zero_le _) dX9_mend_21
  · replace h := gw_ifT c3 h
    refine lv_iconst (v := -1) hx hb dX9_mend_8 (by decide) ?_
    obtain ⟨h1, h2⟩ := Prod.mk.inj (Option.some.inj h)
    rw [h2] at hI
    rw [← h1]
    exact gw_iret (W' := (fun w => w = gw_mw cc a zS)) B hI rfl (Nat.zero_le _) (Nat.zero_le _) dX9_mend_9
theorem m_X9_fromWhom_107 : Cond.fieldLink RX9 107 "GownLetModel" "state" "[I" ∈ wsX9_fromWhom := by decide +kernel
theorem m_X9_fromWhom_83 : Cond.fieldLink RX9 83 "GownLetModel" "bodies" "[I" ∈ wsX9_fromWhom := by decide +kernel
theorem m_X9_fromWhom_86 : Cond.fieldLink RX9 86 "GownLetModel" "wanted" "[I" ∈ wsX9_fromWhom := by decide +kernel
theorem ly_X9_fromWhom_9 : ∀ w ∈ wsX90, w ∈ wsX9_fromWhom := fun w h => List.mem_cons_of_mem _ (List.mem_append_right _ h)
set_option maxRecDepth 100000 in
set_option maxHeartbeats 4000000 in
theorem k_X9_fromWhom (x1 : Int32) (x2 : Int32) (S : gw_S) {zr : Int32} (h : f_X9_fromWhom x1 x2 S = some zr) : gw_M l yX9_fromWhom wsX9_fromWhom rm_X9_fromWhom 0 0 D (gw_ty cc) t1 t2 [.ref (a 0), .int x1, .int x2] (gw_mw cc a S) (fun w => w = gw_mw cc a S) (some (.int zr)) := by
  refine gw_enter (cc := cX9_fromWhom) (maxL := 4) (ret := (some .int)) (own := RX9) rfl (by decide) rfl (Nat.le_of_ble_eq_true rfl) ?_
  intro p e s m below meth c A B hin hI ls hl
  have hl : lv_has ls 4 [(0, .ref (a 0)), (1, .int x1), (2, .int x2)] := hl
  generalize ([.ref (a 0), .int x1, .int x2] : List Value).toArray = args at B ⊢
  have hx := B.1.1
  have hb := B.1.2.1
  have hown : s.vm.findClass RX9 = some m.cls := B.1.2.2.2.1
  have hts := B.1.2.2.2.2
  unfold f_X9_fromWhom at h
  refine lv_aload_n hx hb dX9_fromWhom_0 rfl (lv_at hl 0 rfl) ?_
  refine lv_iload_n hx hb dX9_fromWhom_1 rfl (lv_at hl 1 rfl) ?_
  refine lv_aload_n hx hb dX9_fromWhom_2 rfl (lv_at hl 0 rfl) ?_
  refine gw_get (T := TX9) (k := 30) (v := .ref (a 25)) B hI gm_g0 rfl ly_X9_fromWhom_9 (by decide) m_X9_fromWhom_83 rfl rfl dX9_fromWhom_3 ?_
  refine lv_iload_n hx hb dX9_fromWhom_6 rfl (lv_at hl 2 rfl) ?_
  obtain ⟨g1, h⟩ := gw_gdE h
  refine gw_iald (t0 := 0) B hI gm_g25 rfl g1 dX9_fromWhom_7 ?_
  refine lv_aload_n hx hb dX9_fromWhom_8 rfl (lv_at hl 0 rfl) ?_
  refine gw_get (T := TX9) (k := 31) (v := .ref (a 26)) B hI gm_g0 rfl ly_X9_fromWhom_9 (by decide) m_X9_fromWhom_86 rfl rfl dX9_fromWhom_9 ?_
  refine lv_iload_n hx hb dX9_fromWhom_12 rfl (lv_at hl 2 rfl) ?_
  refine gw_iald (t0 := 0) B hI gm_g26 rfl g1 dX9_fromWhom_13 ?_
  obtain ⟨r2, e3, h⟩ := gw_bdE h
  refine gw_callV (As := [.int x1, .int (S 25 x2.toNatClampNeg), .int (S 26 x2.toNatClampNeg)]) (n := 3) B hI (k_X9_fitOf x1 (S 25 x2.toNatClampNeg) (S 26 x2.toNatClampNeg) S e3) gX9_fromWhom_X9_fitOf rfl rfl rfl nd_X9_fitOf ⟨Nat.le_of_ble_eq_true rfl, Nat.le_of_ble_eq_true rfl⟩ gm_g0 rfl rfl rfl hl.1 (Nat.zero_le _) dX9_fromWhom_14 ⟨Nat.le_of_ble_eq_true rfl, Nat.le_of_ble_eq_true rfl⟩ rfl (fun w' H locs hw hI => ?_)
  subst hw
  refine lv_iconst (v := 2) hx hb dX9_fromWhom_17 (by decide) ?_
  refine lv_icmp_ne (tgt := 30) hx hb dX9_fromWhom_18 (by decide) (fun c4 => ?_) (fun c4 => ?_)
  · replace h := gw_ifF c4 h
    refine lv_iconst (v := -1) hx hb dX9_fromWhom_30 (by decide) ?_
    rw [← Option.some.inj h]
    exact gw_iret (W' := (fun w => w = gw_mw cc a S)) B hI rfl (Nat.zero_le _) (Nat.zero_le _) dX9_fromWhom_31
  · replace h := gw_ifT c4 h
    refine lv_aload_n hx hb dX9_fromWhom_21 rfl (lv_at hl 0 rfl) ?_
    refine lv_iload_n hx hb dX9_fromWhom_22 rfl (lv_at hl 1 rfl) ?_
    refine lv_iload_n hx hb dX9_fromWhom_23 rfl (lv_at hl 2 rfl) ?_
    obtain ⟨r5, e6, h⟩ := gw_bdE h
    refine gw_callV (As := [.int x1, .int x2]) (n := 2) B hI (k_X9_isWell x1 x2 S e6) gX9_fromWhom_X9_isWell rfl rfl rfl nd_X9_isWell ⟨Nat.le_of_ble_eq_true rfl, Nat.le_of_ble_eq_true rfl⟩ gm_g0 rfl rfl rfl hl.1 (Nat.zero_le _) dX9_fromWhom_24 ⟨Nat.le_of_ble_eq_true rfl, Nat.le_of_ble_eq_true rfl⟩ rfl (fun w' H locs hw hI => ?_)
    subst hw
    refine lv_if_ne (tgt := 32) hx hb dX9_fromWhom_27 (by decide) (fun c7 => ?_) (fun c7 => ?_)
    · replace h := gw_ifF c7 h
      refine lv_aload_n hx hb dX9_fromWhom_32 rfl (lv_at hl 0 rfl) ?_
      refine lv_iload_n hx hb dX9_fromWhom_33 rfl (lv_at hl 1 rfl) ?_
      refine lv_iload_n hx hb dX9_fromWhom_34 rfl (lv_at hl 2 rfl) ?_
      obtain ⟨r8, e9, h⟩ := gw_bdE h
      refine gw_callV (As := [.int x1, .int x2]) (n := 2) B hI (k_X9_holderOf x1 x2 S e9) gX9_fromWhom_X9_holderOf rfl rfl rfl nd_X9_holderOf ⟨Nat.le_of_ble_eq_true rfl, Nat.le_of_ble_eq_true rfl⟩ gm_g0 rfl rfl rfl hl.1 (Nat.zero_le _) dX9_fromWhom_35 ⟨Nat.le_of_ble_eq_true rfl, Nat.le_of_ble_eq_true rfl⟩ rfl (fun w' H locs hw hI => ?_)
      subst hw
      refine lv_istore_n (lv' := [(3, .int r8), (0, .ref (a 0)), (1, .int x1), (2, .int x2)]) hx hb dX9_fromWhom_38 rfl hl (by decide) rfl (fun ls hl => ?_)
      refine lv_iload_n hx hb dX9_fromWhom_39 rfl (lv_at hl 0 rfl) ?_
      refine lv_if_lt (tgt := 56) hx hb dX9_fromWhom_40 (by decide) (fun c10 => ?_) (fun c10 => ?_)
      · replace h := gw_ifT c10 h
        refine lv_iconst (v := -1) hx hb dX9_fromWhom_56 (by decide) ?_
        rw [← Option.some.inj h]
        exact gw_iret (W' := (fun w => w = gw_mw cc a S)) B hI rfl (Nat.zero_le _) (Nat.zero_le _) dX9_fromWhom_57
      · replace h := gw_ifF c10 h
        refine lv_aload_n hx hb dX9_fromWhom_43 rfl (lv_at hl 1 rfl) ?_
        refine gw_get (T := TX9) (k := 38) (v := .ref (a 33)) B hI gm_g0 rfl ly_X9_fromWhom_9 (by decide) m_X9_fromWhom_107 rfl rfl dX9_fromWhom_44 ?_
        refine lv_iload_n hx hb dX9_fromWhom_47 rfl (lv_at hl 0 rfl) ?_
        obtain ⟨g11, h⟩ := gw_gdE h
        refine gw_iald (t0 := 0) B hI gm_g33 rfl g11 dX9_fromWhom_48 ?_
        refine lv_if_ne (tgt := 56) hx hb dX9_fromWhom_49 (by decide) (fun c12 => ?_) (fun c12 => ?_)
        · replace h := gw_ifF c12 h
          refine lv_iconst (v := -1) hx hb dX9_fromWhom_56 (by decide) ?_
          rw [← Option.some.inj h]
          exact gw_iret (W' := (fun w => w = gw_mw cc a S)) B hI rfl (Nat.zero_le _) (Nat.zero_le _) dX9_fromWhom_57
        · replace h := gw_ifT c12 h
          refine lv_iload_n hx hb dX9_fromWhom_52 rfl (lv_at hl 0 rfl) ?_
          refine lv_goto (tgt := 57) hx hb dX9_fromWhom_53 (by decide) ?_
          rw [← Option.some.inj h]
          exact gw_iret (W' := (fun w => w = gw_mw cc a S)) B hI rfl (Nat.zero_le _) (Nat.zero_le _) dX9_fromWhom_57
    · replace h := gw_ifT c7 h
      refine lv_iconst (v := -1) hx hb dX9_fromWhom_30 (by decide) ?_
      rw [← Option.some.inj h]
      exact gw_iret (W' := (fun w => w = gw_mw cc a S)) B hI rfl (Nat.zero_le _) (Nat.zero_le _) dX9_fromWhom_31
theorem m_X9_findFar_125 : Cond.fieldLink RX9 125 "GownLetModel" "far" "[I" ∈ wsX9_findFar := by decide +kernel
theorem m_X9_findFar_203 : Cond.fieldLink RX9 203 "GownLetModel" "pieces" "I" ∈ wsX9_findFar := by decide +kernel
theorem m_X9_findFar_257 : Cond.fieldLink RX9 257 "GownLetModel" "bookings" "I" ∈ wsX9_findFar := by decide +kernel
theorem ly_X9_findFar_9 : ∀ w ∈ wsX90, w ∈ wsX9_findFar := fun w h => List.mem_cons_of_mem _ (List.mem_append_right _ h)
set_option maxRecDepth 100000 in
set_option maxHeartbeats 4000000 in
theorem k_X9_findFar  (S : gw_S)  {zS : gw_S} (h : f_X9_findFar  S = some zS) : gw_M l yX9_findFar wsX9_findFar rm_X9_findFar 0 0 D (gw_ty cc) t1 t2 [.ref (a 0)] (gw_mw cc a S) (fun w => w = gw_mw cc a zS) none := by
  refine gw_enter (cc := cX9_findFar) (maxL := 5) (ret := none) (own := RX9) rfl (by decide) rfl (Nat.le_of_ble_eq_true rfl) ?_
  intro p e s m below meth c A B hin hI ls hl
  have hl : lv_has ls 5 [(0, .ref (a 0))] := hl
  generalize ([.ref (a 0)] : List Value).toArray = args at B ⊢
  have hx := B.1.1
  have hb := B.1.2.1
  have hown : s.vm.findClass RX9 = some m.cls := B.1.2.2.2.1
  have hts := B.1.2.2.2.2
  have hb128 : ∀ (K40 : Int32 → gw_S → Option (gw_S)) (_ : ∀ (v1 : Int32) (S : gw_S), K40 v1 S = some zS → ∀ (H : Heap) (locs : List Loc) (ls : Array Slot), gw_I D A s.heap (gw_mw cc a S) H locs → lv_has ls 5 [(0, .ref (a 0)), (1, .int v1)] → W p l e rm_X9_findFar s m args below meth c H locs 0 0 (MQ below (gw_Q none (gw_Pst D A (fun w => w = gw_mw cc a zS)) A) args s 0 0 A) (F0 m 40 ls [])), ∀ (K48 : Int32 → Int32 → gw_S → Option (gw_S)) (_ : ∀ (v1 : Int32) (v2 : Int32) (S : gw_S), K48 v1 v2 S = some zS → ∀ (H : Heap) (locs : List Loc) (ls : Array Slot), gw_I D A s.heap (gw_mw cc a S) H locs → lv_has ls 5 [(0, .ref (a 0)), (1, .int v1), (2, .int v2)] → W p l e rm_X9_findFar s m args below meth c H locs 0 0 (MQ below (gw_Q none (gw_Pst D A (fun w => w = gw_mw cc a zS)) A) args s 0 0 A) (F0 m 48 ls [])), ∀ (K58 : Int32 → Int32 → Int32 → gw_S → Option (gw_S)) (_ : ∀ (v1 : Int32) (v2 : Int32) (v3 : Int32) (S : gw_S), K58 v1 v2 v3 S = some zS → ∀ (H : Heap) (locs : List Loc) (ls : Array Slot), gw_I D A s.heap (gw_mw cc a S) H locs → lv_has ls 5 [(0, .ref (a 0)), (1, .int v1), (2, .int v2), (3, .int v3)] → W p l e rm_X9_findFar s m args below meth c H locs 0 0 (MQ below (gw_Q none (gw_Pst D A (fun w => w = gw_mw cc a zS)) A) args s 0 0 A) (F0 m 58 ls [])), ∀ (v1 : Int32) (v2 : Int32) (v3 : Int32) (S : gw_S), f_X9_findFar_b128 K40 K48 K58 v1 v2 v3 S = some zS → ∀ (H : Heap) (locs : List Loc) (ls : Array Slot), gw_I D A s.heap (gw_mw cc a S) H locs → lv_has ls 5 [(0, .ref (a 0)), (1, .int v1), (2, .int v2), (3, .int v3)] → W p l e rm_X9_findFar s m args below meth c H locs 0 0 (MQ below (gw_Q none (gw_Pst D A (fun w => w = gw_mw cc a zS)) A) args s 0 0 A) (F0 m 128 ls []) := by
    intro K40 hK40 K48 hK48 K58 hK58
    intro v1 v2 v3 S h H locs ls hI hl
    unfold f_X9_findFar_b128 at h
    obtain ⟨y1, e2, h⟩ := gw_letE h
    refine lv_iinc (v := y1) (lv' := [(3, .int y1), (0, .ref (a 0)), (1, .int v1), (2, .int v2)]) hx hb dX9_findFar_128 hl (k := 3) rfl (by rw [e2]; rfl) (by decide) rfl (fun ls hl => ?_)
    refine lv_goto (tgt := 58) hx hb dX9_findFar_131 (by decide) ?_
    exact hK58 v1 v2 y1 S h _ _ _ hI (lv_sub hl [1, 2, 3, 0] rfl)
  have hb86 : ∀ (K40 : Int32 → gw_S → Option (gw_S)) (_ : ∀ (v1 : Int32) (S : gw_S), K40 v1 S = some zS → ∀ (H : Heap) (locs : List Loc) (ls : Array Slot), gw_I D A s.heap (gw_mw cc a S) H locs → lv_has ls 5 [(0, .ref (a 0)), (1, .int v1)] → W p l e rm_X9_findFar s m args below meth c H locs 0 0 (MQ below (gw_Q none (gw_Pst D A (fun w => w = gw_mw cc a zS)) A) args s 0 0 A) (F0 m 40 ls [])), ∀ (K48 : Int32 → Int32 → gw_S → Option (gw_S)) (_ : ∀ (v1 : Int32) (v2 : Int32) (S : gw_S), K48 v1 v2 S = some zS → ∀ (H : Heap) (locs : List Loc) (ls : Array Slot), gw_I D A s.heap (gw_mw cc a S) H locs → lv_has ls 5 [(0, .ref (a 0)), (1, .int v1), (2, .int v2)] → W p l e rm_X9_findFar s m args below meth c H locs 0 0 (MQ below (gw_Q none (gw_Pst D A (fun w => w = gw_mw cc a zS)) A) args s 0 0 A) (F0 m 48 ls [])), ∀ (K58 : Int32 → Int32 → Int32 → gw_S → Option (gw_S)) (_ : ∀ (v1 : Int32) (v2 : Int32) (v3 : Int32) (S : gw_S), K58 v1 v2 v3 S = some zS → ∀ (H : Heap) (locs : List Loc) (ls : Array Slot), gw_I D A s.heap (gw_mw cc a S) H locs → lv_has ls 5 [(0, .ref (a 0)), (1, .int v1), (2, .int v2), (3, .int v3)] → W p l e rm_X9_findFar s m args below meth c H locs 0 0 (MQ below (gw_Q none (gw_Pst D A (fun w => w = gw_mw cc a zS)) A) args s 0 0 A) (F0 m 58 ls [])), ∀ (v1 : Int32) (v2 : Int32) (v3 : Int32) (t0_ : Int32) (S : gw_S), f_X9_findFar_b86 K40 K48 K58 v1 v2 v3 t0_ S = some zS → ∀ (H : Heap) (locs : List Loc) (ls : Array Slot), gw_I D A s.heap (gw_mw cc a S) H locs → lv_has ls 5 [(0, .ref (a 0)), (1, .int v1), (2, .int v2), (3, .int v3)] → W p l e rm_X9_findFar s m args below meth c H locs 0 0 (MQ below (gw_Q none (gw_Pst D A (fun w => w = gw_mw cc a zS)) A) args s 0 0 A) (F0 m 86 ls [.int t0_]) := by
    intro K40 hK40 K48 hK48 K58 hK58
    intro v1 v2 v3 t0_ S h H locs ls hI hl
    unfold f_X9_findFar_b86 at h
    refine lv_istore (lv' := [(4, .int t0_), (0, .ref (a 0)), (1, .int v1), (2, .int v2), (3, .int v3)]) hx hb dX9_findFar_86 hl (by decide) rfl (fun ls hl => ?_)
    refine lv_iload hx hb dX9_findFar_88 (lv_at hl 0 rfl) ?_
    refine lv_if_lt (tgt := 128) hx hb dX9_findFar_90 (by decide) (fun c3 => ?_) (fun c3 => ?_)
    · replace h := gw_ifT c3 h
      exact hb128 K40 hK40 K48 hK48 K58 hK58 v1 v2 v3 S h _ _ _ hI (lv_sub hl [1, 2, 3, 4] rfl)
    · replace h := gw_ifF c3 h
      refine lv_aload_n hx hb dX9_findFar_93 rfl (lv_at hl 1 rfl) ?_
      refine gw_get (T := TX9) (k := 44) (v := .ref (a 39)) B hI gm_g0 rfl ly_X9_findFar_9 (by decide) m_X9_findFar_125 rfl rfl dX9_findFar_94 ?_
      refine lv_iload hx hb dX9_findFar_97 (lv_at hl 0 rfl) ?_
      obtain ⟨g4, h⟩ := gw_gdE h
      refine gw_iald (t0 := 0) B hI gm_g39 rfl g4 dX9_findFar_99 ?_
      refine lv_iconst (v := 1) hx hb dX9_findFar_100 (by decide) ?_
      refine lv_iadd hx hb dX9_findFar_101 ?_
      refine lv_aload_n hx hb dX9_findFar_102 rfl (lv_at hl 1 rfl) ?_
      refine gw_get (T := TX9) (k := 44) (v := .ref (a 39)) B hI gm_g0 rfl ly_X9_findFar_9 (by decide) m_X9_findFar_125 rfl rfl dX9_findFar_103 ?_
      refine lv_iload_n hx hb dX9_findFar_106 rfl (lv_at hl 3 rfl) ?_
      obtain ⟨g5, h⟩ := gw_gdE h
      refine gw_iald (t0 := 0) B hI gm_g39 rfl g5 dX9_findFar_107 ?_
      refine lv_icmp_ge (tgt := 128) hx hb dX9_findFar_108 (by decide) (fun c6 => ?_) (fun c6 => ?_)
      · replace h := gw_ifT c6 h
        exact hb128 K40 hK40 K48 hK48 K58 hK58 v1 v2 v3 S h _ _ _ hI (lv_sub hl [1, 2, 3, 4] rfl)
      · replace h := gw_ifF c6 h
        refine lv_aload_n hx hb dX9_findFar_111 rfl (lv_at hl 1 rfl) ?_
        refine gw_get (T := TX9) (k := 44) (v := .ref (a 39)) B hI gm_g0 rfl ly_X9_findFar_9 (by decide) m_X9_findFar_125 rfl rfl dX9_findFar_112 ?_
        refine lv_iload_n hx hb dX9_findFar_115 rfl (lv_at hl 3 rfl) ?_
        refine lv_aload_n hx hb dX9_findFar_116 rfl (lv_at hl 1 rfl) ?_
        refine gw_get (T := TX9) (k := 44) (v := .ref (a 39)) B hI gm_g0 rfl ly_X9_findFar_9 (by decide) m_X9_findFar_125 rfl rfl dX9_findFar_117 ?_
        refine lv_iload hx hb dX9_findFar_120 (lv_at hl 0 rfl) ?_
        refine gw_iald (t0 := 0) B hI gm_g39 rfl g4 dX9_findFar_122 ?_
        refine lv_iconst (v := 1) hx hb dX9_findFar_123 (by decide) ?_
        refine lv_iadd hx hb dX9_findFar_124 ?_
        obtain ⟨S7, e8, h⟩ := gw_letE h
        refine gw_iast (t0 := 0) (w' := gw_mw cc a S7) B hI gm_g39 rfl g5 (gm_s39 e8) dX9_findFar_125 (fun H locs hI => ?_)
        refine lv_iconst (v := 1) hx hb dX9_findFar_126 (by decide) ?_
        refine lv_istore_n (lv' := [(1, .int (1 : Int32)), (4, .int t0_), (0, .ref (a 0)), (2, .int v2), (3, .int v3)]) hx hb dX9_findFar_127 rfl hl (by decide) rfl (fun ls hl => ?_)
        exact hb128 K40 hK40 K48 hK48 K58 hK58 (1 : Int32) v2 v3 S7 h _ _ _ hI (lv_sub hl [2, 0, 3, 4] rfl)
  have hb58 : ∀ (K40 : Int32 → gw_S → Option (gw_S)) (_ : ∀ (v1 : Int32) (S : gw_S), K40 v1 S = some zS → ∀ (H : Heap) (locs : List Loc) (ls : Array Slot), gw_I D A s.heap (gw_mw cc a S) H locs → lv_has ls 5 [(0, .ref (a 0)), (1, .int v1)] → W p l e rm_X9_findFar s m args below meth c H locs 0 0 (MQ below (gw_Q none (gw_Pst D A (fun w => w = gw_mw cc a zS)) A) args s 0 0 A) (F0 m 40 ls [])), ∀ (K48 : Int32 → Int32 → gw_S → Option (gw_S)) (_ : ∀ (v1 : Int32) (v2 : Int32) (S : gw_S), K48 v1 v2 S = some zS → ∀ (H : Heap) (locs : List Loc) (ls : Array Slot), gw_I D A s.heap (gw_mw cc a S) H locs → lv_has ls 5 [(0, .ref (a 0)), (1, .int v1), (2, .int v2)] → W p l e rm_X9_findFar s m args below meth c H locs 0 0 (MQ below (gw_Q none (gw_Pst D A (fun w => w = gw_mw cc a zS)) A) args s 0 0 A) (F0 m 48 ls [])), ∀ (n : Nat), ∀ (v1 : Int32) (v2 : Int32) (v3 : Int32) (S : gw_S), f_X9_findFar_b58 K40 K48 n v1 v2 v3 S = some zS → ∀ (H : Heap) (locs : List Loc) (ls : Array Slot), gw_I D A s.heap (gw_mw cc a S) H locs → lv_has ls 5 [(0, .ref (a 0)), (1, .int v1), (2, .int v2), (3, .int v3)] → W p l e rm_X9_findFar s m args below meth c H locs 0 0 (MQ below (gw_Q none (gw_Pst D A (fun w => w = gw_mw cc a zS)) A) args s 0 0 A) (F0 m 58 ls []) := by
    intro K40 hK40 K48 hK48
    intro n
    induction n with
    | zero =>
      intro v1 v2 v3 S h
      cases h
    | succ n ih =>
      intro v1 v2 v3 S h H locs ls hI hl
      unfold f_X9_findFar_b58 at h
      refine lv_iload_n hx hb dX9_findFar_58 rfl (lv_at hl 3 rfl) ?_
      refine lv_aload_n hx hb dX9_findFar_59 rfl (lv_at hl 0 rfl) ?_
      refine gw_get (T := TX9) (k := 8) (v := .int (S 0 8)) B hI gm_g0 rfl ly_X9_findFar_9 (by decide) m_X9_findFar_203 rfl rfl dX9_findFar_60 ?_
      refine lv_icmp_ge (tgt := 134) hx hb dX9_findFar_63 (by decide) (fun c9 => ?_) (fun c9 => ?_)
      · replace h := gw_ifT c9 h
        obtain ⟨y10, e11, h⟩ := gw_letE h
        refine lv_iinc (v := y10) (lv' := [(2, .int y10), (0, .ref (a 0)), (1, .int v1), (3, .int v3)]) hx hb dX9_findFar_134 hl (k := 2) rfl (by rw [e11]; rfl) (by decide) rfl (fun ls hl => ?_)
        refine lv_goto (tgt := 48) hx hb dX9_findFar_137 (by decide) ?_
        exact hK48 v1 y10 S h _ _ _ hI (lv_sub hl [1, 2, 0] rfl)
      · replace h := gw_ifF c9 h
        refine lv_aload_n hx hb dX9_findFar_66 rfl (lv_at hl 0 rfl) ?_
        refine gw_get (T := TX9) (k := 44) (v := .ref (a 39)) B hI gm_g0 rfl ly_X9_findFar_9 (by decide) m_X9_findFar_125 rfl rfl dX9_findFar_67 ?_
        refine lv_iload_n hx hb dX9_findFar_70 rfl (lv_at hl 2 rfl) ?_
        obtain ⟨g12, h⟩ := gw_gdE h
        refine gw_iald (t0 := 0) B hI gm_g39 rfl g12 dX9_findFar_71 ?_
        refine lv_iconst (v := 1) hx hb dX9_findFar_72 (by decide) ?_
        refine lv_icmp_le (tgt := 85) hx hb dX9_findFar_73 (by decide) (fun c13 => ?_) (fun c13 => ?_)
        · replace h := gw_ifT c13 h
          refine lv_iconst (v := -1) hx hb dX9_findFar_85 (by decide) ?_
          exact hb86 K40 hK40 K48 hK48 (f_X9_findFar_b58 K40 K48 n) ih v1 v2 v3 (-1 : Int32) S h _ _ _ hI (lv_sub hl [0, 1, 2, 3] rfl)
        · replace h := gw_ifF c13 h
          refine lv_aload_n hx hb dX9_findFar_76 rfl (lv_at hl 0 rfl) ?_
          refine lv_iload_n hx hb dX9_findFar_77 rfl (lv_at hl 3 rfl) ?_
          refine lv_iload_n hx hb dX9_findFar_78 rfl (lv_at hl 2 rfl) ?_
          obtain ⟨r14, e15, h⟩ := gw_bdE h
          refine gw_callV (As := [.int v3, .int v2]) (n := 2) B hI (k_X9_fromWhom v3 v2 S e15) gX9_findFar_X9_fromWhom rfl rfl rfl nd_X9_fromWhom ⟨Nat.le_of_ble_eq_true rfl, Nat.le_of_ble_eq_true rfl⟩ gm_g0 rfl rfl rfl hl.1 (Nat.zero_le _) dX9_findFar_79 ⟨Nat.le_of_ble_eq_true rfl, Nat.le_of_ble_eq_true rfl⟩ rfl (fun w' H locs hw hI => ?_)
          subst hw
          refine lv_goto (tgt := 86) hx hb dX9_findFar_82 (by decide) ?_
          exact hb86 K40 hK40 K48 hK48 (f_X9_findFar_b58 K40 K48 n) ih v1 v2 v3 r14 S h _ _ _ hI (lv_sub hl [0, 1, 2, 3] rfl)
  have hb48 : ∀ (K40 : Int32 → gw_S → Option (gw_S)) (_ : ∀ (v1 : Int32) (S : gw_S), K40 v1 S = some zS → ∀ (H : Heap) (locs : List Loc) (ls : Array Slot), gw_I D A s.heap (gw_mw cc a S) H locs → lv_has ls 5 [(0, .ref (a 0)), (1, .int v1)] → W p l e rm_X9_findFar s m args below meth c H locs 0 0 (MQ below (gw_Q none (gw_Pst D A (fun w => w = gw_mw cc a zS)) A) args s 0 0 A) (F0 m 40 ls [])), ∀ (n : Nat), ∀ (v1 : Int32) (v2 : Int32) (S : gw_S), f_X9_findFar_b48 K40 n v1 v2 S = some zS → ∀ (H : Heap) (locs : List Loc) (ls : Array Slot), gw_I D A s.heap (gw_mw cc a S) H locs → lv_has ls 5 [(0, .ref (a 0)), (1, .int v1), (2, .int v2)] → W p l e rm_X9_findFar s m args below meth c H locs 0 0 (MQ below (gw_Q none (gw_Pst D A (fun w => w = gw_mw cc a zS)) A) args s 0 0 A) (F0 m 48 ls []) := by
    intro K40 hK40
    intro n
    induction n with
    | zero =>
      intro v1 v2 S h
      cases h
    | succ n ih =>
      intro v1 v2 S h H locs ls hI hl
      unfold f_X9_findFar_b48 at h
      refine lv_iload_n hx hb dX9_findFar_48 rfl (lv_at hl 2 rfl) ?_
      refine lv_aload_n hx hb dX9_findFar_49 rfl (lv_at hl 0 rfl) ?_
      refine gw_get (T := TX9) (k := 29) (v := .int (S 0 29)) B hI gm_g0 rfl ly_X9_findFar_9 (by decide) m_X9_findFar_257 rfl rfl dX9_findFar_50 ?_
      refine lv_icmp_ge (tgt := 140) hx hb dX9_findFar_53 (by decide) (fun c16 => ?_) (fun c16 => ?_)
      · replace h := gw_ifT c16 h
        refine lv_goto (tgt := 40) hx hb dX9_findFar_140 (by decide) ?_
        exact hK40 v1 S h _ _ _ hI (lv_sub hl [0, 1] rfl)
      · replace h := gw_ifF c16 h
        refine lv_iconst (v := 0) hx hb dX9_findFar_56 (by decide) ?_
        refine lv_istore_n (lv' := [(3, .int (0 : Int32)), (0, .ref (a 0)), (1, .int v1), (2, .int v2)]) hx hb dX9_findFar_57 rfl hl (by decide) rfl (fun ls hl => ?_)
        exact hb58 K40 hK40 (f_X9_findFar_b48 K40 n) ih gw_F v1 v2 (0 : Int32) S h _ _ _ hI (lv_sub hl [1, 2, 3, 0] rfl)
  have hb40 :  ∀ (n : Nat), ∀ (v1 : Int32) (S : gw_S), f_X9_findFar_b40  n v1 S = some zS → ∀ (H : Heap) (locs : List Loc) (ls : Array Slot), gw_I D A s.heap (gw_mw cc a S) H locs → lv_has ls 5 [(0, .ref (a 0)), (1, .int v1)] → W p l e rm_X9_findFar s m args below meth c H locs 0 0 (MQ below (gw_Q none (gw_Pst D A (fun w => w = gw_mw cc a zS)) A) args s 0 0 A) (F0 m 40 ls []) := by
    intro n
    induction n with
    | zero =>
      intro v1 S h
      cases h
    | succ n ih =>
      intro v1 S h H locs ls hI hl
      unfold f_X9_findFar_b40 at h
      refine lv_iload_n hx hb dX9_findFar_40 rfl (lv_at hl 1 rfl) ?_
      refine lv_if_eq (tgt := 143) hx hb dX9_findFar_41 (by decide) (fun c17 => ?_) (fun c17 => ?_)
      · replace h := gw_ifT c17 h
        rw [Option.some.inj h] at hI
        exact gw_vret (W' := (fun w => w = gw_mw cc a zS)) B hI rfl (Nat.zero_le _) (Nat.zero_le _) dX9_findFar_143
      · replace h := gw_ifF c17 h
        refine lv_iconst (v := 0) hx hb dX9_findFar_44 (by decide) ?_
        refine lv_istore_n (lv' := [(1, .int (0 : Int32)), (0, .ref (a 0))]) hx hb dX9_findFar_45 rfl hl (by decide) rfl (fun ls hl => ?_)
        refine lv_iconst (v := 0) hx hb dX9_findFar_46 (by decide) ?_
        refine lv_istore_n (lv' := [(2, .int (0 : Int32)), (1, .int (0 : Int32)), (0, .ref (a 0))]) hx hb dX9_findFar_47 rfl hl (by decide) rfl (fun ls hl => ?_)
        exact hb48 (f_X9_findFar_b40  n) ih gw_F (0 : Int32) (0 : Int32) S h _ _ _ hI (lv_sub hl [2, 1, 0] rfl)
  have hb31 : ∀ (K2 : Int32 → gw_S → Option (gw_S)) (_ : ∀ (v1 : Int32) (S : gw_S), K2 v1 S = some zS → ∀ (H : Heap) (locs : List Loc) (ls : Array Slot), gw_I D A s.heap (gw_mw cc a S) H locs → lv_has ls 5 [(0, .ref (a 0)), (1, .int v1)] → W p l e rm_X9_findFar s m args below meth c H locs 0 0 (MQ below (gw_Q none (gw_Pst D A (fun w => w = gw_mw cc a zS)) A) args s 0 0 A) (F0 m 2 ls [])), ∀ (v1 : Int32) (t0_ : Int32) (t1_ : Int32) (S : gw_S), f_X9_findFar_b31 K2 v1 t0_ t1_ S = some zS → ∀ (H : Heap) (locs : List Loc) (ls : Array Slot), gw_I D A s.heap (gw_mw cc a S) H locs → lv_has ls 5 [(0, .ref (a 0)), (1, .int v1)] → W p l e rm_X9_findFar s m args below meth c H locs 0 0 (MQ below (gw_Q none (gw_Pst D A (fun w => w = gw_mw cc a zS)) A) args s 0 0 A) (F0 m 31 ls [.int t0_, .int t1_, .ref (a 39)]) := by
    intro K2 hK2
    intro v1 t0_ t1_ S h H locs ls hI hl
    unfold f_X9_findFar_b31 at h
    obtain ⟨g18, h⟩ := gw_gdE h
    obtain ⟨S19, e20, h⟩ := gw_letE h
    refine gw_iast (t0 := 0) (w' := gw_mw cc a S19) B hI gm_g39 rfl g18 (gm_s39 e20) dX9_findFar_31 (fun H locs hI => ?_)
    obtain ⟨y21, e22, h⟩ := gw_letE h
    refine lv_iinc (v := y21) (lv' := [(1, .int y21), (0, .ref (a 0))]) hx hb dX9_findFar_32 hl (k := 1) rfl (by rw [e22]; rfl) (by decide) rfl (fun ls hl => ?_)
    refine lv_goto (tgt := 2) hx hb dX9_findFar_35 (by decide) ?_
    exact hK2 y21 S19 h _ _ _ hI (lv_sub hl [1, 0] rfl)
  have hb2 :  ∀ (n : Nat), ∀ (v1 : Int32) (S : gw_S), f_X9_findFar_b2  n v1 S = some zS → ∀ (H : Heap) (locs : List Loc) (ls : Array Slot), gw_I D A s.heap (gw_mw cc a S) H locs → lv_has ls 5 [(0, .ref (a 0)), (1, .int v1)] → W p l e rm_X9_findFar s m args below meth c H locs 0 0 (MQ below (gw_Q none (gw_Pst D A (fun w => w = gw_mw cc a zS)) A) args s 0 0 A) (F0 m 2 ls []) := by
    intro n
    induction n with
    | zero =>
      intro v1 S h
      cases h
    | succ n ih =>
      intro v1 S h H locs ls hI hl
      unfold f_X9_findFar_b2 at h
      refine lv_iload_n hx hb dX9_findFar_2 rfl (lv_at hl 1 rfl) ?_
      refine lv_aload_n hx hb dX9_findFar_3 rfl (lv_at hl 0 rfl) ?_
      refine gw_get (T := TX9) (k := 29) (v := .int (S 0 29)) B hI gm_g0 rfl ly_X9_findFar_9 (by decide) m_X9_findFar_257 rfl rfl dX9_findFar_4 ?_
      refine lv_icmp_ge (tgt := 38) hx hb dX9_findFar_7 (by decide) (fun c23 => ?_) (fun c23 => ?_)
      · replace h := gw_ifT c23 h
        refine lv_iconst (v := 1) hx hb dX9_findFar_38 (by decide) ?_
        refine lv_istore_n (lv' := [(1, .int (1 : Int32)), (0, .ref (a 0))]) hx hb dX9_findFar_39 rfl hl (by decide) rfl (fun ls hl => ?_)
        exact hb40  gw_F (1 : Int32) S h _ _ _ hI (lv_sub hl [1, 0] rfl)
      · replace h := gw_ifF c23 h
        refine lv_aload_n hx hb dX9_findFar_10 rfl (lv_at hl 0 rfl) ?_
        refine gw_get (T := TX9) (k := 44) (v := .ref (a 39)) B hI gm_g0 rfl ly_X9_findFar_9 (by decide) m_X9_findFar_125 rfl rfl dX9_findFar_11 ?_
        refine lv_iload_n hx hb dX9_findFar_14 rfl (lv_at hl 1 rfl) ?_
        refine lv_aload_n hx hb dX9_findFar_15 rfl (lv_at hl 0 rfl) ?_
        refine lv_iload_n hx hb dX9_findFar_16 rfl (lv_at hl 1 rfl) ?_
        refine lv_iconst (v := -1) hx hb dX9_findFar_17 (by decide) ?_
        obtain ⟨r24, e25, h⟩ := gw_bdE h
        refine gw_callV (As := [.int v1, .int (-1 : Int32)]) (n := 2) B hI (k_X9_givenOf v1 (-1 : Int32) S e25) gX9_findFar_X9_givenOf rfl rfl rfl nd_X9_givenOf ⟨Nat.le_of_ble_eq_true rfl, Nat.le_of_ble_eq_true rfl⟩ gm_g0 rfl rfl rfl hl.1 (by simp [gw_catq, gw_cI, gw_cR, gw_cL]) dX9_findFar_18 ⟨Nat.le_of_ble_eq_true rfl, Nat.le_of_ble_eq_true rfl⟩ rfl (fun w' H locs hw hI => ?_)
        subst hw
        refine lv_if_lt (tgt := 28) hx hb dX9_findFar_21 (by decide) (fun c26 => ?_) (fun c26 => ?_)
        · replace h := gw_ifT c26 h
          refine lv_sipush (v := 1000) hx hb dX9_findFar_28 (by decide) ?_
          exact hb31 (f_X9_findFar_b2  n) ih v1 (1000 : Int32) v1 S h _ _ _ hI (lv_sub hl [0, 1] rfl)
        · replace h := gw_ifF c26 h
          refine lv_iconst (v := 1) hx hb dX9_findFar_24 (by decide) ?_
          refine lv_goto (tgt := 31) hx hb dX9_findFar_25 (by decide) ?_
          exact hb31 (f_X9_findFar_b2  n) ih v1 (1 : Int32) v1 S h _ _ _ hI (lv_sub hl [0, 1] rfl)
  unfold f_X9_findFar at h
  refine lv_iconst (v := 0) hx hb dX9_findFar_0 (by decide) ?_
  refine lv_istore_n (lv' := [(1, .int (0 : Int32)), (0, .ref (a 0))]) hx hb dX9_findFar_1 rfl hl (by decide) rfl (fun ls hl => ?_)
  exact hb2  gw_F (0 : Int32) S h _ _ _ hI (lv_sub hl [1, 0] rfl)
theorem m_X9_isInChain_128 : Cond.fieldLink RX9 128 "GownLetModel" "chain" "[I" ∈ wsX9_isInChain := by decide +kernel
theorem ly_X9_isInChain_9 : ∀ w ∈ wsX90, w ∈ wsX9_isInChain := fun w h => List.mem_cons_of_mem _ (List.mem_append_right _ h)
set_option maxRecDepth 100000 in
set_option maxHeartbeats 4000000 in
theorem k_X9_isInChain (x1 : Int32) (x2 : Int32) (S : gw_S) {zr : Int32} (h : f_X9_isInChain x1 x2 S = some zr) : gw_M l yX9_isInChain wsX9_isInChain rm_X9_isInChain 0 0 D (gw_ty cc) t1 t2 [.ref (a 0), .int x1, .int x2] (gw_mw cc a S) (fun w => w = gw_mw cc a S) (some (.int zr)) := by
  refine gw_enter (cc := cX9_isInChain) (maxL := 5) (ret := (some .boolean)) (own := RX9) rfl (by decide) rfl (Nat.le_of_ble_eq_true rfl) ?_
  intro p e s m below meth c A B hin hI ls hl
  have hl : lv_has ls 5 [(0, .ref (a 0)), (1, .int x1), (2, .int x2)] := hl
  generalize ([.ref (a 0), .int x1, .int x2] : List Value).toArray = args at B ⊢
  have hx := B.1.1
  have hb := B.1.2.1
  have hown : s.vm.findClass RX9 = some m.cls := B.1.2.2.2.1
  have hts := B.1.2.2.2.2
  have hb31 : ∀ (K5 : Int32 → Int32 → Int32 → Int32 → Option (Int32)) (_ : ∀ (v1 : Int32) (v2 : Int32) (v3 : Int32) (v4 : Int32), K5 v1 v2 v3 v4 = some zr → ∀ (H : Heap) (locs : List Loc) (ls : Array Slot), gw_I D A s.heap (gw_mw cc a S) H locs → lv_has ls 5 [(0, .ref (a 0)), (1, .int v1), (2, .int v2), (3, .int v3), (4, .int v4)] → W p l e rm_X9_isInChain s m args below meth c H locs 0 0 (MQ below (gw_Q (some (.int zr)) (gw_Pst D A (fun w => w = gw_mw cc a S)) A) args s 0 0 A) (F0 m 5 ls [])), ∀ (v1 : Int32) (v2 : Int32) (v4 : Int32) (t0_ : Int32), f_X9_isInChain_b31 S K5 v1 v2 v4 t0_ = some zr → ∀ (H : Heap) (locs : List Loc) (ls : Array Slot), gw_I D A s.heap (gw_mw cc a S) H locs → lv_has ls 5 [(0, .ref (a 0)), (1, .int v1), (2, .int v2), (4, .int v4)] → W p l e rm_X9_isInChain s m args below meth c H locs 0 0 (MQ below (gw_Q (some (.int zr)) (gw_Pst D A (fun w => w = gw_mw cc a S)) A) args s 0 0 A) (F0 m 31 ls [.int t0_]) := by
    intro K5 hK5
    intro v1 v2 v4 t0_ h H locs ls hI hl
    unfold f_X9_isInChain_b31 at h
    refine lv_istore_n (lv' := [(3, .int t0_), (0, .ref (a 0)), (1, .int v1), (2, .int v2), (4, .int v4)]) hx hb dX9_isInChain_31 rfl hl (by decide) rfl (fun ls hl => ?_)
    obtain ⟨y1, e2, h⟩ := gw_letE h
    refine lv_iinc (v := y1) (lv' := [(4, .int y1), (3, .int t0_), (0, .ref (a 0)), (1, .int v1), (2, .int v2)]) hx hb dX9_isInChain_32 hl (k := 4) rfl (by rw [e2]; rfl) (by decide) rfl (fun ls hl => ?_)
    refine lv_goto (tgt := 5) hx hb dX9_isInChain_35 (by decide) ?_
    exact hK5 v1 v2 t0_ y1 h _ _ _ hI (lv_sub hl [2, 3, 4, 1, 0] rfl)
  have hb26 : ∀ (K5 : Int32 → Int32 → Int32 → Int32 → Option (Int32)) (_ : ∀ (v1 : Int32) (v2 : Int32) (v3 : Int32) (v4 : Int32), K5 v1 v2 v3 v4 = some zr → ∀ (H : Heap) (locs : List Loc) (ls : Array Slot), gw_I D A s.heap (gw_mw cc a S) H locs → lv_has ls 5 [(0, .ref (a 0)), (1, .int v1), (2, .int v2), (3, .int v3), (4, .int v4)] → W p l e rm_X9_isInChain s m args below meth c H locs 0 0 (MQ below (gw_Q (some (.int zr)) (gw_Pst D A (fun w => w = gw_mw cc a S)) A) args s 0 0 A) (F0 m 5 ls [])), ∀ (v1 : Int32) (v2 : Int32) (v4 : Int32), f_X9_isInChain_b26 S K5 v1 v2 v4 = some zr → ∀ (H : Heap) (locs : List Loc) (ls : Array Slot), gw_I D A s.heap (gw_mw cc a S) H locs → lv_has ls 5 [(0, .ref (a 0)), (1, .int v1), (2, .int v2), (4, .int v4)] → W p l e rm_X9_isInChain s m args below meth c H locs 0 0 (MQ below (gw_Q (some (.int zr)) (gw_Pst D A (fun w => w = gw_mw cc a S)) A) args s 0 0 A) (F0 m 26 ls []) := by
    intro K5 hK5
    intro v1 v2 v4 h H locs ls hI hl
    unfold f_X9_isInChain_b26 at h
    refine lv_iconst (v := 1) hx hb dX9_isInChain_26 (by decide) ?_
    refine lv_goto (tgt := 31) hx hb dX9_isInChain_27 (by decide) ?_
    exact hb31 K5 hK5 v1 v2 v4 (1 : Int32) h _ _ _ hI (lv_sub hl [0, 1, 2, 3] rfl)
  have hb5 :  ∀ (n : Nat), ∀ (v1 : Int32) (v2 : Int32) (v3 : Int32) (v4 : Int32), f_X9_isInChain_b5 S  n v1 v2 v3 v4 = some zr → ∀ (H : Heap) (locs : List Loc) (ls : Array Slot), gw_I D A s.heap (gw_mw cc a S) H locs → lv_has ls 5 [(0, .ref (a 0)), (1, .int v1), (2, .int v2), (3, .int v3), (4, .int v4)] → W p l e rm_X9_isInChain s m args below meth c H locs 0 0 (MQ below (gw_Q (some (.int zr)) (gw_Pst D A (fun w => w = gw_mw cc a S)) A) args s 0 0 A) (F0 m 5 ls []) := by
    intro n
    induction n with
    | zero =>
      intro v1 v2 v3 v4 h
      cases h
    | succ n ih =>
      intro v1 v2 v3 v4 h H locs ls hI hl
      unfold f_X9_isInChain_b5 at h
      refine lv_iload hx hb dX9_isInChain_5 (lv_at hl 4 rfl) ?_
      refine lv_iload_n hx hb dX9_isInChain_7 rfl (lv_at hl 2 rfl) ?_
      refine lv_icmp_gt (tgt := 38) hx hb dX9_isInChain_8 (by decide) (fun c3 => ?_) (fun c3 => ?_)
      · replace h := gw_ifT c3 h
        refine lv_iload_n hx hb dX9_isInChain_38 rfl (lv_at hl 3 rfl) ?_
        obtain ⟨g4, h⟩ := gw_gdE h
        rw [← Option.some.inj h]
        exact gw_zret (W' := (fun w => w = gw_mw cc a S)) B hI rfl g4 (Nat.zero_le _) (Nat.zero_le _) dX9_isInChain_39
      · replace h := gw_ifF c3 h
        refine lv_iload_n hx hb dX9_isInChain_11 rfl (lv_at hl 3 rfl) ?_
        refine lv_if_ne (tgt := 26) hx hb dX9_isInChain_12 (by decide) (fun c5 => ?_) (fun c5 => ?_)
        · replace h := gw_ifF c5 h
          exact hb26 (f_X9_isInChain_b5 S  n) ih v1 v2 v4 h _ _ _ hI (lv_sub hl [0, 1, 2, 4] rfl)
        · replace h := gw_ifT c5 h
          refine lv_aload_n hx hb dX9_isInChain_15 rfl (lv_at hl 0 rfl) ?_
          refine gw_get (T := TX9) (k := 45) (v := .ref (a 40)) B hI gm_g0 rfl ly_X9_isInChain_9 (by decide) m_X9_isInChain_128 rfl rfl dX9_isInChain_16 ?_
          refine lv_iload hx hb dX9_isInChain_19 (lv_at hl 4 rfl) ?_
          obtain ⟨g6, h⟩ := gw_gdE h
          refine gw_iald (t0 := 0) B hI gm_g40 rfl g6 dX9_isInChain_21 ?_
          refine lv_iload_n hx hb dX9_isInChain_22 rfl (lv_at hl 1 rfl) ?_
          refine lv_icmp_ne (tgt := 30) hx hb dX9_isInChain_23 (by decide) (fun c7 => ?_) (fun c7 => ?_)
          · replace h := gw_ifF c7 h
            refine lv_iconst (v := 0) hx hb dX9_isInChain_30 (by decide) ?_
            exact hb31 (f_X9_isInChain_b5 S  n) ih v1 v2 v4 (0 : Int32) h _ _ _ hI (lv_sub hl [0, 1, 2, 4] rfl)
          · replace h := gw_ifT c7 h
            exact hb26 (f_X9_isInChain_b5 S  n) ih v1 v2 v4 h _ _ _ hI (lv_sub hl [0, 1, 2, 4] rfl)
  unfold f_X9_isInChain at h
  refine lv_iconst (v := 0) hx hb dX9_isInChain_0 (by decide) ?_
  refine lv_istore_n (lv' := [(3, .int (0 : Int32)), (0, .ref (a 0)), (1, .int x1), (2, .int x2)]) hx hb dX9_isInChain_1 rfl hl (by decide) rfl (fun ls hl => ?_)
  refine lv_iconst (v := 0) hx hb dX9_isInChain_2 (by decide) ?_
  refine lv_istore (lv' := [(4, .int (0 : Int32)), (3, .int (0 : Int32)), (0, .ref (a 0)), (1, .int x1), (2, .int x2)]) hx hb dX9_isInChain_3 hl (by decide) rfl (fun ls hl => ?_)
  exact hb5  gw_F x1 x2 (0 : Int32) (0 : Int32) h _ _ _ hI (lv_sub hl [2, 3, 4, 1, 0] rfl)
end
end
