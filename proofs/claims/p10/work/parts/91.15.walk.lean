/-! contracts: printed by wip/gen -/
section
variable {l : Launch} {D : va_G} {t1 t2 : Nat} {cc : Nat → ClassId} {a b d : Nat → Nat}
theorem m_X8_drop_35 : Cond.fieldLink RX8 35 "GownLet" "sheets" "[LGownLet$Sheet;" ∈ wsX8_drop := by decide +kernel
theorem ly_X8_drop_5 : ∀ w ∈ wsX50, w ∈ wsX8_drop := fun w h => List.mem_cons_of_mem _ (List.mem_append_right _ h)
theorem ly_X8_drop_8 : ∀ w ∈ wsX80, w ∈ wsX8_drop := fun w h => List.mem_cons_of_mem _ (List.mem_append_left _ (List.mem_append_right _ h))
set_option maxRecDepth 100000 in
set_option maxHeartbeats 4000000 in
theorem k_X8_drop (x1 : Int32) (S : gw_S) {zr : Int32} {zS : gw_S} (h : f_X8_drop x1 S = some (zr, zS)) : gw_M l yX8_drop wsX8_drop rm_X8_drop 0 0 D (gw_ty cc) t1 t2 [.ref (a 0), .int x1] (gw_cw cc a b d S) (fun w => w = gw_cw cc a b d zS) (some (.int zr)) := by
  refine gw_enter (cc := cX8_drop) (maxL := 3) (ret := (some .int)) (own := RX8) rfl (by decide) rfl (Nat.le_of_ble_eq_true rfl) ?_
  intro p e s m below meth c A B hin hI ls hl
  have hl : lv_has ls 3 [(0, .ref (a 0)), (1, .int x1)] := hl
  generalize ([.ref (a 0), .int x1] : List Value).toArray = args at B ⊢
  have hx := B.1.1
  have hb := B.1.2.1
  have hown : s.vm.findClass RX8 = some m.cls := B.1.2.2.2.1
  have hts := B.1.2.2.2.2
  unfold f_X8_drop at h
  refine lv_iload_n hx hb dX8_drop_0 rfl (lv_at hl 1 rfl) ?_
  obtain ⟨r1, e2, h⟩ := gw_bdE h
  refine gw_callS (As := [.int x1]) (n := 1) B hI (k_X8_isSheet x1 S e2) gX8_drop_X8_isSheet rfl rfl rfl nds_X8_isSheet ⟨Nat.le_of_ble_eq_true rfl, Nat.le_of_ble_eq_true rfl⟩ rfl hl.1 (Nat.zero_le _) dX8_drop_1 ⟨Nat.le_of_ble_eq_true rfl, Nat.le_of_ble_eq_true rfl⟩ rfl (fun w' H locs hw hI => ?_)
  subst hw
  refine lv_if_ne (tgt := 9) hx hb dX8_drop_4 (by decide) (fun c3 => ?_) (fun c3 => ?_)
  · replace h := gw_ifF c3 h
    refine lv_aload_n hx hb dX8_drop_9 rfl (lv_at hl 0 rfl) ?_
    refine gw_get (T := TX8) (k := 3) (v := .ref (a 20)) B hI gc_g0 rfl ly_X8_drop_8 (by decide) m_X8_drop_35 rfl rfl dX8_drop_10 ?_
    refine lv_iload_n hx hb dX8_drop_13 rfl (lv_at hl 1 rfl) ?_
    obtain ⟨g4, h⟩ := gw_gdE h
    obtain ⟨g5, h⟩ := gw_gdE h
    refine gw_aald (t0 := 5) (v := .ref (a (21 + x1.toNatClampNeg))) B hI gc_g20 rfl g4 (gw_shv g5) dX8_drop_14 ?_
    refine lv_astore_n (lv' := [(2, .ref (a (21 + x1.toNatClampNeg))), (0, .ref (a 0)), (1, .int x1)]) hx hb dX8_drop_15 rfl hl (by decide) rfl (fun ls hl => ?_)
    refine lv_aload_n hx hb dX8_drop_16 rfl (lv_at hl 0 rfl) ?_
    refine gw_getN (T := TX5) (k := 1) (v := .int (S (21 + x1.toNatClampNeg) 1)) B hI (gc_gsh g5) rfl ly_X8_drop_5 (by decide) n_RX8_300 rfl rfl dX8_drop_17 ?_
    refine lv_if_ne (tgt := 26) hx hb dX8_drop_20 (by decide) (fun c6 => ?_) (fun c6 => ?_)
    · replace h := gw_ifF c6 h
      refine lv_aload_n hx hb dX8_drop_26 rfl (lv_at hl 0 rfl) ?_
      refine lv_iconst (v := 0) hx hb dX8_drop_27 (by decide) ?_
      obtain ⟨S7, e8, h⟩ := gw_letE h
      refine gw_putN (T := TX5) (k := 1) (w' := gw_cw cc a b d S7) B hI (gc_gsh g5) rfl ly_X8_drop_5 tyX5 tyX5_ok nmX5 (by decide) n_RX8_300 rfl rfl rfl rfl (Nat.le_of_ble_eq_true rfl) (gc_ssh_1 g5 e8) dX8_drop_28 (fun H locs hI => ?_)
      refine lv_aload_n hx hb dX8_drop_31 rfl (lv_at hl 0 rfl) ?_
      refine gw_getN (T := TX5) (k := 3) (v := .int (S7 (21 + x1.toNatClampNeg) 3)) B hI (gc_gsh g5) rfl ly_X8_drop_5 (by decide) n_RX8_303 rfl rfl dX8_drop_32 ?_
      obtain ⟨h1, h2⟩ := Prod.mk.inj (Option.some.inj h)
      rw [h2] at hI
      rw [← h1]
      exact gw_iret (W' := (fun w => w = gw_cw cc a b d zS)) B hI rfl (Nat.zero_le _) (Nat.zero_le _) dX8_drop_35
    · replace h := gw_ifT c6 h
      refine lv_bipush (v := -11) hx hb dX8_drop_23 (by decide) ?_
      obtain ⟨h1, h2⟩ := Prod.mk.inj (Option.some.inj h)
      rw [h2] at hI
      rw [← h1]
      exact gw_iret (W' := (fun w => w = gw_cw cc a b d zS)) B hI rfl (Nat.zero_le _) (Nat.zero_le _) dX8_drop_25
  · replace h := gw_ifT c3 h
    refine lv_iconst (v := -1) hx hb dX8_drop_7 (by decide) ?_
    obtain ⟨h1, h2⟩ := Prod.mk.inj (Option.some.inj h)
    rw [h2] at hI
    rw [← h1]
    exact gw_iret (W' := (fun w => w = gw_cw cc a b d zS)) B hI rfl (Nat.zero_le _) (Nat.zero_le _) dX8_drop_8
theorem m_X8_item_35 : Cond.fieldLink RX8 35 "GownLet" "sheets" "[LGownLet$Sheet;" ∈ wsX8_item := by decide +kernel
theorem ly_X8_item_8 : ∀ w ∈ wsX80, w ∈ wsX8_item := fun w h => List.mem_cons_of_mem _ (List.mem_append_left _ (List.mem_append_right _ h))
set_option maxRecDepth 100000 in
set_option maxHeartbeats 4000000 in
theorem k_X8_item (x1 : Int32) (x2 : Int32) (x3 : Int32) (x4 : Int32) (S : gw_S) {zr : Int32} {zS : gw_S} (h : f_X8_item x1 x2 x3 x4 S = some (zr, zS)) : gw_M l yX8_item wsX8_item rm_X8_item 0 0 D (gw_ty cc) t1 t2 [.ref (a 0), .int x1, .int x2, .int x3, .int x4] (gw_cw cc a b d S) (fun w => w = gw_cw cc a b d zS) (some (.int zr)) := by
  refine gw_enter (cc := cX8_item) (maxL := 7) (ret := (some .int)) (own := RX8) rfl (by decide) rfl (Nat.le_of_ble_eq_true rfl) ?_
  intro p e s m below meth c A B hin hI ls hl
  have hl : lv_has ls 7 [(0, .ref (a 0)), (1, .int x1), (2, .int x2), (3, .int x3), (4, .int x4)] := hl
  generalize ([.ref (a 0), .int x1, .int x2, .int x3, .int x4] : List Value).toArray = args at B ⊢
  have hx := B.1.1
  have hb := B.1.2.1
  have hown : s.vm.findClass RX8 = some m.cls := B.1.2.2.2.1
  have hts := B.1.2.2.2.2
  unfold f_X8_item at h
  refine lv_iload_n hx hb dX8_item_0 rfl (lv_at hl 1 rfl) ?_
  obtain ⟨r1, e2, h⟩ := gw_bdE h
  refine gw_callS (As := [.int x1]) (n := 1) B hI (k_X8_isSheet x1 S e2) gX8_item_X8_isSheet rfl rfl rfl nds_X8_isSheet ⟨Nat.le_of_ble_eq_true rfl, Nat.le_of_ble_eq_true rfl⟩ rfl hl.1 (Nat.zero_le _) dX8_item_1 ⟨Nat.le_of_ble_eq_true rfl, Nat.le_of_ble_eq_true rfl⟩ rfl (fun w' H locs hw hI => ?_)
  subst hw
  refine lv_if_eq (tgt := 14) hx hb dX8_item_4 (by decide) (fun c3 => ?_) (fun c3 => ?_)
  · replace h := gw_ifT c3 h
    refine lv_iconst (v := -1) hx hb dX8_item_14 (by decide) ?_
    obtain ⟨h1, h2⟩ := Prod.mk.inj (Option.some.inj h)
    rw [h2] at hI
    rw [← h1]
    exact gw_iret (W' := (fun w => w = gw_cw cc a b d zS)) B hI rfl (Nat.zero_le _) (Nat.zero_le _) dX8_item_15
  · replace h := gw_ifF c3 h
    refine lv_iload_n hx hb dX8_item_7 rfl (lv_at hl 2 rfl) ?_
    obtain ⟨r4, e5, h⟩ := gw_bdE h
    refine gw_callS (As := [.int x2]) (n := 1) B hI (k_X8_isLane x2 S e5) gX8_item_X8_isLane rfl rfl rfl nds_X8_isLane ⟨Nat.le_of_ble_eq_true rfl, Nat.le_of_ble_eq_true rfl⟩ rfl hl.1 (Nat.zero_le _) dX8_item_8 ⟨Nat.le_of_ble_eq_true rfl, Nat.le_of_ble_eq_true rfl⟩ rfl (fun w' H locs hw hI => ?_)
    subst hw
    refine lv_if_ne (tgt := 16) hx hb dX8_item_11 (by decide) (fun c6 => ?_) (fun c6 => ?_)
    · replace h := gw_ifF c6 h
      refine lv_aload_n hx hb dX8_item_16 rfl (lv_at hl 0 rfl) ?_
      refine gw_get (T := TX8) (k := 3) (v := .ref (a 20)) B hI gc_g0 rfl ly_X8_item_8 (by decide) m_X8_item_35 rfl rfl dX8_item_17 ?_
      refine lv_iload_n hx hb dX8_item_20 rfl (lv_at hl 1 rfl) ?_
      obtain ⟨g7, h⟩ := gw_gdE h
      obtain ⟨g8, h⟩ := gw_gdE h
      refine gw_aald (t0 := 5) (v := .ref (a (21 + x1.toNatClampNeg))) B hI gc_g20 rfl g7 (gw_shv g8) dX8_item_21 ?_
      refine lv_astore (lv' := [(5, .ref (a (21 + x1.toNatClampNeg))), (0, .ref (a 0)), (1, .int x1), (2, .int x2), (3, .int x3), (4, .int x4)]) hx hb dX8_item_22 hl (by decide) rfl (fun ls hl => ?_)
      refine lv_aload hx hb dX8_item_24 (lv_at hl 0 rfl) ?_
      refine lv_iload_n hx hb dX8_item_26 rfl (lv_at hl 3 rfl) ?_
      obtain ⟨r9, e10, h⟩ := gw_bdE h
      refine gw_callV (As := [.int x2]) (n := 1) B hI (k_X5_refusalAs x1 x2 S e10) gX8_item_X5_refusalAs rfl rfl rfl nd_X5_refusalAs ⟨Nat.le_of_ble_eq_true rfl, Nat.le_of_ble_eq_true rfl⟩ (gc_gsh g8) rfl rfl rfl hl.1 (Nat.zero_le _) dX8_item_27 ⟨Nat.le_of_ble_eq_true rfl, Nat.le_of_ble_eq_true rfl⟩ rfl (fun w' H locs hw hI => ?_)
      subst hw
      refine lv_istore (lv' := [(6, .int r9), (5, .ref (a (21 + x1.toNatClampNeg))), (0, .ref (a 0)), (1, .int x1), (2, .int x2), (3, .int x3), (4, .int x4)]) hx hb dX8_item_30 hl (by decide) rfl (fun ls hl => ?_)
      refine lv_iload hx hb dX8_item_32 (lv_at hl 0 rfl) ?_
      refine lv_if_eq (tgt := 40) hx hb dX8_item_34 (by decide) (fun c11 => ?_) (fun c11 => ?_)
      · replace h := gw_ifT c11 h
        refine lv_aload hx hb dX8_item_40 (lv_at hl 1 rfl) ?_
        refine lv_iload_n hx hb dX8_item_42 rfl (lv_at hl 5 rfl) ?_
        refine lv_iconst (v := 1) hx hb dX8_item_43 (by decide) ?_
        obtain ⟨r12, e13, h⟩ := gw_bdE h
        refine gw_callV (As := [.int x3, .int (1 : Int32)]) (n := 2) B hI (k_X5_hasItems x1 x3 (1 : Int32) S e13) gX8_item_X5_hasItems rfl rfl rfl nd_X5_hasItems ⟨Nat.le_of_ble_eq_true rfl, Nat.le_of_ble_eq_true rfl⟩ (gc_gsh g8) rfl rfl rfl hl.1 (Nat.zero_le _) dX8_item_44 ⟨Nat.le_of_ble_eq_true rfl, Nat.le_of_ble_eq_true rfl⟩ rfl (fun w' H locs hw hI => ?_)
        subst hw
        refine lv_if_ne (tgt := 53) hx hb dX8_item_47 (by decide) (fun c14 => ?_) (fun c14 => ?_)
        · replace h := gw_ifF c14 h
          refine lv_aload hx hb dX8_item_53 (lv_at hl 1 rfl) ?_
          refine lv_iload_n hx hb dX8_item_55 rfl (lv_at hl 5 rfl) ?_
          refine lv_iload hx hb dX8_item_56 (lv_at hl 6 rfl) ?_
          obtain ⟨S15, e16, h⟩ := gw_bdE h
          refine gw_callVv (As := [.int x3, .int x4]) (n := 2) B hI (k_X5_put x1 x3 x4 S e16) gX8_item_X5_put rfl rfl rfl nd_X5_put ⟨Nat.le_of_ble_eq_true rfl, Nat.le_of_ble_eq_true rfl⟩ (gc_gsh g8) rfl rfl rfl hl.1 (Nat.zero_le _) dX8_item_58 ⟨Nat.le_of_ble_eq_true rfl, Nat.le_of_ble_eq_true rfl⟩ rfl (fun w' H locs hw hI => ?_)
          subst hw
          refine lv_iconst (v := 1) hx hb dX8_item_61 (by decide) ?_
          obtain ⟨h1, h2⟩ := Prod.mk.inj (Option.some.inj h)
          rw [h2] at hI
          rw [← h1]
          exact gw_iret (W' := (fun w => w = gw_cw cc a b d zS)) B hI rfl (Nat.zero_le _) (Nat.zero_le _) dX8_item_62
        · replace h := gw_ifT c14 h
          refine lv_bipush (v := -13) hx hb dX8_item_50 (by decide) ?_
          obtain ⟨h1, h2⟩ := Prod.mk.inj (Option.some.inj h)
          rw [h2] at hI
          rw [← h1]
          exact gw_iret (W' := (fun w => w = gw_cw cc a b d zS)) B hI rfl (Nat.zero_le _) (Nat.zero_le _) dX8_item_52
      · replace h := gw_ifF c11 h
        refine lv_iload hx hb dX8_item_37 (lv_at hl 0 rfl) ?_
        obtain ⟨h1, h2⟩ := Prod.mk.inj (Option.some.inj h)
        rw [h2] at hI
        rw [← h1]
        exact gw_iret (W' := (fun w => w = gw_cw cc a b d zS)) B hI rfl (Nat.zero_le _) (Nat.zero_le _) dX8_item_39
    · replace h := gw_ifT c6 h
      refine lv_iconst (v := -1) hx hb dX8_item_14 (by decide) ?_
      obtain ⟨h1, h2⟩ := Prod.mk.inj (Option.some.inj h)
      rw [h2] at hI
      rw [← h1]
      exact gw_iret (W' := (fun w => w = gw_cw cc a b d zS)) B hI rfl (Nat.zero_le _) (Nat.zero_le _) dX8_item_15
set_option maxRecDepth 100000 in
set_option maxHeartbeats 4000000 in
theorem k_X8_isBookingOnSheet (x0 : Int32) (x1 : Int32) (S : gw_S) {zr : Int32} (h : f_X8_isBookingOnSheet x0 x1 S = some zr) : gw_M l yX8_isBookingOnSheet wsX8_isBookingOnSheet rm_X8_isBookingOnSheet 0 0 D (gw_ty cc) t1 t2 [.ref (a (21 + x0.toNatClampNeg)), .int x1] (gw_cw cc a b d S) (fun w => w = gw_cw cc a b d S) (some (.int zr)) := by
  refine gw_enter (cc := cX8_isBookingOnSheet) (maxL := 2) (ret := (some .boolean)) (own := RX8) rfl (by decide) rfl (Nat.le_of_ble_eq_true rfl) ?_
  intro p e s m below meth c A B hin hI ls hl
  have hl : lv_has ls 2 [(0, .ref (a (21 + x0.toNatClampNeg))), (1, .int x1)] := hl
  generalize ([.ref (a (21 + x0.toNatClampNeg)), .int x1] : List Value).toArray = args at B ⊢
  have hx := B.1.1
  have hb := B.1.2.1
  have hown : s.vm.findClass RX8 = some m.cls := B.1.2.2.2.1
  have hts := B.1.2.2.2.2
  unfold f_X8_isBookingOnSheet at h
  refine lv_aload_n hx hb dX8_isBookingOnSheet_0 rfl (lv_at hl 0 rfl) ?_
  refine lv_iload_n hx hb dX8_isBookingOnSheet_1 rfl (lv_at hl 1 rfl) ?_
  obtain ⟨g1, h⟩ := gw_gdE h
  obtain ⟨r2, e3, h⟩ := gw_bdE h
  refine gw_callV (As := [.int x1]) (n := 1) B hI (k_X5_get x0 x1 S e3) gX8_isBookingOnSheet_X5_get rfl rfl rfl nd_X5_get ⟨Nat.le_of_ble_eq_true rfl, Nat.le_of_ble_eq_true rfl⟩ (gc_gsh g1) rfl rfl rfl hl.1 (Nat.zero_le _) dX8_isBookingOnSheet_2 ⟨Nat.le_of_ble_eq_true rfl, Nat.le_of_ble_eq_true rfl⟩ rfl (fun w' H locs hw hI => ?_)
  subst hw
  refine lv_aload_n hx hb dX8_isBookingOnSheet_5 rfl (lv_at hl 0 rfl) ?_
  refine lv_iload_n hx hb dX8_isBookingOnSheet_6 rfl (lv_at hl 1 rfl) ?_
  refine lv_iconst (v := 1) hx hb dX8_isBookingOnSheet_7 (by decide) ?_
  refine lv_iadd hx hb dX8_isBookingOnSheet_8 ?_
  obtain ⟨r4, e5, h⟩ := gw_bdE h
  refine gw_callV (As := [.int (x1 + (1 : Int32))]) (n := 1) B hI (k_X5_get x0 (x1 + (1 : Int32)) S e5) gX8_isBookingOnSheet_X5_get rfl rfl rfl nd_X5_get ⟨Nat.le_of_ble_eq_true rfl, Nat.le_of_ble_eq_true rfl⟩ (gc_gsh g1) rfl rfl rfl hl.1 (by simp [gw_catq, gw_cI, gw_cR, gw_cL]) dX8_isBookingOnSheet_9 ⟨Nat.le_of_ble_eq_true rfl, Nat.le_of_ble_eq_true rfl⟩ rfl (fun w' H locs hw hI => ?_)
  subst hw
  refine lv_aload_n hx hb dX8_isBookingOnSheet_12 rfl (lv_at hl 0 rfl) ?_
  refine lv_iload_n hx hb dX8_isBookingOnSheet_13 rfl (lv_at hl 1 rfl) ?_
  refine lv_iconst (v := 2) hx hb dX8_isBookingOnSheet_14 (by decide) ?_
  refine lv_iadd hx hb dX8_isBookingOnSheet_15 ?_
  obtain ⟨r6, e7, h⟩ := gw_bdE h
  refine gw_callV (As := [.int (x1 + (2 : Int32))]) (n := 1) B hI (k_X5_get x0 (x1 + (2 : Int32)) S e7) gX8_isBookingOnSheet_X5_get rfl rfl rfl nd_X5_get ⟨Nat.le_of_ble_eq_true rfl, Nat.le_of_ble_eq_true rfl⟩ (gc_gsh g1) rfl rfl rfl hl.1 (by simp [gw_catq, gw_cI, gw_cR, gw_cL]) dX8_isBookingOnSheet_16 ⟨Nat.le_of_ble_eq_true rfl, Nat.le_of_ble_eq_true rfl⟩ rfl (fun w' H locs hw hI => ?_)
  subst hw
  refine lv_aload_n hx hb dX8_isBookingOnSheet_19 rfl (lv_at hl 0 rfl) ?_
  refine lv_iload_n hx hb dX8_isBookingOnSheet_20 rfl (lv_at hl 1 rfl) ?_
  refine lv_iconst (v := 3) hx hb dX8_isBookingOnSheet_21 (by decide) ?_
  refine lv_iadd hx hb dX8_isBookingOnSheet_22 ?_
  obtain ⟨r8, e9, h⟩ := gw_bdE h
  refine gw_callV (As := [.int (x1 + (3 : Int32))]) (n := 1) B hI (k_X5_get x0 (x1 + (3 : Int32)) S e9) gX8_isBookingOnSheet_X5_get rfl rfl rfl nd_X5_get ⟨Nat.le_of_ble_eq_true rfl, Nat.le_of_ble_eq_true rfl⟩ (gc_gsh g1) rfl rfl rfl hl.1 (by simp [gw_catq, gw_cI, gw_cR, gw_cL]) dX8_isBookingOnSheet_23 ⟨Nat.le_of_ble_eq_true rfl, Nat.le_of_ble_eq_true rfl⟩ rfl (fun w' H locs hw hI => ?_)
  subst hw
  refine lv_aload_n hx hb dX8_isBookingOnSheet_26 rfl (lv_at hl 0 rfl) ?_
  refine lv_iload_n hx hb dX8_isBookingOnSheet_27 rfl (lv_at hl 1 rfl) ?_
  refine lv_iconst (v := 4) hx hb dX8_isBookingOnSheet_28 (by decide) ?_
  refine lv_iadd hx hb dX8_isBookingOnSheet_29 ?_
  obtain ⟨r10, e11, h⟩ := gw_bdE h
  refine gw_callV (As := [.int (x1 + (4 : Int32))]) (n := 1) B hI (k_X5_get x0 (x1 + (4 : Int32)) S e11) gX8_isBookingOnSheet_X5_get rfl rfl rfl nd_X5_get ⟨Nat.le_of_ble_eq_true rfl, Nat.le_of_ble_eq_true rfl⟩ (gc_gsh g1) rfl rfl rfl hl.1 (by simp [gw_catq, gw_cI, gw_cR, gw_cL]) dX8_isBookingOnSheet_30 ⟨Nat.le_of_ble_eq_true rfl, Nat.le_of_ble_eq_true rfl⟩ rfl (fun w' H locs hw hI => ?_)
  subst hw
  refine lv_aload_n hx hb dX8_isBookingOnSheet_33 rfl (lv_at hl 0 rfl) ?_
  refine lv_iload_n hx hb dX8_isBookingOnSheet_34 rfl (lv_at hl 1 rfl) ?_
  refine lv_iconst (v := 5) hx hb dX8_isBookingOnSheet_35 (by decide) ?_
  refine lv_iadd hx hb dX8_isBookingOnSheet_36 ?_
  obtain ⟨r12, e13, h⟩ := gw_bdE h
  refine gw_callV (As := [.int (x1 + (5 : Int32))]) (n := 1) B hI (k_X5_get x0 (x1 + (5 : Int32)) S e13) gX8_isBookingOnSheet_X5_get rfl rfl rfl nd_X5_get ⟨Nat.le_of_ble_eq_true rfl, Nat.le_of_ble_eq_true rfl⟩ (gc_gsh g1) rfl rfl rfl hl.1 (by simp [gw_catq, gw_cI, gw_cR, gw_cL]) dX8_isBookingOnSheet_37 ⟨Nat.le_of_ble_eq_true rfl, Nat.le_of_ble_eq_true rfl⟩ rfl (fun w' H locs hw hI => ?_)
  subst hw
  obtain ⟨r14, e15, h⟩ := gw_bdE h
  refine gw_callS (As := [.int r2, .int r4, .int r6, .int r8, .int r10, .int r12]) (n := 6) B hI (k_X8_isBookingAsTold r2 r4 r6 r8 r10 r12 S e15) gX8_isBookingOnSheet_X8_isBookingAsTold rfl rfl rfl nds_X8_isBookingAsTold ⟨Nat.le_of_ble_eq_true rfl, Nat.le_of_ble_eq_true rfl⟩ rfl hl.1 (Nat.zero_le _) dX8_isBookingOnSheet_40 ⟨Nat.le_of_ble_eq_true rfl, Nat.le_of_ble_eq_true rfl⟩ rfl (fun w' H locs hw hI => ?_)
  subst hw
  obtain ⟨g16, h⟩ := gw_gdE h
  rw [← Option.some.inj h]
  exact gw_zret (W' := (fun w => w = gw_cw cc a b d S)) B hI rfl g16 (Nat.zero_le _) (Nat.zero_le _) dX8_isBookingOnSheet_43
set_option maxRecDepth 100000 in
set_option maxHeartbeats 4000000 in
theorem k_X9_in (x0 : Int64) (x2 : Int64) (x4 : Int64) (S : gw_S) {zr : Int32} (h : f_X9_in x0 x2 x4 S = some zr) : gw_M l yX9_in wsX9_in rm_X9_in 0 0 D (gw_ty cc) t1 t2 [.long x0, .long x2, .long x4] (gw_mw cc a S) (fun w => w = gw_mw cc a S) (some (.int zr)) := by
  refine gw_enter (cc := cX9_in) (maxL := 6) (ret := (some .boolean)) (own := RX9) rfl (by decide) rfl (Nat.le_of_ble_eq_true rfl) ?_
  intro p e s m below meth c A B hin hI ls hl
  have hl : lv_has ls 6 [(0, .long x0), (2, .long x2), (4, .long x4)] := hl
  generalize ([.long x0, .long x2, .long x4] : List Value).toArray = args at B ⊢
  have hx := B.1.1
  have hb := B.1.2.1
  have hown : s.vm.findClass RX9 = some m.cls := B.1.2.2.2.1
  have hts := B.1.2.2.2.2
  unfold f_X9_in at h
  refine lv_lload_n hx hb dX9_in_0 rfl (lv_at hl 0 rfl) ?_
  refine lv_lload_n hx hb dX9_in_1 rfl (lv_at hl 1 rfl) ?_
  refine W.lcmp hx hb dX9_in_2 ?_
  refine lv_if_lt (tgt := 17) hx hb dX9_in_3 (by decide) (fun c1 => ?_) (fun c1 => ?_)
  · replace h := gw_ifT c1 h
    refine lv_iconst (v := 0) hx hb dX9_in_17 (by decide) ?_
    rw [← Option.some.inj h]
    exact gw_zret (W' := (fun w => w = gw_mw cc a S)) B hI rfl (Or.inl rfl) (Nat.zero_le _) (Nat.zero_le _) dX9_in_18
  · replace h := gw_ifF c1 h
    refine lv_lload_n hx hb dX9_in_6 rfl (lv_at hl 0 rfl) ?_
    refine lv_lload hx hb dX9_in_7 (lv_at hl 2 rfl) ?_
    refine W.lcmp hx hb dX9_in_9 ?_
    refine lv_if_gt (tgt := 17) hx hb dX9_in_10 (by decide) (fun c2 => ?_) (fun c2 => ?_)
    · replace h := gw_ifT c2 h
      refine lv_iconst (v := 0) hx hb dX9_in_17 (by decide) ?_
      rw [← Option.some.inj h]
      exact gw_zret (W' := (fun w => w = gw_mw cc a S)) B hI rfl (Or.inl rfl) (Nat.zero_le _) (Nat.zero_le _) dX9_in_18
    · replace h := gw_ifF c2 h
      refine lv_iconst (v := 1) hx hb dX9_in_13 (by decide) ?_
      refine lv_goto (tgt := 18) hx hb dX9_in_14 (by decide) ?_
      rw [← Option.some.inj h]
      exact gw_zret (W' := (fun w => w = gw_mw cc a S)) B hI rfl (Or.inr rfl) (Nat.zero_le _) (Nat.zero_le _) dX9_in_18
theorem m_X9_type_158 : Cond.fieldLink RX9 158 "GownLetModel" "taped" "I" ∈ wsX9_type := by decide +kernel
theorem m_X9_type_22 : Cond.fieldLink RX9 22 "GownLetModel" "tape" "[I" ∈ wsX9_type := by decide +kernel
theorem ly_X9_type_9 : ∀ w ∈ wsX90, w ∈ wsX9_type := fun w h => List.mem_cons_of_mem _ (List.mem_append_right _ h)
set_option maxRecDepth 100000 in
set_option maxHeartbeats 4000000 in
theorem k_X9_type (x1 : Int64) (x3 : Int32) (S : gw_S) {zr : Int32} {zS : gw_S} (h : f_X9_type x1 x3 S = some (zr, zS)) : gw_M l yX9_type wsX9_type rm_X9_type 0 0 D (gw_ty cc) t1 t2 [.ref (a 0), .long x1, .int x3] (gw_mw cc a S) (fun w => w = gw_mw cc a zS) (some (.int zr)) := by
  refine gw_enter (cc := cX9_type) (maxL := 5) (ret := (some .int)) (own := RX9) rfl (by decide) rfl (Nat.le_of_ble_eq_true rfl) ?_
  intro p e s m below meth c A B hin hI ls hl
  have hl : lv_has ls 5 [(0, .ref (a 0)), (1, .long x1), (3, .int x3)] := hl
  generalize ([.ref (a 0), .long x1, .int x3] : List Value).toArray = args at B ⊢
  have hx := B.1.1
  have hb := B.1.2.1
  have hown : s.vm.findClass RX9 = some m.cls := B.1.2.2.2.1
  have hts := B.1.2.2.2.2
  have hb74 :  ∀ (n : Nat), ∀ (v1 : Int64) (v4 : Int32) (S : gw_S), f_X9_type_b74  n v1 v4 S = some (zr, zS) → ∀ (H : Heap) (locs : List Loc) (ls : Array Slot), gw_I D A s.heap (gw_mw cc a S) H locs → lv_has ls 5 [(0, .ref (a 0)), (1, .long v1), (4, .int v4)] → W p l e rm_X9_type s m args below meth c H locs 0 0 (MQ below (gw_Q (some (.int zr)) (gw_Pst D A (fun w => w = gw_mw cc a zS)) A) args s 0 0 A) (F0 m 74 ls []) := by
    intro n
    induction n with
    | zero =>
      intro v1 v4 S h
      cases h
    | succ n ih =>
      intro v1 v4 S h H locs ls hI hl
      unfold f_X9_type_b74 at h
      refine lv_iload hx hb dX9_type_74 (lv_at hl 2 rfl) ?_
      refine lv_if_lt (tgt := 116) hx hb dX9_type_76 (by decide) (fun c1 => ?_) (fun c1 => ?_)
      · replace h := gw_ifT c1 h
        refine lv_aload_n hx hb dX9_type_116 rfl (lv_at hl 0 rfl) ?_
        refine gw_get (T := TX9) (k := 5) (v := .int (S 0 5)) B hI gm_g0 rfl ly_X9_type_9 (by decide) m_X9_type_158 rfl rfl dX9_type_117 ?_
        obtain ⟨h1, h2⟩ := Prod.mk.inj (Option.some.inj h)
        rw [h2] at hI
        rw [← h1]
        exact gw_iret (W' := (fun w => w = gw_mw cc a zS)) B hI rfl (Nat.zero_le _) (Nat.zero_le _) dX9_type_120
      · replace h := gw_ifF c1 h
        refine lv_aload_n hx hb dX9_type_79 rfl (lv_at hl 0 rfl) ?_
        refine gw_get (T := TX9) (k := 4) (v := .ref (a 5)) B hI gm_g0 rfl ly_X9_type_9 (by decide) m_X9_type_22 rfl rfl dX9_type_80 ?_
        refine lv_aload_n hx hb dX9_type_83 rfl (lv_at hl 0 rfl) ?_
        refine gw_get (T := TX9) (k := 5) (v := .int (S 0 5)) B hI gm_g0 rfl ly_X9_type_9 (by decide) m_X9_type_158 rfl rfl dX9_type_84 ?_
        refine lv_lload_n hx hb dX9_type_87 rfl (lv_at hl 1 rfl) ?_
        refine lv_bipush (v := 8) hx hb dX9_type_88 (by decide) ?_
        refine lv_iload hx hb dX9_type_90 (lv_at hl 2 rfl) ?_
        refine lv_imul hx hb dX9_type_92 ?_
        refine lv_lshr hx hb dX9_type_93 rfl ?_
        refine lv_ldc2 (v := 255) hx hb hown (hts (.constantLong RX9 152 (255)) (by decide +kernel)) dX9_type_94 ?_
        refine lv_land hx hb dX9_type_97 ?_
        refine lv_l2i hx hb dX9_type_98 rfl ?_
        obtain ⟨g2, h⟩ := gw_gdE h
        obtain ⟨S3, e4, h⟩ := gw_letE h
        refine gw_iast (t0 := 0) (w' := gw_mw cc a S3) B hI gm_g5 rfl g2 (gm_s5 e4) dX9_type_99 (fun H locs hI => ?_)
        refine lv_aload_n hx hb dX9_type_100 rfl (lv_at hl 0 rfl) ?_
        refine lv_dup hx hb dX9_type_101 rfl ?_
        refine gw_get (T := TX9) (k := 5) (v := .int (S3 0 5)) B hI gm_g0 rfl ly_X9_type_9 (by decide) m_X9_type_158 rfl rfl dX9_type_102 ?_
        refine lv_iconst (v := 1) hx hb dX9_type_105 (by decide) ?_
        refine lv_iadd hx hb dX9_type_106 ?_
        obtain ⟨S5, e6, h⟩ := gw_letE h
        refine gw_put (T := TX9) (k := 5) (w' := gw_mw cc a S5) B hI gm_g0 rfl ly_X9_type_9 tyX9 tyX9_ok nmX9 (by decide) m_X9_type_158 rfl rfl rfl rfl (Nat.le_of_ble_eq_true rfl) (gm_s0_5 e6) dX9_type_107 (fun H locs hI => ?_)
        obtain ⟨y7, e8, h⟩ := gw_letE h
        refine lv_iinc (v := y7) (lv' := [(4, .int y7), (0, .ref (a 0)), (1, .long v1)]) hx hb dX9_type_110 hl (k := 2) rfl (by rw [e8]; rfl) (by decide) rfl (fun ls hl => ?_)
        refine lv_goto (tgt := 74) hx hb dX9_type_113 (by decide) ?_
        exact ih v1 y7 S5 h _ _ _ hI (lv_sub hl [1, 2, 0] rfl)
  have hb19 :  ∀ (n : Nat), ∀ (v1 : Int64) (v3 : Int32) (v4 : Int32) (S : gw_S), f_X9_type_b19  n v1 v3 v4 S = some (zr, zS) → ∀ (H : Heap) (locs : List Loc) (ls : Array Slot), gw_I D A s.heap (gw_mw cc a S) H locs → lv_has ls 5 [(0, .ref (a 0)), (1, .long v1), (3, .int v3), (4, .int v4)] → W p l e rm_X9_type s m args below meth c H locs 0 0 (MQ below (gw_Q (some (.int zr)) (gw_Pst D A (fun w => w = gw_mw cc a zS)) A) args s 0 0 A) (F0 m 19 ls []) := by
    intro n
    induction n with
    | zero =>
      intro v1 v3 v4 S h
      cases h
    | succ n ih =>
      intro v1 v3 v4 S h H locs ls hI hl
      unfold f_X9_type_b19 at h
      refine lv_iload hx hb dX9_type_19 (lv_at hl 3 rfl) ?_
      refine lv_if_lt (tgt := 55) hx hb dX9_type_21 (by decide) (fun c9 => ?_) (fun c9 => ?_)
      · replace h := gw_ifT c9 h
        refine lv_aload_n hx hb dX9_type_55 rfl (lv_at hl 0 rfl) ?_
        refine gw_get (T := TX9) (k := 5) (v := .int (S 0 5)) B hI gm_g0 rfl ly_X9_type_9 (by decide) m_X9_type_158 rfl rfl dX9_type_56 ?_
        refine lv_iload_n hx hb dX9_type_59 rfl (lv_at hl 2 rfl) ?_
        refine lv_iadd hx hb dX9_type_60 ?_
        refine lv_bipush (v := 60) hx hb dX9_type_61 (by decide) ?_
        refine lv_icmp_le (tgt := 69) hx hb dX9_type_63 (by decide) (fun c10 => ?_) (fun c10 => ?_)
        · replace h := gw_ifT c10 h
          refine lv_iload_n hx hb dX9_type_69 rfl (lv_at hl 2 rfl) ?_
          refine lv_iconst (v := 1) hx hb dX9_type_70 (by decide) ?_
          refine lv_isub hx hb dX9_type_71 ?_
          obtain ⟨y11, e12, h⟩ := gw_letE h
          rw [← e12]
          refine lv_istore (lv' := [(4, .int y11), (0, .ref (a 0)), (1, .long v1), (3, .int v3)]) hx hb dX9_type_72 hl (by decide) rfl (fun ls hl => ?_)
          exact hb74  gw_F v1 y11 S h _ _ _ hI (lv_sub hl [1, 2, 0] rfl)
        · replace h := gw_ifF c10 h
          refine lv_bipush (v := -3) hx hb dX9_type_66 (by decide) ?_
          obtain ⟨h1, h2⟩ := Prod.mk.inj (Option.some.inj h)
          rw [h2] at hI
          rw [← h1]
          exact gw_iret (W' := (fun w => w = gw_mw cc a zS)) B hI rfl (Nat.zero_le _) (Nat.zero_le _) dX9_type_68
      · replace h := gw_ifF c9 h
        refine lv_lload_n hx hb dX9_type_24 rfl (lv_at hl 1 rfl) ?_
        refine lv_bipush (v := 8) hx hb dX9_type_25 (by decide) ?_
        refine lv_iload hx hb dX9_type_27 (lv_at hl 3 rfl) ?_
        refine lv_imul hx hb dX9_type_29 ?_
        refine lv_lshr hx hb dX9_type_30 rfl ?_
        refine lv_ldc2 (v := 255) hx hb hown (hts (.constantLong RX9 152 (255)) (by decide +kernel)) dX9_type_31 ?_
        refine lv_land hx hb dX9_type_34 ?_
        refine lv_ldc2 (v := 32) hx hb hown (hts (.constantLong RX9 154 (32)) (by decide +kernel)) dX9_type_35 ?_
        refine lv_ldc2 (v := 126) hx hb hown (hts (.constantLong RX9 156 (126)) (by decide +kernel)) dX9_type_38 ?_
        obtain ⟨r13, e14, h⟩ := gw_bdE h
        refine gw_callS (As := [.long ((v1 >>> (((8 : Int32) * v4).toInt64 &&& 63)) &&& (255 : Int64)), .long (32 : Int64), .long (126 : Int64)]) (n := 3) B hI (k_X9_in ((v1 >>> (((8 : Int32) * v4).toInt64 &&& 63)) &&& (255 : Int64)) (32 : Int64) (126 : Int64) S e14) gX9_type_X9_in rfl rfl rfl nds_X9_in ⟨Nat.le_of_ble_eq_true rfl, Nat.le_of_ble_eq_true rfl⟩ rfl hl.1 (Nat.zero_le _) dX9_type_41 ⟨Nat.le_of_ble_eq_true rfl, Nat.le_of_ble_eq_true rfl⟩ rfl (fun w' H locs hw hI => ?_)
        subst hw
        refine lv_if_ne (tgt := 49) hx hb dX9_type_44 (by decide) (fun c15 => ?_) (fun c15 => ?_)
        · replace h := gw_ifF c15 h
          obtain ⟨y16, e17, h⟩ := gw_letE h
          refine lv_iinc (v := y16) (lv' := [(4, .int y16), (0, .ref (a 0)), (1, .long v1), (3, .int v3)]) hx hb dX9_type_49 hl (k := 3) rfl (by rw [e17]; rfl) (by decide) rfl (fun ls hl => ?_)
          refine lv_goto (tgt := 19) hx hb dX9_type_52 (by decide) ?_
          exact ih v1 v3 y16 S h _ _ _ hI (lv_sub hl [1, 2, 3, 0] rfl)
        · replace h := gw_ifT c15 h
          refine lv_iconst (v := -1) hx hb dX9_type_47 (by decide) ?_
          obtain ⟨h1, h2⟩ := Prod.mk.inj (Option.some.inj h)
          rw [h2] at hI
          rw [← h1]
          exact gw_iret (W' := (fun w => w = gw_mw cc a zS)) B hI rfl (Nat.zero_le _) (Nat.zero_le _) dX9_type_48
  unfold f_X9_type at h
  refine lv_iload_n hx hb dX9_type_0 rfl (lv_at hl 2 rfl) ?_
  refine lv_i2l hx hb dX9_type_1 rfl ?_
  refine lv_lconst (v := 1) hx hb dX9_type_2 (by decide) ?_
  refine lv_ldc2 (v := 8) hx hb hown (hts (.constantLong RX9 146 (8)) (by decide +kernel)) dX9_type_3 ?_
  obtain ⟨r18, e19, h⟩ := gw_bdE h
  refine gw_callS (As := [.long (x3.toInt64), .long (1 : Int64), .long (8 : Int64)]) (n := 3) B hI (k_X9_in (x3.toInt64) (1 : Int64) (8 : Int64) S e19) gX9_type_X9_in rfl rfl rfl nds_X9_in ⟨Nat.le_of_ble_eq_true rfl, Nat.le_of_ble_eq_true rfl⟩ rfl hl.1 (Nat.zero_le _) dX9_type_6 ⟨Nat.le_of_ble_eq_true rfl, Nat.le_of_ble_eq_true rfl⟩ rfl (fun w' H locs hw hI => ?_)
  subst hw
  refine lv_if_ne (tgt := 14) hx hb dX9_type_9 (by decide) (fun c20 => ?_) (fun c20 => ?_)
  · replace h := gw_ifF c20 h
    refine lv_iload_n hx hb dX9_type_14 rfl (lv_at hl 2 rfl) ?_
    refine lv_iconst (v := 1) hx hb dX9_type_15 (by decide) ?_
    refine lv_isub hx hb dX9_type_16 ?_
    obtain ⟨y21, e22, h⟩ := gw_letE h
    rw [← e22]
    refine lv_istore (lv' := [(4, .int y21), (0, .ref (a 0)), (1, .long x1), (3, .int x3)]) hx hb dX9_type_17 hl (by decide) rfl (fun ls hl => ?_)
    exact hb19  gw_F x1 x3 y21 S h _ _ _ hI (lv_sub hl [1, 2, 3, 0] rfl)
  · replace h := gw_ifT c20 h
    refine lv_iconst (v := -1) hx hb dX9_type_12 (by decide) ?_
    obtain ⟨h1, h2⟩ := Prod.mk.inj (Option.some.inj h)
    rw [h2] at hI
    rw [← h1]
    exact gw_iret (W' := (fun w => w = gw_mw cc a zS)) B hI rfl (Nat.zero_le _) (Nat.zero_le _) dX9_type_13
theorem m_X9_next_158 : Cond.fieldLink RX9 158 "GownLetModel" "taped" "I" ∈ wsX9_next := by decide +kernel
theorem m_X9_next_162 : Cond.fieldLink RX9 162 "GownLetModel" "at" "I" ∈ wsX9_next := by decide +kernel
theorem m_X9_next_22 : Cond.fieldLink RX9 22 "GownLetModel" "tape" "[I" ∈ wsX9_next := by decide +kernel
theorem ly_X9_next_9 : ∀ w ∈ wsX90, w ∈ wsX9_next := fun w h => List.mem_cons_of_mem _ (List.mem_append_right _ h)
set_option maxRecDepth 100000 in
set_option maxHeartbeats 4000000 in
theorem k_X9_next  (S : gw_S) {zr : Int32} {zS : gw_S} (h : f_X9_next  S = some (zr, zS)) : gw_M l yX9_next wsX9_next rm_X9_next 0 0 D (gw_ty cc) t1 t2 [.ref (a 0)] (gw_mw cc a S) (fun w => w = gw_mw cc a zS) (some (.int zr)) := by
  refine gw_enter (cc := cX9_next) (maxL := 1) (ret := (some .int)) (own := RX9) rfl (by decide) rfl (Nat.le_of_ble_eq_true rfl) ?_
  intro p e s m below meth c A B hin hI ls hl
  have hl : lv_has ls 1 [(0, .ref (a 0))] := hl
  generalize ([.ref (a 0)] : List Value).toArray = args at B ⊢
  have hx := B.1.1
  have hb := B.1.2.1
  have hown : s.vm.findClass RX9 = some m.cls := B.1.2.2.2.1
  have hts := B.1.2.2.2.2
  have hb38 :  ∀  (S : gw_S), f_X9_next_b38   S = some (zr, zS) → ∀ (H : Heap) (locs : List Loc) (ls : Array Slot), gw_I D A s.heap (gw_mw cc a S) H locs → lv_has ls 1 [(0, .ref (a 0))] → W p l e rm_X9_next s m args below meth c H locs 0 0 (MQ below (gw_Q (some (.int zr)) (gw_Pst D A (fun w => w = gw_mw cc a zS)) A) args s 0 0 A) (F0 m 38 ls []) := by
    intro  S h H locs ls hI hl
    unfold f_X9_next_b38 at h
    refine lv_aload_n hx hb dX9_next_38 rfl (lv_at hl 0 rfl) ?_
    refine gw_get (T := TX9) (k := 6) (v := .int (S 0 6)) B hI gm_g0 rfl ly_X9_next_9 (by decide) m_X9_next_162 rfl rfl dX9_next_39 ?_
    refine lv_aload_n hx hb dX9_next_42 rfl (lv_at hl 0 rfl) ?_
    refine gw_get (T := TX9) (k := 5) (v := .int (S 0 5)) B hI gm_g0 rfl ly_X9_next_9 (by decide) m_X9_next_158 rfl rfl dX9_next_43 ?_
    refine lv_icmp_ge (tgt := 61) hx hb dX9_next_46 (by decide) (fun c1 => ?_) (fun c1 => ?_)
    · replace h := gw_ifT c1 h
      refine lv_iconst (v := -1) hx hb dX9_next_61 (by decide) ?_
      obtain ⟨h1, h2⟩ := Prod.mk.inj (Option.some.inj h)
      rw [h2] at hI
      rw [← h1]
      exact gw_iret (W' := (fun w => w = gw_mw cc a zS)) B hI rfl (Nat.zero_le _) (Nat.zero_le _) dX9_next_62
    · replace h := gw_ifF c1 h
      refine lv_aload_n hx hb dX9_next_49 rfl (lv_at hl 0 rfl) ?_
      refine gw_get (T := TX9) (k := 4) (v := .ref (a 5)) B hI gm_g0 rfl ly_X9_next_9 (by decide) m_X9_next_22 rfl rfl dX9_next_50 ?_
      refine lv_aload_n hx hb dX9_next_53 rfl (lv_at hl 0 rfl) ?_
      refine gw_get (T := TX9) (k := 6) (v := .int (S 0 6)) B hI gm_g0 rfl ly_X9_next_9 (by decide) m_X9_next_162 rfl rfl dX9_next_54 ?_
      obtain ⟨g2, h⟩ := gw_gdE h
      refine gw_iald (t0 := 0) B hI gm_g5 rfl g2 dX9_next_57 ?_
      refine lv_goto (tgt := 62) hx hb dX9_next_58 (by decide) ?_
      obtain ⟨h1, h2⟩ := Prod.mk.inj (Option.some.inj h)
      rw [h2] at hI
      rw [← h1]
      exact gw_iret (W' := (fun w => w = gw_mw cc a zS)) B hI rfl (Nat.zero_le _) (Nat.zero_le _) dX9_next_62
  have hb0 :  ∀ (n : Nat), ∀  (S : gw_S), f_X9_next_b0  n  S = some (zr, zS) → ∀ (H : Heap) (locs : List Loc) (ls : Array Slot), gw_I D A s.heap (gw_mw cc a S) H locs → lv_has ls 1 [(0, .ref (a 0))] → W p l e rm_X9_next s m args below meth c H locs 0 0 (MQ below (gw_Q (some (.int zr)) (gw_Pst D A (fun w => w = gw_mw cc a zS)) A) args s 0 0 A) (F0 m 0 ls []) := by
    intro n
    induction n with
    | zero =>
      intro  S h
      cases h
    | succ n ih =>
      intro  S h H locs ls hI hl
      unfold f_X9_next_b0 at h
      refine lv_aload_n hx hb dX9_next_0 rfl (lv_at hl 0 rfl) ?_
      refine gw_get (T := TX9) (k := 6) (v := .int (S 0 6)) B hI gm_g0 rfl ly_X9_next_9 (by decide) m_X9_next_162 rfl rfl dX9_next_1 ?_
      refine lv_aload_n hx hb dX9_next_4 rfl (lv_at hl 0 rfl) ?_
      refine gw_get (T := TX9) (k := 5) (v := .int (S 0 5)) B hI gm_g0 rfl ly_X9_next_9 (by decide) m_X9_next_158 rfl rfl dX9_next_5 ?_
      refine lv_icmp_ge (tgt := 38) hx hb dX9_next_8 (by decide) (fun c3 => ?_) (fun c3 => ?_)
      · replace h := gw_ifT c3 h
        exact hb38   S h _ _ _ hI (lv_sub hl [0] rfl)
      · replace h := gw_ifF c3 h
        refine lv_aload_n hx hb dX9_next_11 rfl (lv_at hl 0 rfl) ?_
        refine gw_get (T := TX9) (k := 4) (v := .ref (a 5)) B hI gm_g0 rfl ly_X9_next_9 (by decide) m_X9_next_22 rfl rfl dX9_next_12 ?_
        refine lv_aload_n hx hb dX9_next_15 rfl (lv_at hl 0 rfl) ?_
        refine gw_get (T := TX9) (k := 6) (v := .int (S 0 6)) B hI gm_g0 rfl ly_X9_next_9 (by decide) m_X9_next_162 rfl rfl dX9_next_16 ?_
        obtain ⟨g4, h⟩ := gw_gdE h
        refine gw_iald (t0 := 0) B hI gm_g5 rfl g4 dX9_next_19 ?_
        refine lv_bipush (v := 32) hx hb dX9_next_20 (by decide) ?_
        refine lv_icmp_ne (tgt := 38) hx hb dX9_next_22 (by decide) (fun c5 => ?_) (fun c5 => ?_)
        · replace h := gw_ifF c5 h
          exact hb38   S h _ _ _ hI (lv_sub hl [0] rfl)
        · replace h := gw_ifT c5 h
          refine lv_aload_n hx hb dX9_next_25 rfl (lv_at hl 0 rfl) ?_
          refine lv_dup hx hb dX9_next_26 rfl ?_
          refine gw_get (T := TX9) (k := 6) (v := .int (S 0 6)) B hI gm_g0 rfl ly_X9_next_9 (by decide) m_X9_next_162 rfl rfl dX9_next_27 ?_
          refine lv_iconst (v := 1) hx hb dX9_next_30 (by decide) ?_
          refine lv_iadd hx hb dX9_next_31 ?_
          obtain ⟨S6, e7, h⟩ := gw_letE h
          refine gw_put (T := TX9) (k := 6) (w' := gw_mw cc a S6) B hI gm_g0 rfl ly_X9_next_9 tyX9 tyX9_ok nmX9 (by decide) m_X9_next_162 rfl rfl rfl rfl (Nat.le_of_ble_eq_true rfl) (gm_s0_6 e7) dX9_next_32 (fun H locs hI => ?_)
          refine lv_goto (tgt := 0) hx hb dX9_next_35 (by decide) ?_
          exact ih  S6 h _ _ _ hI (lv_sub hl [0] rfl)
  unfold f_X9_next at h
  exact hb0  gw_F  S h _ _ _ hI (lv_sub hl [0] rfl)
theorem m_X9_termOf_7 : Cond.fieldLink RX9 7 "GownLetModel" "letters" "[I" ∈ wsX9_termOf := by decide +kernel
theorem ly_X9_termOf_9 : ∀ w ∈ wsX90, w ∈ wsX9_termOf := fun w h => List.mem_cons_of_mem _ (List.mem_append_right _ h)
set_option maxRecDepth 100000 in
set_option maxHeartbeats 4000000 in
theorem k_X9_termOf (x1 : Int32) (S : gw_S) {zr : Int32} (h : f_X9_termOf x1 S = some zr) : gw_M l yX9_termOf wsX9_termOf rm_X9_termOf 0 0 D (gw_ty cc) t1 t2 [.ref (a 0), .int x1] (gw_mw cc a S) (fun w => w = gw_mw cc a S) (some (.int zr)) := by
  refine gw_enter (cc := cX9_termOf) (maxL := 3) (ret := (some .int)) (own := RX9) rfl (by decide) rfl (Nat.le_of_ble_eq_true rfl) ?_
  intro p e s m below meth c A B hin hI ls hl
  have hl : lv_has ls 3 [(0, .ref (a 0)), (1, .int x1)] := hl
  generalize ([.ref (a 0), .int x1] : List Value).toArray = args at B ⊢
  have hx := B.1.1
  have hb := B.1.2.1
  have hown : s.vm.findClass RX9 = some m.cls := B.1.2.2.2.1
  have hts := B.1.2.2.2.2
  have hb2 :  ∀ (n : Nat), ∀ (v1 : Int32) (v2 : Int32), f_X9_termOf_b2 S  n v1 v2 = some zr → ∀ (H : Heap) (locs : List Loc) (ls : Array Slot), gw_I D A s.heap (gw_mw cc a S) H locs → lv_has ls 3 [(0, .ref (a 0)), (1, .int v1), (2, .int v2)] → W p l e rm_X9_termOf s m args below meth c H locs 0 0 (MQ below (gw_Q (some (.int zr)) (gw_Pst D A (fun w => w = gw_mw cc a S)) A) args s 0 0 A) (F0 m 2 ls []) := by
    intro n
    induction n with
    | zero =>
      intro v1 v2 h
      cases h
    | succ n ih =>
      intro v1 v2 h H locs ls hI hl
      unfold f_X9_termOf_b2 at h
      refine lv_iload_n hx hb dX9_termOf_2 rfl (lv_at hl 2 rfl) ?_
      refine lv_bipush (v := 8) hx hb dX9_termOf_3 (by decide) ?_
      refine lv_icmp_ge (tgt := 26) hx hb dX9_termOf_5 (by decide) (fun c1 => ?_) (fun c1 => ?_)
      · replace h := gw_ifT c1 h
        refine lv_iconst (v := -1) hx hb dX9_termOf_26 (by decide) ?_
        rw [← Option.some.inj h]
        exact gw_iret (W' := (fun w => w = gw_mw cc a S)) B hI rfl (Nat.zero_le _) (Nat.zero_le _) dX9_termOf_27
      · replace h := gw_ifF c1 h
        refine lv_aload_n hx hb dX9_termOf_8 rfl (lv_at hl 0 rfl) ?_
        refine gw_get (T := TX9) (k := 0) (v := .ref (a 1)) B hI gm_g0 rfl ly_X9_termOf_9 (by decide) m_X9_termOf_7 rfl rfl dX9_termOf_9 ?_
        refine lv_iload_n hx hb dX9_termOf_12 rfl (lv_at hl 2 rfl) ?_
        obtain ⟨g2, h⟩ := gw_gdE h
        refine gw_iald (t0 := 0) B hI gm_g1 rfl g2 dX9_termOf_13 ?_
        refine lv_iload_n hx hb dX9_termOf_14 rfl (lv_at hl 1 rfl) ?_
        refine lv_icmp_ne (tgt := 20) hx hb dX9_termOf_15 (by decide) (fun c3 => ?_) (fun c3 => ?_)
        · replace h := gw_ifF c3 h
          obtain ⟨y4, e5, h⟩ := gw_letE h
          refine lv_iinc (v := y4) (lv' := [(2, .int y4), (0, .ref (a 0)), (1, .int v1)]) hx hb dX9_termOf_20 hl (k := 2) rfl (by rw [e5]; rfl) (by decide) rfl (fun ls hl => ?_)
          refine lv_goto (tgt := 2) hx hb dX9_termOf_23 (by decide) ?_
          exact ih v1 y4 h _ _ _ hI (lv_sub hl [1, 2, 0] rfl)
        · replace h := gw_ifT c3 h
          refine lv_iload_n hx hb dX9_termOf_18 rfl (lv_at hl 2 rfl) ?_
          rw [← Option.some.inj h]
          exact gw_iret (W' := (fun w => w = gw_mw cc a S)) B hI rfl (Nat.zero_le _) (Nat.zero_le _) dX9_termOf_19
  unfold f_X9_termOf at h
  refine lv_iconst (v := 0) hx hb dX9_termOf_0 (by decide) ?_
  refine lv_istore_n (lv' := [(2, .int (0 : Int32)), (0, .ref (a 0)), (1, .int x1)]) hx hb dX9_termOf_1 rfl hl (by decide) rfl (fun ls hl => ?_)
  exact hb2  gw_F x1 (0 : Int32) h _ _ _ hI (lv_sub hl [1, 2, 0] rfl)
theorem m_X9_number_158 : Cond.fieldLink RX9 158 "GownLetModel" "taped" "I" ∈ wsX9_number := by decide +kernel
theorem m_X9_number_162 : Cond.fieldLink RX9 162 "GownLetModel" "at" "I" ∈ wsX9_number := by decide +kernel
theorem m_X9_number_22 : Cond.fieldLink RX9 22 "GownLetModel" "tape" "[I" ∈ wsX9_number := by decide +kernel
theorem ly_X9_number_9 : ∀ w ∈ wsX90, w ∈ wsX9_number := fun w h => List.mem_cons_of_mem _ (List.mem_append_right _ h)
set_option maxRecDepth 100000 in
set_option maxHeartbeats 4000000 in
theorem k_X9_number (x1 : Int32) (S : gw_S) {zr : Int32} {zS : gw_S} (h : f_X9_number x1 S = some (zr, zS)) : gw_M l yX9_number wsX9_number rm_X9_number 0 0 D (gw_ty cc) t1 t2 [.ref (a 0), .int x1] (gw_mw cc a S) (fun w => w = gw_mw cc a zS) (some (.int zr)) := by
  refine gw_enter (cc := cX9_number) (maxL := 5) (ret := (some .int)) (own := RX9) rfl (by decide) rfl (Nat.le_of_ble_eq_true rfl) ?_
  intro p e s m below meth c A B hin hI ls hl
  have hl : lv_has ls 5 [(0, .ref (a 0)), (1, .int x1)] := hl
  generalize ([.ref (a 0), .int x1] : List Value).toArray = args at B ⊢
  have hx := B.1.1
  have hb := B.1.2.1
  have hown : s.vm.findClass RX9 = some m.cls := B.1.2.2.2.1
  have hts := B.1.2.2.2.2
  have hb108 :  ∀ (v3 : Int32) (S : gw_S), f_X9_number_b108  v3 S = some (zr, zS) → ∀ (H : Heap) (locs : List Loc) (ls : Array Slot), gw_I D A s.heap (gw_mw cc a S) H locs → lv_has ls 5 [(0, .ref (a 0)), (3, .int v3)] → W p l e rm_X9_number s m args below meth c H locs 0 0 (MQ below (gw_Q (some (.int zr)) (gw_Pst D A (fun w => w = gw_mw cc a zS)) A) args s 0 0 A) (F0 m 108 ls []) := by
    intro v3 S h H locs ls hI hl
    unfold f_X9_number_b108 at h
    refine lv_aload_n hx hb dX9_number_108 rfl (lv_at hl 0 rfl) ?_
    refine lv_iload_n hx hb dX9_number_109 rfl (lv_at hl 1 rfl) ?_
    obtain ⟨S1, e2, h⟩ := gw_letE h
    refine gw_put (T := TX9) (k := 6) (w' := gw_mw cc a S1) B hI gm_g0 rfl ly_X9_number_9 tyX9 tyX9_ok nmX9 (by decide) m_X9_number_162 rfl rfl rfl rfl (Nat.le_of_ble_eq_true rfl) (gm_s0_6 e2) dX9_number_110 (fun H locs hI => ?_)
    refine lv_iconst (v := -1) hx hb dX9_number_113 (by decide) ?_
    obtain ⟨h1, h2⟩ := Prod.mk.inj (Option.some.inj h)
    rw [h2] at hI
    rw [← h1]
    exact gw_iret (W' := (fun w => w = gw_mw cc a zS)) B hI rfl (Nat.zero_le _) (Nat.zero_le _) dX9_number_114
  have hb90 :  ∀ (v1 : Int32) (v2 : Int32) (v3 : Int32) (v4 : Int32) (S : gw_S), f_X9_number_b90  v1 v2 v3 v4 S = some (zr, zS) → ∀ (H : Heap) (locs : List Loc) (ls : Array Slot), gw_I D A s.heap (gw_mw cc a S) H locs → lv_has ls 5 [(0, .ref (a 0)), (1, .int v1), (2, .int v2), (3, .int v3), (4, .int v4)] → W p l e rm_X9_number s m args below meth c H locs 0 0 (MQ below (gw_Q (some (.int zr)) (gw_Pst D A (fun w => w = gw_mw cc a zS)) A) args s 0 0 A) (F0 m 90 ls []) := by
    intro v1 v2 v3 v4 S h H locs ls hI hl
    unfold f_X9_number_b90 at h
    refine lv_iload_n hx hb dX9_number_90 rfl (lv_at hl 2 rfl) ?_
    refine lv_if_lt (tgt := 108) hx hb dX9_number_91 (by decide) (fun c3 => ?_) (fun c3 => ?_)
    · replace h := gw_ifT c3 h
      exact hb108  v3 S h _ _ _ hI (lv_sub hl [0, 3] rfl)
    · replace h := gw_ifF c3 h
      refine lv_aload_n hx hb dX9_number_94 rfl (lv_at hl 0 rfl) ?_
      refine gw_get (T := TX9) (k := 6) (v := .int (S 0 6)) B hI gm_g0 rfl ly_X9_number_9 (by decide) m_X9_number_162 rfl rfl dX9_number_95 ?_
      refine lv_iload_n hx hb dX9_number_98 rfl (lv_at hl 3 rfl) ?_
      refine lv_icmp_eq (tgt := 108) hx hb dX9_number_99 (by decide) (fun c4 => ?_) (fun c4 => ?_)
      · replace h := gw_ifT c4 h
        exact hb108  v3 S h _ _ _ hI (lv_sub hl [0, 3] rfl)
      · replace h := gw_ifF c4 h
        refine lv_iload hx hb dX9_number_102 (lv_at hl 4 rfl) ?_
        refine lv_iload_n hx hb dX9_number_104 rfl (lv_at hl 1 rfl) ?_
        refine lv_icmp_le (tgt := 115) hx hb dX9_number_105 (by decide) (fun c5 => ?_) (fun c5 => ?_)
        · replace h := gw_ifT c5 h
          refine lv_iload hx hb dX9_number_115 (lv_at hl 4 rfl) ?_
          obtain ⟨h1, h2⟩ := Prod.mk.inj (Option.some.inj h)
          rw [h2] at hI
          rw [← h1]
          exact gw_iret (W' := (fun w => w = gw_mw cc a zS)) B hI rfl (Nat.zero_le _) (Nat.zero_le _) dX9_number_117
        · replace h := gw_ifF c5 h
          exact hb108  v3 S h _ _ _ hI (lv_sub hl [0, 3] rfl)
  have hb75 : ∀ (K13 : Int32 → Int32 → Int32 → Int32 → gw_S → Option (Int32 × gw_S)) (_ : ∀ (v1 : Int32) (v2 : Int32) (v3 : Int32) (v4 : Int32) (S : gw_S), K13 v1 v2 v3 v4 S = some (zr, zS) → ∀ (H : Heap) (locs : List Loc) (ls : Array Slot), gw_I D A s.heap (gw_mw cc a S) H locs → lv_has ls 5 [(0, .ref (a 0)), (1, .int v1), (2, .int v2), (3, .int v3), (4, .int v4)] → W p l e rm_X9_number s m args below meth c H locs 0 0 (MQ below (gw_Q (some (.int zr)) (gw_Pst D A (fun w => w = gw_mw cc a zS)) A) args s 0 0 A) (F0 m 13 ls [])), ∀ (v1 : Int32) (v2 : Int32) (v3 : Int32) (t0_ : Int32) (S : gw_S), f_X9_number_b75 K13 v1 v2 v3 t0_ S = some (zr, zS) → ∀ (H : Heap) (locs : List Loc) (ls : Array Slot), gw_I D A s.heap (gw_mw cc a S) H locs → lv_has ls 5 [(0, .ref (a 0)), (1, .int v1), (2, .int v2), (3, .int v3)] → W p l e rm_X9_number s m args below meth c H locs 0 0 (MQ below (gw_Q (some (.int zr)) (gw_Pst D A (fun w => w = gw_mw cc a zS)) A) args s 0 0 A) (F0 m 75 ls [.int t0_]) := by
    intro K13 hK13
    intro v1 v2 v3 t0_ S h H locs ls hI hl
    unfold f_X9_number_b75 at h
    refine lv_istore (lv' := [(4, .int t0_), (0, .ref (a 0)), (1, .int v1), (2, .int v2), (3, .int v3)]) hx hb dX9_number_75 hl (by decide) rfl (fun ls hl => ?_)
    refine lv_aload_n hx hb dX9_number_77 rfl (lv_at hl 1 rfl) ?_
    refine lv_dup hx hb dX9_number_78 rfl ?_
    refine gw_get (T := TX9) (k := 6) (v := .int (S 0 6)) B hI gm_g0 rfl ly_X9_number_9 (by decide) m_X9_number_162 rfl rfl dX9_number_79 ?_
    refine lv_iconst (v := 1) hx hb dX9_number_82 (by decide) ?_
    refine lv_iadd hx hb dX9_number_83 ?_
    obtain ⟨S6, e7, h⟩ := gw_letE h
    refine gw_put (T := TX9) (k := 6) (w' := gw_mw cc a S6) B hI gm_g0 rfl ly_X9_number_9 tyX9 tyX9_ok nmX9 (by decide) m_X9_number_162 rfl rfl rfl rfl (Nat.le_of_ble_eq_true rfl) (gm_s0_6 e7) dX9_number_84 (fun H locs hI => ?_)
    refine lv_goto (tgt := 13) hx hb dX9_number_87 (by decide) ?_
    exact hK13 v1 v2 v3 t0_ S6 h _ _ _ hI (lv_sub hl [1, 2, 3, 4, 0] rfl)
  have hb13 :  ∀ (n : Nat), ∀ (v1 : Int32) (v2 : Int32) (v3 : Int32) (v4 : Int32) (S : gw_S), f_X9_number_b13  n v1 v2 v3 v4 S = some (zr, zS) → ∀ (H : Heap) (locs : List Loc) (ls : Array Slot), gw_I D A s.heap (gw_mw cc a S) H locs → lv_has ls 5 [(0, .ref (a 0)), (1, .int v1), (2, .int v2), (3, .int v3), (4, .int v4)] → W p l e rm_X9_number s m args below meth c H locs 0 0 (MQ below (gw_Q (some (.int zr)) (gw_Pst D A (fun w => w = gw_mw cc a zS)) A) args s 0 0 A) (F0 m 13 ls []) := by
    intro n
    induction n with
    | zero =>
      intro v1 v2 v3 v4 S h
      cases h
    | succ n ih =>
      intro v1 v2 v3 v4 S h H locs ls hI hl
      unfold f_X9_number_b13 at h
      refine lv_aload_n hx hb dX9_number_13 rfl (lv_at hl 0 rfl) ?_
      refine gw_get (T := TX9) (k := 6) (v := .int (S 0 6)) B hI gm_g0 rfl ly_X9_number_9 (by decide) m_X9_number_162 rfl rfl dX9_number_14 ?_
      refine lv_aload_n hx hb dX9_number_17 rfl (lv_at hl 0 rfl) ?_
      refine gw_get (T := TX9) (k := 5) (v := .int (S 0 5)) B hI gm_g0 rfl ly_X9_number_9 (by decide) m_X9_number_158 rfl rfl dX9_number_18 ?_
      refine lv_icmp_ge (tgt := 90) hx hb dX9_number_21 (by decide) (fun c8 => ?_) (fun c8 => ?_)
      · replace h := gw_ifT c8 h
        exact hb90  v1 v2 v3 v4 S h _ _ _ hI (lv_sub hl [0, 1, 2, 3, 4] rfl)
      · replace h := gw_ifF c8 h
        refine lv_aload_n hx hb dX9_number_24 rfl (lv_at hl 0 rfl) ?_
        refine gw_get (T := TX9) (k := 4) (v := .ref (a 5)) B hI gm_g0 rfl ly_X9_number_9 (by decide) m_X9_number_22 rfl rfl dX9_number_25 ?_
        refine lv_aload_n hx hb dX9_number_28 rfl (lv_at hl 0 rfl) ?_
        refine gw_get (T := TX9) (k := 6) (v := .int (S 0 6)) B hI gm_g0 rfl ly_X9_number_9 (by decide) m_X9_number_162 rfl rfl dX9_number_29 ?_
        obtain ⟨g9, h⟩ := gw_gdE h
        refine gw_iald (t0 := 0) B hI gm_g5 rfl g9 dX9_number_32 ?_
        refine lv_i2l hx hb dX9_number_33 rfl ?_
        refine lv_ldc2 (v := 48) hx hb hown (hts (.constantLong RX9 169 (48)) (by decide +kernel)) dX9_number_34 ?_
        refine lv_ldc2 (v := 57) hx hb hown (hts (.constantLong RX9 171 (57)) (by decide +kernel)) dX9_number_37 ?_
        obtain ⟨r10, e11, h⟩ := gw_bdE h
        refine gw_callS (As := [.long ((S 5 (S 0 6).toNatClampNeg).toInt64), .long (48 : Int64), .long (57 : Int64)]) (n := 3) B hI (k_X9_in ((S 5 (S 0 6).toNatClampNeg).toInt64) (48 : Int64) (57 : Int64) S e11) gX9_number_X9_in rfl rfl rfl nds_X9_in ⟨Nat.le_of_ble_eq_true rfl, Nat.le_of_ble_eq_true rfl⟩ rfl hl.1 (Nat.zero_le _) dX9_number_40 ⟨Nat.le_of_ble_eq_true rfl, Nat.le_of_ble_eq_true rfl⟩ rfl (fun w' H locs hw hI => ?_)
        subst hw
        refine lv_if_eq (tgt := 90) hx hb dX9_number_43 (by decide) (fun c12 => ?_) (fun c12 => ?_)
        · replace h := gw_ifT c12 h
          exact hb90  v1 v2 v3 v4 S h _ _ _ hI (lv_sub hl [0, 1, 2, 3, 4] rfl)
        · replace h := gw_ifF c12 h
          refine lv_iload hx hb dX9_number_46 (lv_at hl 4 rfl) ?_
          refine lv_iload_n hx hb dX9_number_48 rfl (lv_at hl 1 rfl) ?_
          refine lv_icmp_le (tgt := 57) hx hb dX9_number_49 (by decide) (fun c13 => ?_) (fun c13 => ?_)
          · replace h := gw_ifT c13 h
            refine lv_bipush (v := 10) hx hb dX9_number_57 (by decide) ?_
            refine lv_iload hx hb dX9_number_59 (lv_at hl 4 rfl) ?_
            refine lv_imul hx hb dX9_number_61 ?_
            refine lv_aload_n hx hb dX9_number_62 rfl (lv_at hl 0 rfl) ?_
            refine gw_get (T := TX9) (k := 4) (v := .ref (a 5)) B hI gm_g0 rfl ly_X9_number_9 (by decide) m_X9_number_22 rfl rfl dX9_number_63 ?_
            refine lv_aload_n hx hb dX9_number_66 rfl (lv_at hl 0 rfl) ?_
            refine gw_get (T := TX9) (k := 6) (v := .int (S 0 6)) B hI gm_g0 rfl ly_X9_number_9 (by decide) m_X9_number_162 rfl rfl dX9_number_67 ?_
            refine gw_iald (t0 := 0) B hI gm_g5 rfl g9 dX9_number_70 ?_
            refine lv_iadd hx hb dX9_number_71 ?_
            refine lv_bipush (v := 48) hx hb dX9_number_72 (by decide) ?_
            refine lv_isub hx hb dX9_number_74 ?_
            exact hb75 (f_X9_number_b13  n) ih v1 v2 v3 ((((10 : Int32) * v4) + (S 5 (S 0 6).toNatClampNeg)) - (48 : Int32)) S h _ _ _ hI (lv_sub hl [0, 1, 2, 3] rfl)
          · replace h := gw_ifF c13 h
            refine lv_iload hx hb dX9_number_52 (lv_at hl 4 rfl) ?_
            refine lv_goto (tgt := 75) hx hb dX9_number_54 (by decide) ?_
            exact hb75 (f_X9_number_b13  n) ih v1 v2 v3 v4 S h _ _ _ hI (lv_sub hl [0, 1, 2, 3] rfl)
  unfold f_X9_number at h
  refine lv_aload_n hx hb dX9_number_0 rfl (lv_at hl 0 rfl) ?_
  obtain ⟨r14, S15, e16, h⟩ := gw_b2E h
  refine gw_callV (As := []) (n := 0) B hI (k_X9_next  S e16) gX9_number_X9_next rfl rfl rfl nd_X9_next ⟨Nat.le_of_ble_eq_true rfl, Nat.le_of_ble_eq_true rfl⟩ gm_g0 rfl rfl rfl hl.1 (Nat.zero_le _) dX9_number_1 ⟨Nat.le_of_ble_eq_true rfl, Nat.le_of_ble_eq_true rfl⟩ rfl (fun w' H locs hw hI => ?_)
  subst hw
  refine lv_istore_n (lv' := [(2, .int r14), (0, .ref (a 0)), (1, .int x1)]) hx hb dX9_number_4 rfl hl (by decide) rfl (fun ls hl => ?_)
  refine lv_aload_n hx hb dX9_number_5 rfl (lv_at hl 1 rfl) ?_
  refine gw_get (T := TX9) (k := 6) (v := .int (S15 0 6)) B hI gm_g0 rfl ly_X9_number_9 (by decide) m_X9_number_162 rfl rfl dX9_number_6 ?_
  obtain ⟨y17, e18, h⟩ := gw_letE h
  rw [← e18]
  refine lv_istore_n (lv' := [(3, .int y17), (2, .int r14), (0, .ref (a 0)), (1, .int x1)]) hx hb dX9_number_9 rfl hl (by decide) rfl (fun ls hl => ?_)
  refine lv_iconst (v := 0) hx hb dX9_number_10 (by decide) ?_
  refine lv_istore (lv' := [(4, .int (0 : Int32)), (3, .int y17), (2, .int r14), (0, .ref (a 0)), (1, .int x1)]) hx hb dX9_number_11 hl (by decide) rfl (fun ls hl => ?_)
  exact hb13  gw_F x1 r14 y17 (0 : Int32) S15 h _ _ _ hI (lv_sub hl [3, 4, 2, 1, 0] rfl)
theorem m_X9_readAll_13 : Cond.fieldLink RX9 13 "GownLetModel" "limits" "[I" ∈ wsX9_readAll := by decide +kernel
theorem m_X9_readAll_16 : Cond.fieldLink RX9 16 "GownLetModel" "terms" "[I" ∈ wsX9_readAll := by decide +kernel
theorem m_X9_readAll_162 : Cond.fieldLink RX9 162 "GownLetModel" "at" "I" ∈ wsX9_readAll := by decide +kernel
theorem m_X9_readAll_19 : Cond.fieldLink RX9 19 "GownLetModel" "readTerms" "[I" ∈ wsX9_readAll := by decide +kernel
theorem ly_X9_readAll_9 : ∀ w ∈ wsX90, w ∈ wsX9_readAll := fun w h => List.mem_cons_of_mem _ (List.mem_append_right _ h)
set_option maxRecDepth 100000 in
set_option maxHeartbeats 4000000 in
theorem k_X9_readAll  (S : gw_S) {zr : Int32} {zS : gw_S} (h : f_X9_readAll  S = some (zr, zS)) : gw_M l yX9_readAll wsX9_readAll rm_X9_readAll 0 0 D (gw_ty cc) t1 t2 [.ref (a 0)] (gw_mw cc a S) (fun w => w = gw_mw cc a zS) (some (.int zr)) := by
  refine gw_enter (cc := cX9_readAll) (maxL := 6) (ret := (some .int)) (own := RX9) rfl (by decide) rfl (Nat.le_of_ble_eq_true rfl) ?_
  intro p e s m below meth c A B hin hI ls hl
  have hl : lv_has ls 6 [(0, .ref (a 0))] := hl
  generalize ([.ref (a 0)] : List Value).toArray = args at B ⊢
  have hx := B.1.1
  have hb := B.1.2.1
  have hown : s.vm.findClass RX9 = some m.cls := B.1.2.2.2.1
  have hts := B.1.2.2.2.2
  have hb145 : ∀ (K35 : Int32 → Int32 → gw_S → Option (Int32 × gw_S)) (_ : ∀ (v1 : Int32) (v2 : Int32) (S : gw_S), K35 v1 v2 S = some (zr, zS) → ∀ (H : Heap) (locs : List Loc) (ls : Array Slot), gw_I D A s.heap (gw_mw cc a S) H locs → lv_has ls 6 [(0, .ref (a 0)), (1, .int v1), (2, .int v2)] → W p l e rm_X9_readAll s m args below meth c H locs 0 0 (MQ below (gw_Q (some (.int zr)) (gw_Pst D A (fun w => w = gw_mw cc a zS)) A) args s 0 0 A) (F0 m 35 ls [])), ∀ (v1 : Int32) (v2 : Int32) (t0_ : Int32) (t1_ : Int32) (S : gw_S), f_X9_readAll_b145 K35 v1 v2 t0_ t1_ S = some (zr, zS) → ∀ (H : Heap) (locs : List Loc) (ls : Array Slot), gw_I D A s.heap (gw_mw cc a S) H locs → lv_has ls 6 [(0, .ref (a 0)), (1, .int v1), (2, .int v2)] → W p l e rm_X9_readAll s m args below meth c H locs 0 0 (MQ below (gw_Q (some (.int zr)) (gw_Pst D A (fun w => w = gw_mw cc a zS)) A) args s 0 0 A) (F0 m 145 ls [.int t0_, .int t1_, .ref (a 0)]) := by
    intro K35 hK35
    intro v1 v2 t0_ t1_ S h H locs ls hI hl
    unfold f_X9_readAll_b145 at h
    refine lv_iadd hx hb dX9_readAll_145 ?_
    obtain ⟨S1, e2, h⟩ := gw_letE h
    refine gw_put (T := TX9) (k := 6) (w' := gw_mw cc a S1) B hI gm_g0 rfl ly_X9_readAll_9 tyX9 tyX9_ok nmX9 (by decide) m_X9_readAll_162 rfl rfl rfl rfl (Nat.le_of_ble_eq_true rfl) (gm_s0_6 e2) dX9_readAll_146 (fun H locs hI => ?_)
    refine lv_goto (tgt := 35) hx hb dX9_readAll_149 (by decide) ?_
    exact hK35 v1 v2 S1 h _ _ _ hI (lv_sub hl [0, 1, 2] rfl)
  have hb130 : ∀ (K35 : Int32 → Int32 → gw_S → Option (Int32 × gw_S)) (_ : ∀ (v1 : Int32) (v2 : Int32) (S : gw_S), K35 v1 v2 S = some (zr, zS) → ∀ (H : Heap) (locs : List Loc) (ls : Array Slot), gw_I D A s.heap (gw_mw cc a S) H locs → lv_has ls 6 [(0, .ref (a 0)), (1, .int v1), (2, .int v2)] → W p l e rm_X9_readAll s m args below meth c H locs 0 0 (MQ below (gw_Q (some (.int zr)) (gw_Pst D A (fun w => w = gw_mw cc a zS)) A) args s 0 0 A) (F0 m 35 ls [])), ∀ (v1 : Int32) (t0_ : Int32) (S : gw_S), f_X9_readAll_b130 K35 v1 t0_ S = some (zr, zS) → ∀ (H : Heap) (locs : List Loc) (ls : Array Slot), gw_I D A s.heap (gw_mw cc a S) H locs → lv_has ls 6 [(0, .ref (a 0)), (1, .int v1)] → W p l e rm_X9_readAll s m args below meth c H locs 0 0 (MQ below (gw_Q (some (.int zr)) (gw_Pst D A (fun w => w = gw_mw cc a zS)) A) args s 0 0 A) (F0 m 130 ls [.int t0_]) := by
    intro K35 hK35
    intro v1 t0_ S h H locs ls hI hl
    unfold f_X9_readAll_b130 at h
    refine lv_istore_n (lv' := [(2, .int t0_), (0, .ref (a 0)), (1, .int v1)]) hx hb dX9_readAll_130 rfl hl (by decide) rfl (fun ls hl => ?_)
    refine lv_aload_n hx hb dX9_readAll_131 rfl (lv_at hl 1 rfl) ?_
    refine lv_dup hx hb dX9_readAll_132 rfl ?_
    refine gw_get (T := TX9) (k := 6) (v := .int (S 0 6)) B hI gm_g0 rfl ly_X9_readAll_9 (by decide) m_X9_readAll_162 rfl rfl dX9_readAll_133 ?_
    refine lv_iload_n hx hb dX9_readAll_136 rfl (lv_at hl 0 rfl) ?_
    refine lv_if_eq (tgt := 144) hx hb dX9_readAll_137 (by decide) (fun c3 => ?_) (fun c3 => ?_)
    · replace h := gw_ifT c3 h
      refine lv_iconst (v := 0) hx hb dX9_readAll_144 (by decide) ?_
      exact hb145 K35 hK35 v1 t0_ (0 : Int32) (S 0 6) S h _ _ _ hI (lv_sub hl [1, 2, 0] rfl)
    · replace h := gw_ifF c3 h
      refine lv_iconst (v := 1) hx hb dX9_readAll_140 (by decide) ?_
      refine lv_goto (tgt := 145) hx hb dX9_readAll_141 (by decide) ?_
      exact hb145 K35 hK35 v1 t0_ (1 : Int32) (S 0 6) S h _ _ _ hI (lv_sub hl [1, 2, 0] rfl)
  have hb120 : ∀ (K35 : Int32 → Int32 → gw_S → Option (Int32 × gw_S)) (_ : ∀ (v1 : Int32) (v2 : Int32) (S : gw_S), K35 v1 v2 S = some (zr, zS) → ∀ (H : Heap) (locs : List Loc) (ls : Array Slot), gw_I D A s.heap (gw_mw cc a S) H locs → lv_has ls 6 [(0, .ref (a 0)), (1, .int v1), (2, .int v2)] → W p l e rm_X9_readAll s m args below meth c H locs 0 0 (MQ below (gw_Q (some (.int zr)) (gw_Pst D A (fun w => w = gw_mw cc a zS)) A) args s 0 0 A) (F0 m 35 ls [])), ∀ (v1 : Int32) (v5 : Int32) (S : gw_S), f_X9_readAll_b120 K35 v1 v5 S = some (zr, zS) → ∀ (H : Heap) (locs : List Loc) (ls : Array Slot), gw_I D A s.heap (gw_mw cc a S) H locs → lv_has ls 6 [(0, .ref (a 0)), (1, .int v1), (5, .int v5)] → W p l e rm_X9_readAll s m args below meth c H locs 0 0 (MQ below (gw_Q (some (.int zr)) (gw_Pst D A (fun w => w = gw_mw cc a zS)) A) args s 0 0 A) (F0 m 120 ls []) := by
    intro K35 hK35
    intro v1 v5 S h H locs ls hI hl
    unfold f_X9_readAll_b120 at h
    refine lv_iload hx hb dX9_readAll_120 (lv_at hl 2 rfl) ?_
    refine lv_if_lt (tgt := 129) hx hb dX9_readAll_122 (by decide) (fun c4 => ?_) (fun c4 => ?_)
    · replace h := gw_ifT c4 h
      refine lv_iconst (v := 0) hx hb dX9_readAll_129 (by decide) ?_
      exact hb130 K35 hK35 v1 (0 : Int32) S h _ _ _ hI (lv_sub hl [0, 1] rfl)
    · replace h := gw_ifF c4 h
      refine lv_iconst (v := 1) hx hb dX9_readAll_125 (by decide) ?_
      refine lv_goto (tgt := 130) hx hb dX9_readAll_126 (by decide) ?_
      exact hb130 K35 hK35 v1 (1 : Int32) S h _ _ _ hI (lv_sub hl [0, 1] rfl)
  have hb35 :  ∀ (n : Nat), ∀ (v1 : Int32) (v2 : Int32) (S : gw_S), f_X9_readAll_b35  n v1 v2 S = some (zr, zS) → ∀ (H : Heap) (locs : List Loc) (ls : Array Slot), gw_I D A s.heap (gw_mw cc a S) H locs → lv_has ls 6 [(0, .ref (a 0)), (1, .int v1), (2, .int v2)] → W p l e rm_X9_readAll s m args below meth c H locs 0 0 (MQ below (gw_Q (some (.int zr)) (gw_Pst D A (fun w => w = gw_mw cc a zS)) A) args s 0 0 A) (F0 m 35 ls []) := by
    intro n
    induction n with
    | zero =>
      intro v1 v2 S h
      cases h
    | succ n ih =>
      intro v1 v2 S h H locs ls hI hl
      unfold f_X9_readAll_b35 at h
      refine lv_iload_n hx hb dX9_readAll_35 rfl (lv_at hl 2 rfl) ?_
      refine lv_if_eq (tgt := 152) hx hb dX9_readAll_36 (by decide) (fun c5 => ?_) (fun c5 => ?_)
      · replace h := gw_ifT c5 h
        refine lv_iload_n hx hb dX9_readAll_152 rfl (lv_at hl 1 rfl) ?_
        obtain ⟨h1, h2⟩ := Prod.mk.inj (Option.some.inj h)
        rw [h2] at hI
        rw [← h1]
        exact gw_iret (W' := (fun w => w = gw_mw cc a zS)) B hI rfl (Nat.zero_le _) (Nat.zero_le _) dX9_readAll_153
      · replace h := gw_ifF c5 h
        refine lv_aload_n hx hb dX9_readAll_39 rfl (lv_at hl 0 rfl) ?_
        refine lv_aload_n hx hb dX9_readAll_40 rfl (lv_at hl 0 rfl) ?_
        obtain ⟨r6, S7, e8, h⟩ := gw_b2E h
        refine gw_callV (As := []) (n := 0) B hI (k_X9_next  S e8) gX9_readAll_X9_next rfl rfl rfl nd_X9_next ⟨Nat.le_of_ble_eq_true rfl, Nat.le_of_ble_eq_true rfl⟩ gm_g0 rfl rfl rfl hl.1 (by simp [gw_catq, gw_cI, gw_cR, gw_cL]) dX9_readAll_41 ⟨Nat.le_of_ble_eq_true rfl, Nat.le_of_ble_eq_true rfl⟩ rfl (fun w' H locs hw hI => ?_)
        subst hw
        obtain ⟨r9, e10, h⟩ := gw_bdE h
        refine gw_callV (As := [.int r6]) (n := 1) B hI (k_X9_termOf r6 S7 e10) gX9_readAll_X9_termOf rfl rfl rfl nd_X9_termOf ⟨Nat.le_of_ble_eq_true rfl, Nat.le_of_ble_eq_true rfl⟩ gm_g0 rfl rfl rfl hl.1 (Nat.zero_le _) dX9_readAll_44 ⟨Nat.le_of_ble_eq_true rfl, Nat.le_of_ble_eq_true rfl⟩ rfl (fun w' H locs hw hI => ?_)
        subst hw
        refine lv_istore_n (lv' := [(3, .int r9), (0, .ref (a 0)), (1, .int v1), (2, .int v2)]) hx hb dX9_readAll_47 rfl hl (by decide) rfl (fun ls hl => ?_)
        refine lv_iload_n hx hb dX9_readAll_48 rfl (lv_at hl 0 rfl) ?_
        refine lv_if_ge (tgt := 54) hx hb dX9_readAll_49 (by decide) (fun c11 => ?_) (fun c11 => ?_)
        · replace h := gw_ifT c11 h
          refine lv_aload_n hx hb dX9_readAll_54 rfl (lv_at hl 1 rfl) ?_
          refine lv_dup hx hb dX9_readAll_55 rfl ?_
          refine gw_get (T := TX9) (k := 6) (v := .int (S7 0 6)) B hI gm_g0 rfl ly_X9_readAll_9 (by decide) m_X9_readAll_162 rfl rfl dX9_readAll_56 ?_
          refine lv_iconst (v := 1) hx hb dX9_readAll_59 (by decide) ?_
          refine lv_iadd hx hb dX9_readAll_60 ?_
          obtain ⟨S12, e13, h⟩ := gw_letE h
          refine gw_put (T := TX9) (k := 6) (w' := gw_mw cc a S12) B hI gm_g0 rfl ly_X9_readAll_9 tyX9 tyX9_ok nmX9 (by decide) m_X9_readAll_162 rfl rfl rfl rfl (Nat.le_of_ble_eq_true rfl) (gm_s0_6 e13) dX9_readAll_61 (fun H locs hI => ?_)
          refine lv_aload_n hx hb dX9_readAll_64 rfl (lv_at hl 1 rfl) ?_
          refine lv_aload_n hx hb dX9_readAll_65 rfl (lv_at hl 1 rfl) ?_
          refine gw_get (T := TX9) (k := 1) (v := .ref (a 2)) B hI gm_g0 rfl ly_X9_readAll_9 (by decide) m_X9_readAll_13 rfl rfl dX9_readAll_66 ?_
          refine lv_iload_n hx hb dX9_readAll_69 rfl (lv_at hl 0 rfl) ?_
          obtain ⟨g14, h⟩ := gw_gdE h
          refine gw_iald (t0 := 0) B hI gm_g2 rfl g14 dX9_readAll_70 ?_
          obtain ⟨r15, S16, e17, h⟩ := gw_b2E h
          refine gw_callV (As := [.int (S12 2 r9.toNatClampNeg)]) (n := 1) B hI (k_X9_number (S12 2 r9.toNatClampNeg) S12 e17) gX9_readAll_X9_number rfl rfl rfl nd_X9_number ⟨Nat.le_of_ble_eq_true rfl, Nat.le_of_ble_eq_true rfl⟩ gm_g0 rfl rfl rfl hl.1 (Nat.zero_le _) dX9_readAll_71 ⟨Nat.le_of_ble_eq_true rfl, Nat.le_of_ble_eq_true rfl⟩ rfl (fun w' H locs hw hI => ?_)
          subst hw
          refine lv_istore (lv' := [(4, .int r15), (3, .int r9), (0, .ref (a 0)), (1, .int v1), (2, .int v2)]) hx hb dX9_readAll_74 hl (by decide) rfl (fun ls hl => ?_)
          refine lv_iload hx hb dX9_readAll_76 (lv_at hl 0 rfl) ?_
          refine lv_if_ge (tgt := 83) hx hb dX9_readAll_78 (by decide) (fun c18 => ?_) (fun c18 => ?_)
          · replace h := gw_ifT c18 h
            refine lv_aload_n hx hb dX9_readAll_83 rfl (lv_at hl 2 rfl) ?_
            refine gw_get (T := TX9) (k := 3) (v := .ref (a 4)) B hI gm_g0 rfl ly_X9_readAll_9 (by decide) m_X9_readAll_19 rfl rfl dX9_readAll_84 ?_
            refine lv_iload_n hx hb dX9_readAll_87 rfl (lv_at hl 1 rfl) ?_
            refine lv_iload hx hb dX9_readAll_88 (lv_at hl 0 rfl) ?_
            obtain ⟨S19, e20, h⟩ := gw_letE h
            refine gw_iast (t0 := 0) (w' := gw_mw cc a S19) B hI gm_g4 rfl g14 (gm_s4 e20) dX9_readAll_90 (fun H locs hI => ?_)
            obtain ⟨y21, e22, h⟩ := gw_letE h
            refine lv_iinc (v := y21) (lv' := [(1, .int y21), (4, .int r15), (3, .int r9), (0, .ref (a 0)), (2, .int v2)]) hx hb dX9_readAll_91 hl (k := 3) rfl (by rw [e22]; rfl) (by decide) rfl (fun ls hl => ?_)
            refine lv_aload_n hx hb dX9_readAll_94 rfl (lv_at hl 3 rfl) ?_
            obtain ⟨r23, S24, e25, h⟩ := gw_b2E h
            refine gw_callV (As := []) (n := 0) B hI (k_X9_next  S19 e25) gX9_readAll_X9_next rfl rfl rfl nd_X9_next ⟨Nat.le_of_ble_eq_true rfl, Nat.le_of_ble_eq_true rfl⟩ gm_g0 rfl rfl rfl hl.1 (Nat.zero_le _) dX9_readAll_95 ⟨Nat.le_of_ble_eq_true rfl, Nat.le_of_ble_eq_true rfl⟩ rfl (fun w' H locs hw hI => ?_)
            subst hw
            refine lv_istore (lv' := [(5, .int r23), (1, .int y21), (4, .int r15), (3, .int r9), (0, .ref (a 0)), (2, .int v2)]) hx hb dX9_readAll_98 hl (by decide) rfl (fun ls hl => ?_)
            refine lv_iload hx hb dX9_readAll_100 (lv_at hl 0 rfl) ?_
            refine lv_if_lt (tgt := 120) hx hb dX9_readAll_102 (by decide) (fun c26 => ?_) (fun c26 => ?_)
            · replace h := gw_ifT c26 h
              exact hb120 (f_X9_readAll_b35  n) ih y21 r23 S24 h _ _ _ hI (lv_sub hl [4, 1, 0] rfl)
            · replace h := gw_ifF c26 h
              refine lv_iload hx hb dX9_readAll_105 (lv_at hl 0 rfl) ?_
              refine lv_bipush (v := 59) hx hb dX9_readAll_107 (by decide) ?_
              refine lv_icmp_ne (tgt := 118) hx hb dX9_readAll_109 (by decide) (fun c27 => ?_) (fun c27 => ?_)
              · replace h := gw_ifF c27 h
                refine lv_iconst (v := -1) hx hb dX9_readAll_118 (by decide) ?_
                obtain ⟨h1, h2⟩ := Prod.mk.inj (Option.some.inj h)
                rw [h2] at hI
                rw [← h1]
                exact gw_iret (W' := (fun w => w = gw_mw cc a zS)) B hI rfl (Nat.zero_le _) (Nat.zero_le _) dX9_readAll_119
              · replace h := gw_ifT c27 h
                refine lv_iload_n hx hb dX9_readAll_112 rfl (lv_at hl 1 rfl) ?_
                refine lv_bipush (v := 8) hx hb dX9_readAll_113 (by decide) ?_
                refine lv_icmp_ne (tgt := 120) hx hb dX9_readAll_115 (by decide) (fun c28 => ?_) (fun c28 => ?_)
                · replace h := gw_ifF c28 h
                  exact hb120 (f_X9_readAll_b35  n) ih y21 r23 S24 h _ _ _ hI (lv_sub hl [4, 1, 0] rfl)
                · replace h := gw_ifT c28 h
                  refine lv_iconst (v := -1) hx hb dX9_readAll_118 (by decide) ?_
                  obtain ⟨h1, h2⟩ := Prod.mk.inj (Option.some.inj h)
                  rw [h2] at hI
                  rw [← h1]
                  exact gw_iret (W' := (fun w => w = gw_mw cc a zS)) B hI rfl (Nat.zero_le _) (Nat.zero_le _) dX9_readAll_119
          · replace h := gw_ifF c18 h
            refine lv_iconst (v := -1) hx hb dX9_readAll_81 (by decide) ?_
            obtain ⟨h1, h2⟩ := Prod.mk.inj (Option.some.inj h)
            rw [h2] at hI
            rw [← h1]
            exact gw_iret (W' := (fun w => w = gw_mw cc a zS)) B hI rfl (Nat.zero_le _) (Nat.zero_le _) dX9_readAll_82
        · replace h := gw_ifF c11 h
          refine lv_iconst (v := -1) hx hb dX9_readAll_52 (by decide) ?_
          obtain ⟨h1, h2⟩ := Prod.mk.inj (Option.some.inj h)
          rw [h2] at hI
          rw [← h1]
          exact gw_iret (W' := (fun w => w = gw_mw cc a zS)) B hI rfl (Nat.zero_le _) (Nat.zero_le _) dX9_readAll_53
  have hb9 :  ∀ (n : Nat), ∀ (v1 : Int32) (v2 : Int32) (S : gw_S), f_X9_readAll_b9  n v1 v2 S = some (zr, zS) → ∀ (H : Heap) (locs : List Loc) (ls : Array Slot), gw_I D A s.heap (gw_mw cc a S) H locs → lv_has ls 6 [(0, .ref (a 0)), (1, .int v1), (2, .int v2)] → W p l e rm_X9_readAll s m args below meth c H locs 0 0 (MQ below (gw_Q (some (.int zr)) (gw_Pst D A (fun w => w = gw_mw cc a zS)) A) args s 0 0 A) (F0 m 9 ls []) := by
    intro n
    induction n with
    | zero =>
      intro v1 v2 S h
      cases h
    | succ n ih =>
      intro v1 v2 S h H locs ls hI hl
      unfold f_X9_readAll_b9 at h
      refine lv_iload_n hx hb dX9_readAll_9 rfl (lv_at hl 2 rfl) ?_
      refine lv_bipush (v := 8) hx hb dX9_readAll_10 (by decide) ?_
      refine lv_icmp_ge (tgt := 33) hx hb dX9_readAll_12 (by decide) (fun c29 => ?_) (fun c29 => ?_)
      · replace h := gw_ifT c29 h
        refine lv_iconst (v := 1) hx hb dX9_readAll_33 (by decide) ?_
        refine lv_istore_n (lv' := [(2, .int (1 : Int32)), (0, .ref (a 0)), (1, .int v1)]) hx hb dX9_readAll_34 rfl hl (by decide) rfl (fun ls hl => ?_)
        exact hb35  gw_F v1 (1 : Int32) S h _ _ _ hI (lv_sub hl [1, 2, 0] rfl)
      · replace h := gw_ifF c29 h
        refine lv_aload_n hx hb dX9_readAll_15 rfl (lv_at hl 0 rfl) ?_
        refine gw_get (T := TX9) (k := 3) (v := .ref (a 4)) B hI gm_g0 rfl ly_X9_readAll_9 (by decide) m_X9_readAll_19 rfl rfl dX9_readAll_16 ?_
        refine lv_iload_n hx hb dX9_readAll_19 rfl (lv_at hl 2 rfl) ?_
        refine lv_aload_n hx hb dX9_readAll_20 rfl (lv_at hl 0 rfl) ?_
        refine gw_get (T := TX9) (k := 2) (v := .ref (a 3)) B hI gm_g0 rfl ly_X9_readAll_9 (by decide) m_X9_readAll_16 rfl rfl dX9_readAll_21 ?_
        refine lv_iload_n hx hb dX9_readAll_24 rfl (lv_at hl 2 rfl) ?_
        obtain ⟨g30, h⟩ := gw_gdE h
        refine gw_iald (t0 := 0) B hI gm_g3 rfl g30 dX9_readAll_25 ?_
        obtain ⟨S31, e32, h⟩ := gw_letE h
        refine gw_iast (t0 := 0) (w' := gw_mw cc a S31) B hI gm_g4 rfl g30 (gm_s4 e32) dX9_readAll_26 (fun H locs hI => ?_)
        obtain ⟨y33, e34, h⟩ := gw_letE h
        refine lv_iinc (v := y33) (lv' := [(2, .int y33), (0, .ref (a 0)), (1, .int v1)]) hx hb dX9_readAll_27 hl (k := 2) rfl (by rw [e34]; rfl) (by decide) rfl (fun ls hl => ?_)
        refine lv_goto (tgt := 9) hx hb dX9_readAll_30 (by decide) ?_
        exact ih v1 y33 S31 h _ _ _ hI (lv_sub hl [1, 2, 0] rfl)
  unfold f_X9_readAll at h
  refine lv_aload_n hx hb dX9_readAll_0 rfl (lv_at hl 0 rfl) ?_
  refine lv_iconst (v := 0) hx hb dX9_readAll_1 (by decide) ?_
  obtain ⟨S35, e36, h⟩ := gw_letE h
  refine gw_put (T := TX9) (k := 6) (w' := gw_mw cc a S35) B hI gm_g0 rfl ly_X9_readAll_9 tyX9 tyX9_ok nmX9 (by decide) m_X9_readAll_162 rfl rfl rfl rfl (Nat.le_of_ble_eq_true rfl) (gm_s0_6 e36) dX9_readAll_2 (fun H locs hI => ?_)
  refine lv_iconst (v := 0) hx hb dX9_readAll_5 (by decide) ?_
  refine lv_istore_n (lv' := [(1, .int (0 : Int32)), (0, .ref (a 0))]) hx hb dX9_readAll_6 rfl hl (by decide) rfl (fun ls hl => ?_)
  refine lv_iconst (v := 0) hx hb dX9_readAll_7 (by decide) ?_
  refine lv_istore_n (lv' := [(2, .int (0 : Int32)), (1, .int (0 : Int32)), (0, .ref (a 0))]) hx hb dX9_readAll_8 rfl hl (by decide) rfl (fun ls hl => ?_)
  exact hb9  gw_F (0 : Int32) (0 : Int32) S35 h _ _ _ hI (lv_sub hl [2, 1, 0] rfl)
theorem m_X9_terms_158 : Cond.fieldLink RX9 158 "GownLetModel" "taped" "I" ∈ wsX9_terms := by decide +kernel
theorem m_X9_terms_16 : Cond.fieldLink RX9 16 "GownLetModel" "terms" "[I" ∈ wsX9_terms := by decide +kernel
theorem m_X9_terms_162 : Cond.fieldLink RX9 162 "GownLetModel" "at" "I" ∈ wsX9_terms := by decide +kernel
theorem m_X9_terms_19 : Cond.fieldLink RX9 19 "GownLetModel" "readTerms" "[I" ∈ wsX9_terms := by decide +kernel
theorem ly_X9_terms_9 : ∀ w ∈ wsX90, w ∈ wsX9_terms := fun w h => List.mem_cons_of_mem _ (List.mem_append_right _ h)
set_option maxRecDepth 100000 in
set_option maxHeartbeats 4000000 in
theorem k_X9_terms  (S : gw_S) {zr : Int32} {zS : gw_S} (h : f_X9_terms  S = some (zr, zS)) : gw_M l yX9_terms wsX9_terms rm_X9_terms 0 0 D (gw_ty cc) t1 t2 [.ref (a 0)] (gw_mw cc a S) (fun w => w = gw_mw cc a zS) (some (.int zr)) := by
  refine gw_enter (cc := cX9_terms) (maxL := 3) (ret := (some .int)) (own := RX9) rfl (by decide) rfl (Nat.le_of_ble_eq_true rfl) ?_
  intro p e s m below meth c A B hin hI ls hl
  have hl : lv_has ls 3 [(0, .ref (a 0))] := hl
  generalize ([.ref (a 0)] : List Value).toArray = args at B ⊢
  have hx := B.1.1
  have hb := B.1.2.1
  have hown : s.vm.findClass RX9 = some m.cls := B.1.2.2.2.1
  have hts := B.1.2.2.2.2
  have hb24 :  ∀ (n : Nat), ∀ (v1 : Int32) (v2 : Int32) (S : gw_S), f_X9_terms_b24  n v1 v2 S = some (zr, zS) → ∀ (H : Heap) (locs : List Loc) (ls : Array Slot), gw_I D A s.heap (gw_mw cc a S) H locs → lv_has ls 3 [(0, .ref (a 0)), (1, .int v1), (2, .int v2)] → W p l e rm_X9_terms s m args below meth c H locs 0 0 (MQ below (gw_Q (some (.int zr)) (gw_Pst D A (fun w => w = gw_mw cc a zS)) A) args s 0 0 A) (F0 m 24 ls []) := by
    intro n
    induction n with
    | zero =>
      intro v1 v2 S h
      cases h
    | succ n ih =>
      intro v1 v2 S h H locs ls hI hl
      unfold f_X9_terms_b24 at h
      refine lv_iload_n hx hb dX9_terms_24 rfl (lv_at hl 2 rfl) ?_
      refine lv_bipush (v := 8) hx hb dX9_terms_25 (by decide) ?_
      refine lv_icmp_ge (tgt := 48) hx hb dX9_terms_27 (by decide) (fun c1 => ?_) (fun c1 => ?_)
      · replace h := gw_ifT c1 h
        refine lv_iload_n hx hb dX9_terms_48 rfl (lv_at hl 1 rfl) ?_
        obtain ⟨h1, h2⟩ := Prod.mk.inj (Option.some.inj h)
        rw [h2] at hI
        rw [← h1]
        exact gw_iret (W' := (fun w => w = gw_mw cc a zS)) B hI rfl (Nat.zero_le _) (Nat.zero_le _) dX9_terms_49
      · replace h := gw_ifF c1 h
        refine lv_aload_n hx hb dX9_terms_30 rfl (lv_at hl 0 rfl) ?_
        refine gw_get (T := TX9) (k := 2) (v := .ref (a 3)) B hI gm_g0 rfl ly_X9_terms_9 (by decide) m_X9_terms_16 rfl rfl dX9_terms_31 ?_
        refine lv_iload_n hx hb dX9_terms_34 rfl (lv_at hl 2 rfl) ?_
        refine lv_aload_n hx hb dX9_terms_35 rfl (lv_at hl 0 rfl) ?_
        refine gw_get (T := TX9) (k := 3) (v := .ref (a 4)) B hI gm_g0 rfl ly_X9_terms_9 (by decide) m_X9_terms_19 rfl rfl dX9_terms_36 ?_
        refine lv_iload_n hx hb dX9_terms_39 rfl (lv_at hl 2 rfl) ?_
        obtain ⟨g2, h⟩ := gw_gdE h
        refine gw_iald (t0 := 0) B hI gm_g4 rfl g2 dX9_terms_40 ?_
        obtain ⟨S3, e4, h⟩ := gw_letE h
        refine gw_iast (t0 := 0) (w' := gw_mw cc a S3) B hI gm_g3 rfl g2 (gm_s3 e4) dX9_terms_41 (fun H locs hI => ?_)
        obtain ⟨y5, e6, h⟩ := gw_letE h
        refine lv_iinc (v := y5) (lv' := [(2, .int y5), (0, .ref (a 0)), (1, .int v1)]) hx hb dX9_terms_42 hl (k := 2) rfl (by rw [e6]; rfl) (by decide) rfl (fun ls hl => ?_)
        refine lv_goto (tgt := 24) hx hb dX9_terms_45 (by decide) ?_
        exact ih v1 y5 S3 h _ _ _ hI (lv_sub hl [1, 2, 0] rfl)
  unfold f_X9_terms at h
  refine lv_aload_n hx hb dX9_terms_0 rfl (lv_at hl 0 rfl) ?_
  obtain ⟨r7, S8, e9, h⟩ := gw_b2E h
  refine gw_callV (As := []) (n := 0) B hI (k_X9_readAll  S e9) gX9_terms_X9_readAll rfl rfl rfl nd_X9_readAll ⟨Nat.le_of_ble_eq_true rfl, Nat.le_of_ble_eq_true rfl⟩ gm_g0 rfl rfl rfl hl.1 (Nat.zero_le _) dX9_terms_1 ⟨Nat.le_of_ble_eq_true rfl, Nat.le_of_ble_eq_true rfl⟩ rfl (fun w' H locs hw hI => ?_)
  subst hw
  refine lv_istore_n (lv' := [(1, .int r7), (0, .ref (a 0))]) hx hb dX9_terms_4 rfl hl (by decide) rfl (fun ls hl => ?_)
  refine lv_aload_n hx hb dX9_terms_5 rfl (lv_at hl 1 rfl) ?_
  refine lv_iconst (v := 0) hx hb dX9_terms_6 (by decide) ?_
  obtain ⟨S10, e11, h⟩ := gw_letE h
  refine gw_put (T := TX9) (k := 5) (w' := gw_mw cc a S10) B hI gm_g0 rfl ly_X9_terms_9 tyX9 tyX9_ok nmX9 (by decide) m_X9_terms_158 rfl rfl rfl rfl (Nat.le_of_ble_eq_true rfl) (gm_s0_5 e11) dX9_terms_7 (fun H locs hI => ?_)
  refine lv_iload_n hx hb dX9_terms_10 rfl (lv_at hl 0 rfl) ?_
  refine lv_if_ge (tgt := 22) hx hb dX9_terms_11 (by decide) (fun c12 => ?_) (fun c12 => ?_)
  · replace h := gw_ifT c12 h
    refine lv_iconst (v := 0) hx hb dX9_terms_22 (by decide) ?_
    refine lv_istore_n (lv' := [(2, .int (0 : Int32)), (1, .int r7), (0, .ref (a 0))]) hx hb dX9_terms_23 rfl hl (by decide) rfl (fun ls hl => ?_)
    exact hb24  gw_F r7 (0 : Int32) S10 h _ _ _ hI (lv_sub hl [2, 1, 0] rfl)
  · replace h := gw_ifF c12 h
    refine lv_bipush (v := -20) hx hb dX9_terms_14 (by decide) ?_
    refine lv_aload_n hx hb dX9_terms_16 rfl (lv_at hl 1 rfl) ?_
    refine gw_get (T := TX9) (k := 6) (v := .int (S10 0 6)) B hI gm_g0 rfl ly_X9_terms_9 (by decide) m_X9_terms_162 rfl rfl dX9_terms_17 ?_
    refine lv_isub hx hb dX9_terms_20 ?_
    obtain ⟨h1, h2⟩ := Prod.mk.inj (Option.some.inj h)
    rw [h2] at hI
    rw [← h1]
    exact gw_iret (W' := (fun w => w = gw_mw cc a zS)) B hI rfl (Nat.zero_le _) (Nat.zero_le _) dX9_terms_21
theorem m_X9_term_16 : Cond.fieldLink RX9 16 "GownLetModel" "terms" "[I" ∈ wsX9_term := by decide +kernel
theorem ly_X9_term_9 : ∀ w ∈ wsX90, w ∈ wsX9_term := fun w h => List.mem_cons_of_mem _ (List.mem_append_right _ h)
set_option maxRecDepth 100000 in
set_option maxHeartbeats 4000000 in
theorem k_X9_term (x1 : Int32) (S : gw_S) {zr : Int32} (h : f_X9_term x1 S = some zr) : gw_M l yX9_term wsX9_term rm_X9_term 0 0 D (gw_ty cc) t1 t2 [.ref (a 0), .int x1] (gw_mw cc a S) (fun w => w = gw_mw cc a S) (some (.int zr)) := by
  refine gw_enter (cc := cX9_term) (maxL := 3) (ret := (some .int)) (own := RX9) rfl (by decide) rfl (Nat.le_of_ble_eq_true rfl) ?_
  intro p e s m below meth c A B hin hI ls hl
  have hl : lv_has ls 3 [(0, .ref (a 0)), (1, .int x1)] := hl
  generalize ([.ref (a 0), .int x1] : List Value).toArray = args at B ⊢
  have hx := B.1.1
  have hb := B.1.2.1
  have hown : s.vm.findClass RX9 = some m.cls := B.1.2.2.2.1
  have hts := B.1.2.2.2.2
  unfold f_X9_term at h
  refine lv_aload_n hx hb dX9_term_0 rfl (lv_at hl 0 rfl) ?_
  refine lv_iload_n hx hb dX9_term_1 rfl (lv_at hl 1 rfl) ?_
  obtain ⟨r1, e2, h⟩ := gw_bdE h
  refine gw_callV (As := [.int x1]) (n := 1) B hI (k_X9_termOf x1 S e2) gX9_term_X9_termOf rfl rfl rfl nd_X9_termOf ⟨Nat.le_of_ble_eq_true rfl, Nat.le_of_ble_eq_true rfl⟩ gm_g0 rfl rfl rfl hl.1 (Nat.zero_le _) dX9_term_2 ⟨Nat.le_of_ble_eq_true rfl, Nat.le_of_ble_eq_true rfl⟩ rfl (fun w' H locs hw hI => ?_)
  subst hw
  refine lv_istore_n (lv' := [(2, .int r1), (0, .ref (a 0)), (1, .int x1)]) hx hb dX9_term_5 rfl hl (by decide) rfl (fun ls hl => ?_)
  refine lv_iload_n hx hb dX9_term_6 rfl (lv_at hl 0 rfl) ?_
  refine lv_if_ge (tgt := 14) hx hb dX9_term_7 (by decide) (fun c3 => ?_) (fun c3 => ?_)
  · replace h := gw_ifT c3 h
    refine lv_aload_n hx hb dX9_term_14 rfl (lv_at hl 1 rfl) ?_
    refine gw_get (T := TX9) (k := 2) (v := .ref (a 3)) B hI gm_g0 rfl ly_X9_term_9 (by decide) m_X9_term_16 rfl rfl dX9_term_15 ?_
    refine lv_iload_n hx hb dX9_term_18 rfl (lv_at hl 0 rfl) ?_
    obtain ⟨g4, h⟩ := gw_gdE h
    refine gw_iald (t0 := 0) B hI gm_g3 rfl g4 dX9_term_19 ?_
    rw [← Option.some.inj h]
    exact gw_iret (W' := (fun w => w = gw_mw cc a S)) B hI rfl (Nat.zero_le _) (Nat.zero_le _) dX9_term_20
  · replace h := gw_ifF c3 h
    refine lv_iconst (v := -1) hx hb dX9_term_10 (by decide) ?_
    refine lv_goto (tgt := 20) hx hb dX9_term_11 (by decide) ?_
    rw [← Option.some.inj h]
    exact gw_iret (W' := (fun w => w = gw_mw cc a S)) B hI rfl (Nat.zero_le _) (Nat.zero_le _) dX9_term_20
set_option maxRecDepth 100000 in
set_option maxHeartbeats 4000000 in
theorem k_X9_isTown (x0 : Int32) (S : gw_S) {zr : Int32} (h : f_X9_isTown x0 S = some zr) : gw_M l yX9_isTown wsX9_isTown rm_X9_isTown 0 0 D (gw_ty cc) t1 t2 [.int x0] (gw_mw cc a S) (fun w => w = gw_mw cc a S) (some (.int zr)) := by
  refine gw_enter (cc := cX9_isTown) (maxL := 1) (ret := (some .boolean)) (own := RX9) rfl (by decide) rfl (Nat.le_of_ble_eq_true rfl) ?_
  intro p e s m below meth c A B hin hI ls hl
  have hl : lv_has ls 1 [(0, .int x0)] := hl
  generalize ([.int x0] : List Value).toArray = args at B ⊢
  have hx := B.1.1
  have hb := B.1.2.1
  have hown : s.vm.findClass RX9 = some m.cls := B.1.2.2.2.1
  have hts := B.1.2.2.2.2
  unfold f_X9_isTown at h
  refine lv_iload_n hx hb dX9_isTown_0 rfl (lv_at hl 0 rfl) ?_
  refine lv_i2l hx hb dX9_isTown_1 rfl ?_
  refine lv_lconst (v := 0) hx hb dX9_isTown_2 (by decide) ?_
  refine lv_ldc2 (v := 8) hx hb hown (hts (.constantLong RX9 146 (8)) (by decide +kernel)) dX9_isTown_3 ?_
  obtain ⟨r1, e2, h⟩ := gw_bdE h
  refine gw_callS (As := [.long (x0.toInt64), .long (0 : Int64), .long (8 : Int64)]) (n := 3) B hI (k_X9_in (x0.toInt64) (0 : Int64) (8 : Int64) S e2) gX9_isTown_X9_in rfl rfl rfl nds_X9_in ⟨Nat.le_of_ble_eq_true rfl, Nat.le_of_ble_eq_true rfl⟩ rfl hl.1 (Nat.zero_le _) dX9_isTown_6 ⟨Nat.le_of_ble_eq_true rfl, Nat.le_of_ble_eq_true rfl⟩ rfl (fun w' H locs hw hI => ?_)
  subst hw
  obtain ⟨g3, h⟩ := gw_gdE h
  rw [← Option.some.inj h]
  exact gw_zret (W' := (fun w => w = gw_mw cc a S)) B hI rfl g3 (Nat.zero_le _) (Nat.zero_le _) dX9_isTown_9
theorem m_X9_post_25 : Cond.fieldLink RX9 25 "GownLetModel" "posts" "[I" ∈ wsX9_post := by decide +kernel
theorem ly_X9_post_9 : ∀ w ∈ wsX90, w ∈ wsX9_post := fun w h => List.mem_cons_of_mem _ (List.mem_append_right _ h)
set_option maxRecDepth 100000 in
set_option maxHeartbeats 4000000 in
theorem k_X9_post (x1 : Int32) (x2 : Int32) (x3 : Int32) (S : gw_S) {zr : Int32} {zS : gw_S} (h : f_X9_post x1 x2 x3 S = some (zr, zS)) : gw_M l yX9_post wsX9_post rm_X9_post 0 0 D (gw_ty cc) t1 t2 [.ref (a 0), .int x1, .int x2, .int x3] (gw_mw cc a S) (fun w => w = gw_mw cc a zS) (some (.int zr)) := by
  refine gw_enter (cc := cX9_post) (maxL := 5) (ret := (some .int)) (own := RX9) rfl (by decide) rfl (Nat.le_of_ble_eq_true rfl) ?_
  intro p e s m below meth c A B hin hI ls hl
  have hl : lv_has ls 5 [(0, .ref (a 0)), (1, .int x1), (2, .int x2), (3, .int x3)] := hl
  generalize ([.ref (a 0), .int x1, .int x2, .int x3] : List Value).toArray = args at B ⊢
  have hx := B.1.1
  have hb := B.1.2.1
  have hown : s.vm.findClass RX9 = some m.cls := B.1.2.2.2.1
  have hts := B.1.2.2.2.2
  unfold f_X9_post at h
  refine lv_iload_n hx hb dX9_post_0 rfl (lv_at hl 1 rfl) ?_
  obtain ⟨r1, e2, h⟩ := gw_bdE h
  refine gw_callS (As := [.int x1]) (n := 1) B hI (k_X9_isTown x1 S e2) gX9_post_X9_isTown rfl rfl rfl nds_X9_isTown ⟨Nat.le_of_ble_eq_true rfl, Nat.le_of_ble_eq_true rfl⟩ rfl hl.1 (Nat.zero_le _) dX9_post_1 ⟨Nat.le_of_ble_eq_true rfl, Nat.le_of_ble_eq_true rfl⟩ rfl (fun w' H locs hw hI => ?_)
  subst hw
  refine lv_if_eq (tgt := 31) hx hb dX9_post_4 (by decide) (fun c3 => ?_) (fun c3 => ?_)
  · replace h := gw_ifT c3 h
    refine lv_iconst (v := -1) hx hb dX9_post_31 (by decide) ?_
    obtain ⟨h1, h2⟩ := Prod.mk.inj (Option.some.inj h)
    rw [h2] at hI
    rw [← h1]
    exact gw_iret (W' := (fun w => w = gw_mw cc a zS)) B hI rfl (Nat.zero_le _) (Nat.zero_le _) dX9_post_32
  · replace h := gw_ifF c3 h
    refine lv_iload_n hx hb dX9_post_7 rfl (lv_at hl 2 rfl) ?_
    obtain ⟨r4, e5, h⟩ := gw_bdE h
    refine gw_callS (As := [.int x2]) (n := 1) B hI (k_X9_isTown x2 S e5) gX9_post_X9_isTown rfl rfl rfl nds_X9_isTown ⟨Nat.le_of_ble_eq_true rfl, Nat.le_of_ble_eq_true rfl⟩ rfl hl.1 (Nat.zero_le _) dX9_post_8 ⟨Nat.le_of_ble_eq_true rfl, Nat.le_of_ble_eq_true rfl⟩ rfl (fun w' H locs hw hI => ?_)
    subst hw
    refine lv_if_eq (tgt := 31) hx hb dX9_post_11 (by decide) (fun c6 => ?_) (fun c6 => ?_)
    · replace h := gw_ifT c6 h
      refine lv_iconst (v := -1) hx hb dX9_post_31 (by decide) ?_
      obtain ⟨h1, h2⟩ := Prod.mk.inj (Option.some.inj h)
      rw [h2] at hI
      rw [← h1]
      exact gw_iret (W' := (fun w => w = gw_mw cc a zS)) B hI rfl (Nat.zero_le _) (Nat.zero_le _) dX9_post_32
    · replace h := gw_ifF c6 h
      refine lv_iload_n hx hb dX9_post_14 rfl (lv_at hl 1 rfl) ?_
      refine lv_iload_n hx hb dX9_post_15 rfl (lv_at hl 2 rfl) ?_
      refine lv_icmp_eq (tgt := 31) hx hb dX9_post_16 (by decide) (fun c7 => ?_) (fun c7 => ?_)
      · replace h := gw_ifT c7 h
        refine lv_iconst (v := -1) hx hb dX9_post_31 (by decide) ?_
        obtain ⟨h1, h2⟩ := Prod.mk.inj (Option.some.inj h)
        rw [h2] at hI
        rw [← h1]
        exact gw_iret (W' := (fun w => w = gw_mw cc a zS)) B hI rfl (Nat.zero_le _) (Nat.zero_le _) dX9_post_32
      · replace h := gw_ifF c7 h
        refine lv_iload_n hx hb dX9_post_19 rfl (lv_at hl 3 rfl) ?_
        refine lv_i2l hx hb dX9_post_20 rfl ?_
        refine lv_lconst (v := 0) hx hb dX9_post_21 (by decide) ?_
        refine lv_ldc2 (v := 9) hx hb hown (hts (.constantLong RX9 187 (9)) (by decide +kernel)) dX9_post_22 ?_
        obtain ⟨r8, e9, h⟩ := gw_bdE h
        refine gw_callS (As := [.long (x3.toInt64), .long (0 : Int64), .long (9 : Int64)]) (n := 3) B hI (k_X9_in (x3.toInt64) (0 : Int64) (9 : Int64) S e9) gX9_post_X9_in rfl rfl rfl nds_X9_in ⟨Nat.le_of_ble_eq_true rfl, Nat.le_of_ble_eq_true rfl⟩ rfl hl.1 (Nat.zero_le _) dX9_post_25 ⟨Nat.le_of_ble_eq_true rfl, Nat.le_of_ble_eq_true rfl⟩ rfl (fun w' H locs hw hI => ?_)
        subst hw
        refine lv_if_ne (tgt := 33) hx hb dX9_post_28 (by decide) (fun c10 => ?_) (fun c10 => ?_)
        · replace h := gw_ifF c10 h
          refine lv_aload_n hx hb dX9_post_33 rfl (lv_at hl 0 rfl) ?_
          refine gw_get (T := TX9) (k := 7) (v := .ref (a 6)) B hI gm_g0 rfl ly_X9_post_9 (by decide) m_X9_post_25 rfl rfl dX9_post_34 ?_
          refine lv_bipush (v := 9) hx hb dX9_post_37 (by decide) ?_
          refine lv_iload_n hx hb dX9_post_39 rfl (lv_at hl 1 rfl) ?_
          refine lv_imul hx hb dX9_post_40 ?_
          refine lv_iload_n hx hb dX9_post_41 rfl (lv_at hl 2 rfl) ?_
          refine lv_iadd hx hb dX9_post_42 ?_
          obtain ⟨g11, h⟩ := gw_gdE h
          refine gw_iald (t0 := 0) B hI gm_g6 rfl g11 dX9_post_43 ?_
          obtain ⟨y12, e13, h⟩ := gw_letE h
          rw [← e13]
          refine lv_istore (lv' := [(4, .int y12), (0, .ref (a 0)), (1, .int x1), (2, .int x2), (3, .int x3)]) hx hb dX9_post_44 hl (by decide) rfl (fun ls hl => ?_)
          refine lv_aload_n hx hb dX9_post_46 rfl (lv_at hl 1 rfl) ?_
          refine gw_get (T := TX9) (k := 7) (v := .ref (a 6)) B hI gm_g0 rfl ly_X9_post_9 (by decide) m_X9_post_25 rfl rfl dX9_post_47 ?_
          refine lv_bipush (v := 9) hx hb dX9_post_50 (by decide) ?_
          refine lv_iload_n hx hb dX9_post_52 rfl (lv_at hl 2 rfl) ?_
          refine lv_imul hx hb dX9_post_53 ?_
          refine lv_iload_n hx hb dX9_post_54 rfl (lv_at hl 3 rfl) ?_
          refine lv_iadd hx hb dX9_post_55 ?_
          refine lv_iload_n hx hb dX9_post_56 rfl (lv_at hl 4 rfl) ?_
          obtain ⟨S14, e15, h⟩ := gw_letE h
          refine gw_iast (t0 := 0) (w' := gw_mw cc a S14) B hI gm_g6 rfl g11 (gm_s6 e15) dX9_post_57 (fun H locs hI => ?_)
          refine lv_aload_n hx hb dX9_post_58 rfl (lv_at hl 1 rfl) ?_
          refine gw_get (T := TX9) (k := 7) (v := .ref (a 6)) B hI gm_g0 rfl ly_X9_post_9 (by decide) m_X9_post_25 rfl rfl dX9_post_59 ?_
          refine lv_bipush (v := 9) hx hb dX9_post_62 (by decide) ?_
          refine lv_iload_n hx hb dX9_post_64 rfl (lv_at hl 3 rfl) ?_
          refine lv_imul hx hb dX9_post_65 ?_
          refine lv_iload_n hx hb dX9_post_66 rfl (lv_at hl 2 rfl) ?_
          refine lv_iadd hx hb dX9_post_67 ?_
          refine lv_iload_n hx hb dX9_post_68 rfl (lv_at hl 4 rfl) ?_
          obtain ⟨g16, h⟩ := gw_gdE h
          obtain ⟨S17, e18, h⟩ := gw_letE h
          refine gw_iast (t0 := 0) (w' := gw_mw cc a S17) B hI gm_g6 rfl g16 (gm_s6 e18) dX9_post_69 (fun H locs hI => ?_)
          refine lv_iload hx hb dX9_post_70 (lv_at hl 0 rfl) ?_
          obtain ⟨h1, h2⟩ := Prod.mk.inj (Option.some.inj h)
          rw [h2] at hI
          rw [← h1]
          exact gw_iret (W' := (fun w => w = gw_mw cc a zS)) B hI rfl (Nat.zero_le _) (Nat.zero_le _) dX9_post_72
        · replace h := gw_ifT c10 h
          refine lv_iconst (v := -1) hx hb dX9_post_31 (by decide) ?_
          obtain ⟨h1, h2⟩ := Prod.mk.inj (Option.some.inj h)
          rw [h2] at hI
          rw [← h1]
          exact gw_iret (W' := (fun w => w = gw_mw cc a zS)) B hI rfl (Nat.zero_le _) (Nat.zero_le _) dX9_post_32
set_option maxRecDepth 100000 in
set_option maxHeartbeats 4000000 in
theorem k_X9_isMaker (x0 : Int32) (S : gw_S) {zr : Int32} (h : f_X9_isMaker x0 S = some zr) : gw_M l yX9_isMaker wsX9_isMaker rm_X9_isMaker 0 0 D (gw_ty cc) t1 t2 [.int x0] (gw_mw cc a S) (fun w => w = gw_mw cc a S) (some (.int zr)) := by
  refine gw_enter (cc := cX9_isMaker) (maxL := 1) (ret := (some .boolean)) (own := RX9) rfl (by decide) rfl (Nat.le_of_ble_eq_true rfl) ?_
  intro p e s m below meth c A B hin hI ls hl
  have hl : lv_has ls 1 [(0, .int x0)] := hl
  generalize ([.int x0] : List Value).toArray = args at B ⊢
  have hx := B.1.1
  have hb := B.1.2.1
  have hown : s.vm.findClass RX9 = some m.cls := B.1.2.2.2.1
  have hts := B.1.2.2.2.2
  unfold f_X9_isMaker at h
  refine lv_iload_n hx hb dX9_isMaker_0 rfl (lv_at hl 0 rfl) ?_
  refine lv_i2l hx hb dX9_isMaker_1 rfl ?_
  refine lv_lconst (v := 0) hx hb dX9_isMaker_2 (by decide) ?_
  refine lv_ldc2 (v := 5) hx hb hown (hts (.constantLong RX9 189 (5)) (by decide +kernel)) dX9_isMaker_3 ?_
  obtain ⟨r1, e2, h⟩ := gw_bdE h
  refine gw_callS (As := [.long (x0.toInt64), .long (0 : Int64), .long (5 : Int64)]) (n := 3) B hI (k_X9_in (x0.toInt64) (0 : Int64) (5 : Int64) S e2) gX9_isMaker_X9_in rfl rfl rfl nds_X9_in ⟨Nat.le_of_ble_eq_true rfl, Nat.le_of_ble_eq_true rfl⟩ rfl hl.1 (Nat.zero_le _) dX9_isMaker_6 ⟨Nat.le_of_ble_eq_true rfl, Nat.le_of_ble_eq_true rfl⟩ rfl (fun w' H locs hw hI => ?_)
  subst hw
  obtain ⟨g3, h⟩ := gw_gdE h
  rw [← Option.some.inj h]
  exact gw_zret (W' := (fun w => w = gw_mw cc a S)) B hI rfl g3 (Nat.zero_le _) (Nat.zero_le _) dX9_isMaker_9
set_option maxRecDepth 100000 in
set_option maxHeartbeats 4000000 in
theorem k_X9_isLabel (x0 : Int32) (S : gw_S) {zr : Int32} (h : f_X9_isLabel x0 S = some zr) : gw_M l yX9_isLabel wsX9_isLabel rm_X9_isLabel 0 0 D (gw_ty cc) t1 t2 [.int x0] (gw_mw cc a S) (fun w => w = gw_mw cc a S) (some (.int zr)) := by
  refine gw_enter (cc := cX9_isLabel) (maxL := 1) (ret := (some .boolean)) (own := RX9) rfl (by decide) rfl (Nat.le_of_ble_eq_true rfl) ?_
  intro p e s m below meth c A B hin hI ls hl
  have hl : lv_has ls 1 [(0, .int x0)] := hl
  generalize ([.int x0] : List Value).toArray = args at B ⊢
  have hx := B.1.1
  have hb := B.1.2.1
  have hown : s.vm.findClass RX9 = some m.cls := B.1.2.2.2.1
  have hts := B.1.2.2.2.2
  unfold f_X9_isLabel at h
  refine lv_iload_n hx hb dX9_isLabel_0 rfl (lv_at hl 0 rfl) ?_
  refine lv_i2l hx hb dX9_isLabel_1 rfl ?_
  refine lv_lconst (v := 1) hx hb dX9_isLabel_2 (by decide) ?_
  refine lv_ldc2 (v := 40) hx hb hown (hts (.constantLong RX9 191 (40)) (by decide +kernel)) dX9_isLabel_3 ?_
  obtain ⟨r1, e2, h⟩ := gw_bdE h
  refine gw_callS (As := [.long (x0.toInt64), .long (1 : Int64), .long (40 : Int64)]) (n := 3) B hI (k_X9_in (x0.toInt64) (1 : Int64) (40 : Int64) S e2) gX9_isLabel_X9_in rfl rfl rfl nds_X9_in ⟨Nat.le_of_ble_eq_true rfl, Nat.le_of_ble_eq_true rfl⟩ rfl hl.1 (Nat.zero_le _) dX9_isLabel_6 ⟨Nat.le_of_ble_eq_true rfl, Nat.le_of_ble_eq_true rfl⟩ rfl (fun w' H locs hw hI => ?_)
  subst hw
  obtain ⟨g3, h⟩ := gw_gdE h
  rw [← Option.some.inj h]
  exact gw_zret (W' := (fun w => w = gw_mw cc a S)) B hI rfl g3 (Nat.zero_le _) (Nat.zero_le _) dX9_isLabel_9
theorem m_X9_add_203 : Cond.fieldLink RX9 203 "GownLetModel" "pieces" "I" ∈ wsX9_add := by decide +kernel
theorem m_X9_add_28 : Cond.fieldLink RX9 28 "GownLetModel" "kinds" "[I" ∈ wsX9_add := by decide +kernel
theorem m_X9_add_31 : Cond.fieldLink RX9 31 "GownLetModel" "makers" "[I" ∈ wsX9_add := by decide +kernel
theorem m_X9_add_34 : Cond.fieldLink RX9 34 "GownLetModel" "labels" "[I" ∈ wsX9_add := by decide +kernel
theorem m_X9_add_37 : Cond.fieldLink RX9 37 "GownLetModel" "lots" "[I" ∈ wsX9_add := by decide +kernel
theorem m_X9_add_40 : Cond.fieldLink RX9 40 "GownLetModel" "towns" "[I" ∈ wsX9_add := by decide +kernel
theorem m_X9_add_43 : Cond.fieldLink RX9 43 "GownLetModel" "prices" "[I" ∈ wsX9_add := by decide +kernel
theorem m_X9_add_46 : Cond.fieldLink RX9 46 "GownLetModel" "lives" "[I" ∈ wsX9_add := by decide +kernel
theorem ly_X9_add_9 : ∀ w ∈ wsX90, w ∈ wsX9_add := fun w h => List.mem_cons_of_mem _ (List.mem_append_right _ h)
set_option maxRecDepth 100000 in
set_option maxHeartbeats 4000000 in
theorem k_X9_add (x1 : Int32) (x2 : Int32) (x3 : Int32) (x4 : Int32) (x5 : Int32) (x6 : Int32) (x7 : Int32) (S : gw_S) {zr : Int32} {zS : gw_S} (h : f_X9_add x1 x2 x3 x4 x5 x6 x7 S = some (zr, zS)) : gw_M l yX9_add wsX9_add rm_X9_add 0 0 D (gw_ty cc) t1 t2 [.ref (a 0), .int x1, .int x2, .int x3, .int x4, .int x5, .int x6, .int x7] (gw_mw cc a S) (fun w => w = gw_mw cc a zS) (some (.int zr)) := by
  refine gw_enter (cc := cX9_add) (maxL := 8) (ret := (some .int)) (own := RX9) rfl (by decide) rfl (Nat.le_of_ble_eq_true rfl) ?_
  intro p e s m below meth c A B hin hI ls hl
  have hl : lv_has ls 8 [(0, .ref (a 0)), (1, .int x1), (2, .int x2), (3, .int x3), (4, .int x4), (5, .int x5), (6, .int x6), (7, .int x7)] := hl
  generalize ([.ref (a 0), .int x1, .int x2, .int x3, .int x4, .int x5, .int x6, .int x7] : List Value).toArray = args at B ⊢
  have hx := B.1.1
  have hb := B.1.2.1
  have hown : s.vm.findClass RX9 = some m.cls := B.1.2.2.2.1
  have hts := B.1.2.2.2.2
  unfold f_X9_add at h
  refine lv_iload_n hx hb dX9_add_0 rfl (lv_at hl 2 rfl) ?_
  obtain ⟨r1, e2, h⟩ := gw_bdE h
  refine gw_callS (As := [.int x2]) (n := 1) B hI (k_X9_isMaker x2 S e2) gX9_add_X9_isMaker rfl rfl rfl nds_X9_isMaker ⟨Nat.le_of_ble_eq_true rfl, Nat.le_of_ble_eq_true rfl⟩ rfl hl.1 (Nat.zero_le _) dX9_add_1 ⟨Nat.le_of_ble_eq_true rfl, Nat.le_of_ble_eq_true rfl⟩ rfl (fun w' H locs hw hI => ?_)
  subst hw
  refine lv_if_eq (tgt := 61) hx hb dX9_add_4 (by decide) (fun c3 => ?_) (fun c3 => ?_)
  · replace h := gw_ifT c3 h
    refine lv_iconst (v := -1) hx hb dX9_add_61 (by decide) ?_
    obtain ⟨h1, h2⟩ := Prod.mk.inj (Option.some.inj h)
    rw [h2] at hI
    rw [← h1]
    exact gw_iret (W' := (fun w => w = gw_mw cc a zS)) B hI rfl (Nat.zero_le _) (Nat.zero_le _) dX9_add_62
  · replace h := gw_ifF c3 h
    refine lv_iload_n hx hb dX9_add_7 rfl (lv_at hl 3 rfl) ?_
    obtain ⟨r4, e5, h⟩ := gw_bdE h
    refine gw_callS (As := [.int x3]) (n := 1) B hI (k_X9_isLabel x3 S e5) gX9_add_X9_isLabel rfl rfl rfl nds_X9_isLabel ⟨Nat.le_of_ble_eq_true rfl, Nat.le_of_ble_eq_true rfl⟩ rfl hl.1 (Nat.zero_le _) dX9_add_8 ⟨Nat.le_of_ble_eq_true rfl, Nat.le_of_ble_eq_true rfl⟩ rfl (fun w' H locs hw hI => ?_)
    subst hw
    refine lv_if_eq (tgt := 61) hx hb dX9_add_11 (by decide) (fun c6 => ?_) (fun c6 => ?_)
    · replace h := gw_ifT c6 h
      refine lv_iconst (v := -1) hx hb dX9_add_61 (by decide) ?_
      obtain ⟨h1, h2⟩ := Prod.mk.inj (Option.some.inj h)
      rw [h2] at hI
      rw [← h1]
      exact gw_iret (W' := (fun w => w = gw_mw cc a zS)) B hI rfl (Nat.zero_le _) (Nat.zero_le _) dX9_add_62
    · replace h := gw_ifF c6 h
      refine lv_iload hx hb dX9_add_14 (lv_at hl 4 rfl) ?_
      refine lv_i2l hx hb dX9_add_16 rfl ?_
      refine lv_lconst (v := 0) hx hb dX9_add_17 (by decide) ?_
      refine lv_ldc2 (v := 9) hx hb hown (hts (.constantLong RX9 187 (9)) (by decide +kernel)) dX9_add_18 ?_
      obtain ⟨r7, e8, h⟩ := gw_bdE h
      refine gw_callS (As := [.long (x4.toInt64), .long (0 : Int64), .long (9 : Int64)]) (n := 3) B hI (k_X9_in (x4.toInt64) (0 : Int64) (9 : Int64) S e8) gX9_add_X9_in rfl rfl rfl nds_X9_in ⟨Nat.le_of_ble_eq_true rfl, Nat.le_of_ble_eq_true rfl⟩ rfl hl.1 (Nat.zero_le _) dX9_add_21 ⟨Nat.le_of_ble_eq_true rfl, Nat.le_of_ble_eq_true rfl⟩ rfl (fun w' H locs hw hI => ?_)
      subst hw
      refine lv_if_eq (tgt := 61) hx hb dX9_add_24 (by decide) (fun c9 => ?_) (fun c9 => ?_)
      · replace h := gw_ifT c9 h
        refine lv_iconst (v := -1) hx hb dX9_add_61 (by decide) ?_
        obtain ⟨h1, h2⟩ := Prod.mk.inj (Option.some.inj h)
        rw [h2] at hI
        rw [← h1]
        exact gw_iret (W' := (fun w => w = gw_mw cc a zS)) B hI rfl (Nat.zero_le _) (Nat.zero_le _) dX9_add_62
      · replace h := gw_ifF c9 h
        refine lv_iload hx hb dX9_add_27 (lv_at hl 5 rfl) ?_
        obtain ⟨r10, e11, h⟩ := gw_bdE h
        refine gw_callS (As := [.int x5]) (n := 1) B hI (k_X9_isTown x5 S e11) gX9_add_X9_isTown rfl rfl rfl nds_X9_isTown ⟨Nat.le_of_ble_eq_true rfl, Nat.le_of_ble_eq_true rfl⟩ rfl hl.1 (Nat.zero_le _) dX9_add_29 ⟨Nat.le_of_ble_eq_true rfl, Nat.le_of_ble_eq_true rfl⟩ rfl (fun w' H locs hw hI => ?_)
        subst hw
        refine lv_if_eq (tgt := 61) hx hb dX9_add_32 (by decide) (fun c12 => ?_) (fun c12 => ?_)
        · replace h := gw_ifT c12 h
          refine lv_iconst (v := -1) hx hb dX9_add_61 (by decide) ?_
          obtain ⟨h1, h2⟩ := Prod.mk.inj (Option.some.inj h)
          rw [h2] at hI
          rw [← h1]
          exact gw_iret (W' := (fun w => w = gw_mw cc a zS)) B hI rfl (Nat.zero_le _) (Nat.zero_le _) dX9_add_62
        · replace h := gw_ifF c12 h
          refine lv_iload hx hb dX9_add_35 (lv_at hl 6 rfl) ?_
          refine lv_i2l hx hb dX9_add_37 rfl ?_
          refine lv_lconst (v := 1) hx hb dX9_add_38 (by decide) ?_
          refine lv_ldc2 (v := 9999) hx hb hown (hts (.constantLong RX9 199 (9999)) (by decide +kernel)) dX9_add_39 ?_
          obtain ⟨r13, e14, h⟩ := gw_bdE h
          refine gw_callS (As := [.long (x6.toInt64), .long (1 : Int64), .long (9999 : Int64)]) (n := 3) B hI (k_X9_in (x6.toInt64) (1 : Int64) (9999 : Int64) S e14) gX9_add_X9_in rfl rfl rfl nds_X9_in ⟨Nat.le_of_ble_eq_true rfl, Nat.le_of_ble_eq_true rfl⟩ rfl hl.1 (Nat.zero_le _) dX9_add_42 ⟨Nat.le_of_ble_eq_true rfl, Nat.le_of_ble_eq_true rfl⟩ rfl (fun w' H locs hw hI => ?_)
          subst hw
          refine lv_if_eq (tgt := 61) hx hb dX9_add_45 (by decide) (fun c15 => ?_) (fun c15 => ?_)
          · replace h := gw_ifT c15 h
            refine lv_iconst (v := -1) hx hb dX9_add_61 (by decide) ?_
            obtain ⟨h1, h2⟩ := Prod.mk.inj (Option.some.inj h)
            rw [h2] at hI
            rw [← h1]
            exact gw_iret (W' := (fun w => w = gw_mw cc a zS)) B hI rfl (Nat.zero_le _) (Nat.zero_le _) dX9_add_62
          · replace h := gw_ifF c15 h
            refine lv_iload hx hb dX9_add_48 (lv_at hl 7 rfl) ?_
            refine lv_i2l hx hb dX9_add_50 rfl ?_
            refine lv_lconst (v := 1) hx hb dX9_add_51 (by decide) ?_
            refine lv_ldc2 (v := 99) hx hb hown (hts (.constantLong RX9 201 (99)) (by decide +kernel)) dX9_add_52 ?_
            obtain ⟨r16, e17, h⟩ := gw_bdE h
            refine gw_callS (As := [.long (x7.toInt64), .long (1 : Int64), .long (99 : Int64)]) (n := 3) B hI (k_X9_in (x7.toInt64) (1 : Int64) (99 : Int64) S e17) gX9_add_X9_in rfl rfl rfl nds_X9_in ⟨Nat.le_of_ble_eq_true rfl, Nat.le_of_ble_eq_true rfl⟩ rfl hl.1 (Nat.zero_le _) dX9_add_55 ⟨Nat.le_of_ble_eq_true rfl, Nat.le_of_ble_eq_true rfl⟩ rfl (fun w' H locs hw hI => ?_)
            subst hw
            refine lv_if_ne (tgt := 63) hx hb dX9_add_58 (by decide) (fun c18 => ?_) (fun c18 => ?_)
            · replace h := gw_ifF c18 h
              refine lv_aload_n hx hb dX9_add_63 rfl (lv_at hl 0 rfl) ?_
              refine gw_get (T := TX9) (k := 8) (v := .int (S 0 8)) B hI gm_g0 rfl ly_X9_add_9 (by decide) m_X9_add_203 rfl rfl dX9_add_64 ?_
              refine lv_bipush (v := 24) hx hb dX9_add_67 (by decide) ?_
              refine lv_icmp_ne (tgt := 75) hx hb dX9_add_69 (by decide) (fun c19 => ?_) (fun c19 => ?_)
              · replace h := gw_ifF c19 h
                refine lv_aload_n hx hb dX9_add_75 rfl (lv_at hl 0 rfl) ?_
                refine gw_get (T := TX9) (k := 9) (v := .ref (a 7)) B hI gm_g0 rfl ly_X9_add_9 (by decide) m_X9_add_28 rfl rfl dX9_add_76 ?_
                refine lv_aload_n hx hb dX9_add_79 rfl (lv_at hl 0 rfl) ?_
                refine gw_get (T := TX9) (k := 8) (v := .int (S 0 8)) B hI gm_g0 rfl ly_X9_add_9 (by decide) m_X9_add_203 rfl rfl dX9_add_80 ?_
                refine lv_iload_n hx hb dX9_add_83 rfl (lv_at hl 1 rfl) ?_
                obtain ⟨g20, h⟩ := gw_gdE h
                obtain ⟨S21, e22, h⟩ := gw_letE h
                refine gw_iast (t0 := 0) (w' := gw_mw cc a S21) B hI gm_g7 rfl g20 (gm_s7 e22) dX9_add_84 (fun H locs hI => ?_)
                refine lv_aload_n hx hb dX9_add_85 rfl (lv_at hl 0 rfl) ?_
                refine gw_get (T := TX9) (k := 10) (v := .ref (a 8)) B hI gm_g0 rfl ly_X9_add_9 (by decide) m_X9_add_31 rfl rfl dX9_add_86 ?_
                refine lv_aload_n hx hb dX9_add_89 rfl (lv_at hl 0 rfl) ?_
                refine gw_get (T := TX9) (k := 8) (v := .int (S21 0 8)) B hI gm_g0 rfl ly_X9_add_9 (by decide) m_X9_add_203 rfl rfl dX9_add_90 ?_
                refine lv_iload_n hx hb dX9_add_93 rfl (lv_at hl 2 rfl) ?_
                obtain ⟨g23, h⟩ := gw_gdE h
                obtain ⟨S24, e25, h⟩ := gw_letE h
                refine gw_iast (t0 := 0) (w' := gw_mw cc a S24) B hI gm_g8 rfl g23 (gm_s8 e25) dX9_add_94 (fun H locs hI => ?_)
                refine lv_aload_n hx hb dX9_add_95 rfl (lv_at hl 0 rfl) ?_
                refine gw_get (T := TX9) (k := 11) (v := .ref (a 9)) B hI gm_g0 rfl ly_X9_add_9 (by decide) m_X9_add_34 rfl rfl dX9_add_96 ?_
                refine lv_aload_n hx hb dX9_add_99 rfl (lv_at hl 0 rfl) ?_
                refine gw_get (T := TX9) (k := 8) (v := .int (S24 0 8)) B hI gm_g0 rfl ly_X9_add_9 (by decide) m_X9_add_203 rfl rfl dX9_add_100 ?_
                refine lv_iload_n hx hb dX9_add_103 rfl (lv_at hl 3 rfl) ?_
                obtain ⟨g26, h⟩ := gw_gdE h
                obtain ⟨S27, e28, h⟩ := gw_letE h
                refine gw_iast (t0 := 0) (w' := gw_mw cc a S27) B hI gm_g9 rfl g26 (gm_s9 e28) dX9_add_104 (fun H locs hI => ?_)
                refine lv_aload_n hx hb dX9_add_105 rfl (lv_at hl 0 rfl) ?_
                refine gw_get (T := TX9) (k := 12) (v := .ref (a 10)) B hI gm_g0 rfl ly_X9_add_9 (by decide) m_X9_add_37 rfl rfl dX9_add_106 ?_
                refine lv_aload_n hx hb dX9_add_109 rfl (lv_at hl 0 rfl) ?_
                refine gw_get (T := TX9) (k := 8) (v := .int (S27 0 8)) B hI gm_g0 rfl ly_X9_add_9 (by decide) m_X9_add_203 rfl rfl dX9_add_110 ?_
                refine lv_iload hx hb dX9_add_113 (lv_at hl 4 rfl) ?_
                obtain ⟨g29, h⟩ := gw_gdE h
                obtain ⟨S30, e31, h⟩ := gw_letE h
                refine gw_iast (t0 := 0) (w' := gw_mw cc a S30) B hI gm_g10 rfl g29 (gm_s10 e31) dX9_add_115 (fun H locs hI => ?_)
                refine lv_aload_n hx hb dX9_add_116 rfl (lv_at hl 0 rfl) ?_
                refine gw_get (T := TX9) (k := 13) (v := .ref (a 11)) B hI gm_g0 rfl ly_X9_add_9 (by decide) m_X9_add_40 rfl rfl dX9_add_117 ?_
                refine lv_aload_n hx hb dX9_add_120 rfl (lv_at hl 0 rfl) ?_
                refine gw_get (T := TX9) (k := 8) (v := .int (S30 0 8)) B hI gm_g0 rfl ly_X9_add_9 (by decide) m_X9_add_203 rfl rfl dX9_add_121 ?_
                refine lv_iload hx hb dX9_add_124 (lv_at hl 5 rfl) ?_
                obtain ⟨g32, h⟩ := gw_gdE h
                obtain ⟨S33, e34, h⟩ := gw_letE h
                refine gw_iast (t0 := 0) (w' := gw_mw cc a S33) B hI gm_g11 rfl g32 (gm_s11 e34) dX9_add_126 (fun H locs hI => ?_)
                refine lv_aload_n hx hb dX9_add_127 rfl (lv_at hl 0 rfl) ?_
                refine gw_get (T := TX9) (k := 14) (v := .ref (a 12)) B hI gm_g0 rfl ly_X9_add_9 (by decide) m_X9_add_43 rfl rfl dX9_add_128 ?_
                refine lv_aload_n hx hb dX9_add_131 rfl (lv_at hl 0 rfl) ?_
                refine gw_get (T := TX9) (k := 8) (v := .int (S33 0 8)) B hI gm_g0 rfl ly_X9_add_9 (by decide) m_X9_add_203 rfl rfl dX9_add_132 ?_
                refine lv_iload hx hb dX9_add_135 (lv_at hl 6 rfl) ?_
                obtain ⟨g35, h⟩ := gw_gdE h
                obtain ⟨S36, e37, h⟩ := gw_letE h
                refine gw_iast (t0 := 0) (w' := gw_mw cc a S36) B hI gm_g12 rfl g35 (gm_s12 e37) dX9_add_137 (fun H locs hI => ?_)
                refine lv_aload_n hx hb dX9_add_138 rfl (lv_at hl 0 rfl) ?_
                refine gw_get (T := TX9) (k := 15) (v := .ref (a 13)) B hI gm_g0 rfl ly_X9_add_9 (by decide) m_X9_add_46 rfl rfl dX9_add_139 ?_
                refine lv_aload_n hx hb dX9_add_142 rfl (lv_at hl 0 rfl) ?_
                refine gw_get (T := TX9) (k := 8) (v := .int (S36 0 8)) B hI gm_g0 rfl ly_X9_add_9 (by decide) m_X9_add_203 rfl rfl dX9_add_143 ?_
                refine lv_iload hx hb dX9_add_146 (lv_at hl 7 rfl) ?_
                obtain ⟨g38, h⟩ := gw_gdE h
                obtain ⟨S39, e40, h⟩ := gw_letE h
                refine gw_iast (t0 := 0) (w' := gw_mw cc a S39) B hI gm_g13 rfl g38 (gm_s13 e40) dX9_add_148 (fun H locs hI => ?_)
                refine lv_aload_n hx hb dX9_add_149 rfl (lv_at hl 0 rfl) ?_
                refine lv_dup hx hb dX9_add_150 rfl ?_
                refine gw_get (T := TX9) (k := 8) (v := .int (S39 0 8)) B hI gm_g0 rfl ly_X9_add_9 (by decide) m_X9_add_203 rfl rfl dX9_add_151 ?_
                refine lv_iconst (v := 1) hx hb dX9_add_154 (by decide) ?_
                refine lv_iadd hx hb dX9_add_155 ?_
                obtain ⟨S41, e42, h⟩ := gw_letE h
                refine gw_put (T := TX9) (k := 8) (w' := gw_mw cc a S41) B hI gm_g0 rfl ly_X9_add_9 tyX9 tyX9_ok nmX9 (by decide) m_X9_add_203 rfl rfl rfl rfl (Nat.le_of_ble_eq_true rfl) (gm_s0_8 e42) dX9_add_156 (fun H locs hI => ?_)
                refine lv_aload_n hx hb dX9_add_159 rfl (lv_at hl 0 rfl) ?_
                refine gw_get (T := TX9) (k := 8) (v := .int (S41 0 8)) B hI gm_g0 rfl ly_X9_add_9 (by decide) m_X9_add_203 rfl rfl dX9_add_160 ?_
                refine lv_iconst (v := 1) hx hb dX9_add_163 (by decide) ?_
                refine lv_isub hx hb dX9_add_164 ?_
                obtain ⟨h1, h2⟩ := Prod.mk.inj (Option.some.inj h)
                rw [h2] at hI
                rw [← h1]
                exact gw_iret (W' := (fun w => w = gw_mw cc a zS)) B hI rfl (Nat.zero_le _) (Nat.zero_le _) dX9_add_165
              · replace h := gw_ifT c19 h
                refine lv_bipush (v := -3) hx hb dX9_add_72 (by decide) ?_
                obtain ⟨h1, h2⟩ := Prod.mk.inj (Option.some.inj h)
                rw [h2] at hI
                rw [← h1]
                exact gw_iret (W' := (fun w => w = gw_mw cc a zS)) B hI rfl (Nat.zero_le _) (Nat.zero_le _) dX9_add_74
            · replace h := gw_ifT c18 h
              refine lv_iconst (v := -1) hx hb dX9_add_61 (by decide) ?_
              obtain ⟨h1, h2⟩ := Prod.mk.inj (Option.some.inj h)
              rw [h2] at hI
              rw [← h1]
              exact gw_iret (W' := (fun w => w = gw_mw cc a zS)) B hI rfl (Nat.zero_le _) (Nat.zero_le _) dX9_add_62
set_option maxRecDepth 100000 in
set_option maxHeartbeats 4000000 in
theorem k_X9_gown (x1 : Int32) (x2 : Int32) (x3 : Int32) (x4 : Int32) (x5 : Int32) (x6 : Int32) (S : gw_S) {zr : Int32} {zS : gw_S} (h : f_X9_gown x1 x2 x3 x4 x5 x6 S = some (zr, zS)) : gw_M l yX9_gown wsX9_gown rm_X9_gown 0 0 D (gw_ty cc) t1 t2 [.ref (a 0), .int x1, .int x2, .int x3, .int x4, .int x5, .int x6] (gw_mw cc a S) (fun w => w = gw_mw cc a zS) (some (.int zr)) := by
  refine gw_enter (cc := cX9_gown) (maxL := 7) (ret := (some .int)) (own := RX9) rfl (by decide) rfl (Nat.le_of_ble_eq_true rfl) ?_
  intro p e s m below meth c A B hin hI ls hl
  have hl : lv_has ls 7 [(0, .ref (a 0)), (1, .int x1), (2, .int x2), (3, .int x3), (4, .int x4), (5, .int x5), (6, .int x6)] := hl
  generalize ([.ref (a 0), .int x1, .int x2, .int x3, .int x4, .int x5, .int x6] : List Value).toArray = args at B ⊢
  have hx := B.1.1
  have hb := B.1.2.1
  have hown : s.vm.findClass RX9 = some m.cls := B.1.2.2.2.1
  have hts := B.1.2.2.2.2
  unfold f_X9_gown at h
  refine lv_aload_n hx hb dX9_gown_0 rfl (lv_at hl 0 rfl) ?_
  refine lv_iconst (v := 0) hx hb dX9_gown_1 (by decide) ?_
  refine lv_iload_n hx hb dX9_gown_2 rfl (lv_at hl 1 rfl) ?_
  refine lv_iload_n hx hb dX9_gown_3 rfl (lv_at hl 2 rfl) ?_
  refine lv_iload_n hx hb dX9_gown_4 rfl (lv_at hl 3 rfl) ?_
  refine lv_iload hx hb dX9_gown_5 (lv_at hl 4 rfl) ?_
  refine lv_iload hx hb dX9_gown_7 (lv_at hl 5 rfl) ?_
  refine lv_iload hx hb dX9_gown_9 (lv_at hl 6 rfl) ?_
  obtain ⟨r1, S2, e3, h⟩ := gw_b2E h
  refine gw_callV (As := [.int (0 : Int32), .int x1, .int x2, .int x3, .int x4, .int x5, .int x6]) (n := 7) B hI (k_X9_add (0 : Int32) x1 x2 x3 x4 x5 x6 S e3) gX9_gown_X9_add rfl rfl rfl nd_X9_add ⟨Nat.le_of_ble_eq_true rfl, Nat.le_of_ble_eq_true rfl⟩ gm_g0 rfl rfl rfl hl.1 (Nat.zero_le _) dX9_gown_11 ⟨Nat.le_of_ble_eq_true rfl, Nat.le_of_ble_eq_true rfl⟩ rfl (fun w' H locs hw hI => ?_)
  subst hw
  obtain ⟨h1, h2⟩ := Prod.mk.inj (Option.some.inj h)
  rw [h2] at hI
  rw [← h1]
  exact gw_iret (W' := (fun w => w = gw_mw cc a zS)) B hI rfl (Nat.zero_le _) (Nat.zero_le _) dX9_gown_14
set_option maxRecDepth 100000 in
set_option maxHeartbeats 4000000 in
theorem k_X9_longGown (x1 : Int32) (x2 : Int32) (x3 : Int32) (x4 : Int32) (x5 : Int32) (x6 : Int32) (S : gw_S) {zr : Int32} {zS : gw_S} (h : f_X9_longGown x1 x2 x3 x4 x5 x6 S = some (zr, zS)) : gw_M l yX9_longGown wsX9_longGown rm_X9_longGown 0 0 D (gw_ty cc) t1 t2 [.ref (a 0), .int x1, .int x2, .int x3, .int x4, .int x5, .int x6] (gw_mw cc a S) (fun w => w = gw_mw cc a zS) (some (.int zr)) := by
  refine gw_enter (cc := cX9_longGown) (maxL := 7) (ret := (some .int)) (own := RX9) rfl (by decide) rfl (Nat.le_of_ble_eq_true rfl) ?_
  intro p e s m below meth c A B hin hI ls hl
  have hl : lv_has ls 7 [(0, .ref (a 0)), (1, .int x1), (2, .int x2), (3, .int x3), (4, .int x4), (5, .int x5), (6, .int x6)] := hl
  generalize ([.ref (a 0), .int x1, .int x2, .int x3, .int x4, .int x5, .int x6] : List Value).toArray = args at B ⊢
  have hx := B.1.1
  have hb := B.1.2.1
  have hown : s.vm.findClass RX9 = some m.cls := B.1.2.2.2.1
  have hts := B.1.2.2.2.2
  unfold f_X9_longGown at h
  refine lv_aload_n hx hb dX9_longGown_0 rfl (lv_at hl 0 rfl) ?_
  refine lv_iconst (v := 1) hx hb dX9_longGown_1 (by decide) ?_
  refine lv_iload_n hx hb dX9_longGown_2 rfl (lv_at hl 1 rfl) ?_
  refine lv_iload_n hx hb dX9_longGown_3 rfl (lv_at hl 2 rfl) ?_
  refine lv_iload_n hx hb dX9_longGown_4 rfl (lv_at hl 3 rfl) ?_
  refine lv_iload hx hb dX9_longGown_5 (lv_at hl 4 rfl) ?_
  refine lv_iload hx hb dX9_longGown_7 (lv_at hl 5 rfl) ?_
  refine lv_iload hx hb dX9_longGown_9 (lv_at hl 6 rfl) ?_
  obtain ⟨r1, S2, e3, h⟩ := gw_b2E h
  refine gw_callV (As := [.int (1 : Int32), .int x1, .int x2, .int x3, .int x4, .int x5, .int x6]) (n := 7) B hI (k_X9_add (1 : Int32) x1 x2 x3 x4 x5 x6 S e3) gX9_longGown_X9_add rfl rfl rfl nd_X9_add ⟨Nat.le_of_ble_eq_true rfl, Nat.le_of_ble_eq_true rfl⟩ gm_g0 rfl rfl rfl hl.1 (Nat.zero_le _) dX9_longGown_11 ⟨Nat.le_of_ble_eq_true rfl, Nat.le_of_ble_eq_true rfl⟩ rfl (fun w' H locs hw hI => ?_)
  subst hw
  obtain ⟨h1, h2⟩ := Prod.mk.inj (Option.some.inj h)
  rw [h2] at hI
  rw [← h1]
  exact gw_iret (W' := (fun w => w = gw_mw cc a zS)) B hI rfl (Nat.zero_le _) (Nat.zero_le _) dX9_longGown_14
set_option maxRecDepth 100000 in
set_option maxHeartbeats 4000000 in
theorem k_X9_suit (x1 : Int32) (x2 : Int32) (x3 : Int32) (x4 : Int32) (x5 : Int32) (x6 : Int32) (S : gw_S) {zr : Int32} {zS : gw_S} (h : f_X9_suit x1 x2 x3 x4 x5 x6 S = some (zr, zS)) : gw_M l yX9_suit wsX9_suit rm_X9_suit 0 0 D (gw_ty cc) t1 t2 [.ref (a 0), .int x1, .int x2, .int x3, .int x4, .int x5, .int x6] (gw_mw cc a S) (fun w => w = gw_mw cc a zS) (some (.int zr)) := by
  refine gw_enter (cc := cX9_suit) (maxL := 7) (ret := (some .int)) (own := RX9) rfl (by decide) rfl (Nat.le_of_ble_eq_true rfl) ?_
  intro p e s m below meth c A B hin hI ls hl
  have hl : lv_has ls 7 [(0, .ref (a 0)), (1, .int x1), (2, .int x2), (3, .int x3), (4, .int x4), (5, .int x5), (6, .int x6)] := hl
  generalize ([.ref (a 0), .int x1, .int x2, .int x3, .int x4, .int x5, .int x6] : List Value).toArray = args at B ⊢
  have hx := B.1.1
  have hb := B.1.2.1
  have hown : s.vm.findClass RX9 = some m.cls := B.1.2.2.2.1
  have hts := B.1.2.2.2.2
  unfold f_X9_suit at h
  refine lv_aload_n hx hb dX9_suit_0 rfl (lv_at hl 0 rfl) ?_
  refine lv_iconst (v := 2) hx hb dX9_suit_1 (by decide) ?_
  refine lv_iload_n hx hb dX9_suit_2 rfl (lv_at hl 1 rfl) ?_
  refine lv_iload_n hx hb dX9_suit_3 rfl (lv_at hl 2 rfl) ?_
  refine lv_iload_n hx hb dX9_suit_4 rfl (lv_at hl 3 rfl) ?_
  refine lv_iload hx hb dX9_suit_5 (lv_at hl 4 rfl) ?_
  refine lv_iload hx hb dX9_suit_7 (lv_at hl 5 rfl) ?_
  refine lv_iload hx hb dX9_suit_9 (lv_at hl 6 rfl) ?_
  obtain ⟨r1, S2, e3, h⟩ := gw_b2E h
  refine gw_callV (As := [.int (2 : Int32), .int x1, .int x2, .int x3, .int x4, .int x5, .int x6]) (n := 7) B hI (k_X9_add (2 : Int32) x1 x2 x3 x4 x5 x6 S e3) gX9_suit_X9_add rfl rfl rfl nd_X9_add ⟨Nat.le_of_ble_eq_true rfl, Nat.le_of_ble_eq_true rfl⟩ gm_g0 rfl rfl rfl hl.1 (Nat.zero_le _) dX9_suit_11 ⟨Nat.le_of_ble_eq_true rfl, Nat.le_of_ble_eq_true rfl⟩ rfl (fun w' H locs hw hI => ?_)
  subst hw
  obtain ⟨h1, h2⟩ := Prod.mk.inj (Option.some.inj h)
  rw [h2] at hI
  rw [← h1]
  exact gw_iret (W' := (fun w => w = gw_mw cc a zS)) B hI rfl (Nat.zero_le _) (Nat.zero_le _) dX9_suit_14
theorem m_X9_isPiece_203 : Cond.fieldLink RX9 203 "GownLetModel" "pieces" "I" ∈ wsX9_isPiece := by decide +kernel
theorem ly_X9_isPiece_9 : ∀ w ∈ wsX90, w ∈ wsX9_isPiece := fun w h => List.mem_cons_of_mem _ (List.mem_append_right _ h)
set_option maxRecDepth 100000 in
set_option maxHeartbeats 4000000 in
theorem k_X9_isPiece (x1 : Int32) (S : gw_S) {zr : Int32} (h : f_X9_isPiece x1 S = some zr) : gw_M l yX9_isPiece wsX9_isPiece rm_X9_isPiece 0 0 D (gw_ty cc) t1 t2 [.ref (a 0), .int x1] (gw_mw cc a S) (fun w => w = gw_mw cc a S) (some (.int zr)) := by
  refine gw_enter (cc := cX9_isPiece) (maxL := 2) (ret := (some .boolean)) (own := RX9) rfl (by decide) rfl (Nat.le_of_ble_eq_true rfl) ?_
  intro p e s m below meth c A B hin hI ls hl
  have hl : lv_has ls 2 [(0, .ref (a 0)), (1, .int x1)] := hl
  generalize ([.ref (a 0), .int x1] : List Value).toArray = args at B ⊢
  have hx := B.1.1
  have hb := B.1.2.1
  have hown : s.vm.findClass RX9 = some m.cls := B.1.2.2.2.1
  have hts := B.1.2.2.2.2
  unfold f_X9_isPiece at h
  refine lv_iload_n hx hb dX9_isPiece_0 rfl (lv_at hl 1 rfl) ?_
  refine lv_i2l hx hb dX9_isPiece_1 rfl ?_
  refine lv_lconst (v := 0) hx hb dX9_isPiece_2 (by decide) ?_
  refine lv_aload_n hx hb dX9_isPiece_3 rfl (lv_at hl 0 rfl) ?_
  refine gw_get (T := TX9) (k := 8) (v := .int (S 0 8)) B hI gm_g0 rfl ly_X9_isPiece_9 (by decide) m_X9_isPiece_203 rfl rfl dX9_isPiece_4 ?_
  refine lv_iconst (v := 1) hx hb dX9_isPiece_7 (by decide) ?_
  refine lv_isub hx hb dX9_isPiece_8 ?_
  refine lv_i2l hx hb dX9_isPiece_9 rfl ?_
  obtain ⟨r1, e2, h⟩ := gw_bdE h
  refine gw_callS (As := [.long (x1.toInt64), .long (0 : Int64), .long (((S 0 8) - (1 : Int32)).toInt64)]) (n := 3) B hI (k_X9_in (x1.toInt64) (0 : Int64) (((S 0 8) - (1 : Int32)).toInt64) S e2) gX9_isPiece_X9_in rfl rfl rfl nds_X9_in ⟨Nat.le_of_ble_eq_true rfl, Nat.le_of_ble_eq_true rfl⟩ rfl hl.1 (Nat.zero_le _) dX9_isPiece_10 ⟨Nat.le_of_ble_eq_true rfl, Nat.le_of_ble_eq_true rfl⟩ rfl (fun w' H locs hw hI => ?_)
  subst hw
  obtain ⟨g3, h⟩ := gw_gdE h
  rw [← Option.some.inj h]
  exact gw_zret (W' := (fun w => w = gw_mw cc a S)) B hI rfl g3 (Nat.zero_le _) (Nat.zero_le _) dX9_isPiece_13
theorem m_X9_hem_28 : Cond.fieldLink RX9 28 "GownLetModel" "kinds" "[I" ∈ wsX9_hem := by decide +kernel
theorem m_X9_hem_49 : Cond.fieldLink RX9 49 "GownLetModel" "hems" "[I" ∈ wsX9_hem := by decide +kernel
theorem ly_X9_hem_9 : ∀ w ∈ wsX90, w ∈ wsX9_hem := fun w h => List.mem_cons_of_mem _ (List.mem_append_right _ h)
set_option maxRecDepth 100000 in
set_option maxHeartbeats 4000000 in
theorem k_X9_hem (x1 : Int32) (x2 : Int32) (S : gw_S) {zr : Int32} {zS : gw_S} (h : f_X9_hem x1 x2 S = some (zr, zS)) : gw_M l yX9_hem wsX9_hem rm_X9_hem 0 0 D (gw_ty cc) t1 t2 [.ref (a 0), .int x1, .int x2] (gw_mw cc a S) (fun w => w = gw_mw cc a zS) (some (.int zr)) := by
  refine gw_enter (cc := cX9_hem) (maxL := 3) (ret := (some .int)) (own := RX9) rfl (by decide) rfl (Nat.le_of_ble_eq_true rfl) ?_
  intro p e s m below meth c A B hin hI ls hl
  have hl : lv_has ls 3 [(0, .ref (a 0)), (1, .int x1), (2, .int x2)] := hl
  generalize ([.ref (a 0), .int x1, .int x2] : List Value).toArray = args at B ⊢
  have hx := B.1.1
  have hb := B.1.2.1
  have hown : s.vm.findClass RX9 = some m.cls := B.1.2.2.2.1
  have hts := B.1.2.2.2.2
  unfold f_X9_hem at h
  refine lv_aload_n hx hb dX9_hem_0 rfl (lv_at hl 0 rfl) ?_
  refine lv_iload_n hx hb dX9_hem_1 rfl (lv_at hl 1 rfl) ?_
  obtain ⟨r1, e2, h⟩ := gw_bdE h
  refine gw_callV (As := [.int x1]) (n := 1) B hI (k_X9_isPiece x1 S e2) gX9_hem_X9_isPiece rfl rfl rfl nd_X9_isPiece ⟨Nat.le_of_ble_eq_true rfl, Nat.le_of_ble_eq_true rfl⟩ gm_g0 rfl rfl rfl hl.1 (Nat.zero_le _) dX9_hem_2 ⟨Nat.le_of_ble_eq_true rfl, Nat.le_of_ble_eq_true rfl⟩ rfl (fun w' H locs hw hI => ?_)
  subst hw
  refine lv_if_eq (tgt := 20) hx hb dX9_hem_5 (by decide) (fun c3 => ?_) (fun c3 => ?_)
  · replace h := gw_ifT c3 h
    refine lv_iconst (v := -1) hx hb dX9_hem_20 (by decide) ?_
    obtain ⟨h1, h2⟩ := Prod.mk.inj (Option.some.inj h)
    rw [h2] at hI
    rw [← h1]
    exact gw_iret (W' := (fun w => w = gw_mw cc a zS)) B hI rfl (Nat.zero_le _) (Nat.zero_le _) dX9_hem_21
  · replace h := gw_ifF c3 h
    refine lv_iload_n hx hb dX9_hem_8 rfl (lv_at hl 2 rfl) ?_
    refine lv_i2l hx hb dX9_hem_9 rfl ?_
    refine lv_lconst (v := 1) hx hb dX9_hem_10 (by decide) ?_
    refine lv_ldc2 (v := 3) hx hb hown (hts (.constantLong RX9 213 (3)) (by decide +kernel)) dX9_hem_11 ?_
    obtain ⟨r4, e5, h⟩ := gw_bdE h
    refine gw_callS (As := [.long (x2.toInt64), .long (1 : Int64), .long (3 : Int64)]) (n := 3) B hI (k_X9_in (x2.toInt64) (1 : Int64) (3 : Int64) S e5) gX9_hem_X9_in rfl rfl rfl nds_X9_in ⟨Nat.le_of_ble_eq_true rfl, Nat.le_of_ble_eq_true rfl⟩ rfl hl.1 (Nat.zero_le _) dX9_hem_14 ⟨Nat.le_of_ble_eq_true rfl, Nat.le_of_ble_eq_true rfl⟩ rfl (fun w' H locs hw hI => ?_)
    subst hw
    refine lv_if_ne (tgt := 22) hx hb dX9_hem_17 (by decide) (fun c6 => ?_) (fun c6 => ?_)
    · replace h := gw_ifF c6 h
      refine lv_aload_n hx hb dX9_hem_22 rfl (lv_at hl 0 rfl) ?_
      refine gw_get (T := TX9) (k := 9) (v := .ref (a 7)) B hI gm_g0 rfl ly_X9_hem_9 (by decide) m_X9_hem_28 rfl rfl dX9_hem_23 ?_
      refine lv_iload_n hx hb dX9_hem_26 rfl (lv_at hl 1 rfl) ?_
      obtain ⟨g7, h⟩ := gw_gdE h
      refine gw_iald (t0 := 0) B hI gm_g7 rfl g7 dX9_hem_27 ?_
      refine lv_iconst (v := 1) hx hb dX9_hem_28 (by decide) ?_
      refine lv_icmp_eq (tgt := 35) hx hb dX9_hem_29 (by decide) (fun c8 => ?_) (fun c8 => ?_)
      · replace h := gw_ifT c8 h
        refine lv_aload_n hx hb dX9_hem_35 rfl (lv_at hl 0 rfl) ?_
        refine gw_get (T := TX9) (k := 16) (v := .ref (a 14)) B hI gm_g0 rfl ly_X9_hem_9 (by decide) m_X9_hem_49 rfl rfl dX9_hem_36 ?_
        refine lv_iload_n hx hb dX9_hem_39 rfl (lv_at hl 1 rfl) ?_
        refine gw_iald (t0 := 0) B hI gm_g14 rfl g7 dX9_hem_40 ?_
        refine lv_if_le (tgt := 47) hx hb dX9_hem_41 (by decide) (fun c9 => ?_) (fun c9 => ?_)
        · replace h := gw_ifT c9 h
          refine lv_aload_n hx hb dX9_hem_47 rfl (lv_at hl 0 rfl) ?_
          refine gw_get (T := TX9) (k := 16) (v := .ref (a 14)) B hI gm_g0 rfl ly_X9_hem_9 (by decide) m_X9_hem_49 rfl rfl dX9_hem_48 ?_
          refine lv_iload_n hx hb dX9_hem_51 rfl (lv_at hl 1 rfl) ?_
          refine lv_iload_n hx hb dX9_hem_52 rfl (lv_at hl 2 rfl) ?_
          obtain ⟨S10, e11, h⟩ := gw_letE h
          refine gw_iast (t0 := 0) (w' := gw_mw cc a S10) B hI gm_g14 rfl g7 (gm_s14 e11) dX9_hem_53 (fun H locs hI => ?_)
          refine lv_iconst (v := 1) hx hb dX9_hem_54 (by decide) ?_
          obtain ⟨h1, h2⟩ := Prod.mk.inj (Option.some.inj h)
          rw [h2] at hI
          rw [← h1]
          exact gw_iret (W' := (fun w => w = gw_mw cc a zS)) B hI rfl (Nat.zero_le _) (Nat.zero_le _) dX9_hem_55
        · replace h := gw_ifF c9 h
          refine lv_bipush (v := -2) hx hb dX9_hem_44 (by decide) ?_
          obtain ⟨h1, h2⟩ := Prod.mk.inj (Option.some.inj h)
          rw [h2] at hI
          rw [← h1]
          exact gw_iret (W' := (fun w => w = gw_mw cc a zS)) B hI rfl (Nat.zero_le _) (Nat.zero_le _) dX9_hem_46
      · replace h := gw_ifF c8 h
        refine lv_bipush (v := -12) hx hb dX9_hem_32 (by decide) ?_
        obtain ⟨h1, h2⟩ := Prod.mk.inj (Option.some.inj h)
        rw [h2] at hI
        rw [← h1]
        exact gw_iret (W' := (fun w => w = gw_mw cc a zS)) B hI rfl (Nat.zero_le _) (Nat.zero_le _) dX9_hem_34
    · replace h := gw_ifT c6 h
      refine lv_iconst (v := -1) hx hb dX9_hem_20 (by decide) ?_
      obtain ⟨h1, h2⟩ := Prod.mk.inj (Option.some.inj h)
      rw [h2] at hI
      rw [← h1]
      exact gw_iret (W' := (fun w => w = gw_mw cc a zS)) B hI rfl (Nat.zero_le _) (Nat.zero_le _) dX9_hem_21
end
