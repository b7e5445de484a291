section
variable {l : Launch} {D : va_G} {t1 t2 : Nat} {cc : Nat → ClassId} {a b d : Nat → Nat}
theorem m_X2_keep_31 : Cond.fieldLink RX2 31 "GownLet$House" "pieces" "[LGownLet$Piece;" ∈ wsX2_keep := by decide +kernel
theorem m_X2_keep_45 : Cond.fieldLink RX2 45 "GownLet$House" "pieceCount" "I" ∈ wsX2_keep := by decide +kernel
theorem ly_X2_keep_2 : ∀ w ∈ wsX20, w ∈ wsX2_keep := fun w h => List.mem_cons_of_mem _ (List.mem_append_left _ (List.mem_append_right _ h))
theorem ly_X2_keep_4 : ∀ w ∈ wsX40, w ∈ wsX2_keep := fun w h => List.mem_cons_of_mem _ (List.mem_append_right _ h)
set_option maxRecDepth 100000 in
set_option maxHeartbeats 4000000 in
theorem k_X2_keep (x1 : Int32) (S : gw_S) {zr : Int32} {zS : gw_S} (h : f_X2_keep x1 S = some (zr, zS)) : gw_M l yX2_keep wsX2_keep rm_X2_keep 0 0 D (gw_ty cc) t1 t2 [.ref (a 3), va_rf (gw_rf b x1)] (gw_cw cc a b d S) (fun w => w = gw_cw cc a b d zS) (some (.int zr)) := by
  refine gw_enter (cc := cX2_keep) (maxL := 2) (ret := (some .int)) (own := RX2) rfl (by decide) rfl (by simp [lg_sl, gw_catq, gw_cI, gw_cR, gw_cL]) ?_
  intro p e s m below meth c A B hin hI ls hl
  have hl : lv_has ls 2 [(0, .ref (a 3)), (1, va_rf (gw_rf b x1))] := by simpa [lv_args, gw_catq, gw_cI, gw_cR, gw_cL] using hl
  generalize ([.ref (a 3), va_rf (gw_rf b x1)] : List Value).toArray = args at B ⊢
  have hx := B.1.1
  have hb := B.1.2.1
  have hown : s.vm.findClass RX2 = some m.cls := B.1.2.2.2.1
  have hts := B.1.2.2.2.2
  unfold f_X2_keep at h
  refine lv_aload_n hx hb dX2_keep_0 rfl (lv_at hl 0 rfl) ?_
  refine gw_get (T := TX2) (k := 6) (v := .int (S 3 6)) B hI gc_g3 rfl ly_X2_keep_2 (by decide) m_X2_keep_45 rfl rfl dX2_keep_1 ?_
  refine lv_bipush (v := 24) hx hb dX2_keep_4 (by decide) ?_
  refine lv_icmp_lt (tgt := 12) hx hb dX2_keep_6 (by decide) (fun c1 => ?_) (fun c1 => ?_)
  · replace h := gw_ifT c1 h
    refine gw_aload_n B dX2_keep_12 rfl (lv_at hl 1 rfl) ?_
    refine lv_aload_n hx hb dX2_keep_13 rfl (lv_at hl 0 rfl) ?_
    refine gw_get (T := TX2) (k := 6) (v := .int (S 3 6)) B hI gc_g3 rfl ly_X2_keep_2 (by decide) m_X2_keep_45 rfl rfl dX2_keep_14 ?_
    obtain ⟨g2, h⟩ := gw_gdE h
    rw [gw_rfP g2]
    obtain ⟨g3, h⟩ := gw_gdE h
    obtain ⟨S4, e5, h⟩ := gw_letE h
    refine gw_putN (T := TX4) (k := 7) (w' := gw_cw cc a b d S4) B hI (gc_gp g3) rfl ly_X2_keep_4 tyX4 tyX4_ok nmX4 (by decide) n_RX2_52 rfl rfl rfl rfl (Nat.le_of_ble_eq_true rfl) (gc_sp_7 g3 e5) dX2_keep_17 (fun H locs hI => ?_)
    refine lv_aload_n hx hb dX2_keep_20 rfl (lv_at hl 0 rfl) ?_
    refine gw_get (T := TX2) (k := 3) (v := .ref (a 12)) B hI gc_g3 rfl ly_X2_keep_2 (by decide) m_X2_keep_31 rfl rfl dX2_keep_21 ?_
    refine lv_aload_n hx hb dX2_keep_24 rfl (lv_at hl 0 rfl) ?_
    refine gw_get (T := TX2) (k := 6) (v := .int (S4 3 6)) B hI gc_g3 rfl ly_X2_keep_2 (by decide) m_X2_keep_45 rfl rfl dX2_keep_25 ?_
    refine gw_aload_n B dX2_keep_28 rfl (lv_at hl 1 rfl) ?_
    rw [gw_rfP g2]
    obtain ⟨g6, h⟩ := gw_gdE h
    obtain ⟨g7, h⟩ := gw_gdE h
    obtain ⟨S8, e9, h⟩ := gw_letE h
    refine gw_aast (t0 := 3) (r := (RX4, TX4, 12)) (w' := gw_cw cc a b d S8) B hI gc_g12 rfl (gc_gp g6) rfl g7 (gc_sr12 g2 e9) dX2_keep_29 (fun H locs hI => ?_)
    refine lv_aload_n hx hb dX2_keep_30 rfl (lv_at hl 0 rfl) ?_
    refine lv_dup hx hb dX2_keep_31 rfl ?_
    refine gw_get (T := TX2) (k := 6) (v := .int (S8 3 6)) B hI gc_g3 rfl ly_X2_keep_2 (by decide) m_X2_keep_45 rfl rfl dX2_keep_32 ?_
    refine lv_iconst (v := 1) hx hb dX2_keep_35 (by decide) ?_
    refine lv_iadd hx hb dX2_keep_36 ?_
    obtain ⟨S10, e11, h⟩ := gw_letE h
    refine gw_put (T := TX2) (k := 6) (w' := gw_cw cc a b d S10) B hI gc_g3 rfl ly_X2_keep_2 tyX2 tyX2_ok nmX2 (by decide) m_X2_keep_45 rfl rfl rfl rfl (Nat.le_of_ble_eq_true rfl) (gc_s3_6 e11) dX2_keep_37 (fun H locs hI => ?_)
    refine gw_aload_n B dX2_keep_40 rfl (lv_at hl 1 rfl) ?_
    rw [gw_rfP g2]
    obtain ⟨g12, h⟩ := gw_gdE h
    refine gw_getN (T := TX4) (k := 7) (v := .int (S10 (2 * x1.toNatClampNeg + 30) 7)) B hI (gc_gp g12) rfl ly_X2_keep_4 (by decide) n_RX2_52 rfl rfl dX2_keep_41 ?_
    obtain ⟨h1, h2⟩ := Prod.mk.inj (Option.some.inj h)
    rw [h2] at hI
    rw [← h1]
    exact gw_iret (W' := (fun w => w = gw_cw cc a b d zS)) B hI rfl (Nat.zero_le _) (Nat.zero_le _) dX2_keep_44
  · replace h := gw_ifF c1 h
    refine lv_bipush (v := -3) hx hb dX2_keep_9 (by decide) ?_
    obtain ⟨h1, h2⟩ := Prod.mk.inj (Option.some.inj h)
    rw [h2] at hI
    rw [← h1]
    exact gw_iret (W' := (fun w => w = gw_cw cc a b d zS)) B hI rfl (Nat.zero_le _) (Nat.zero_le _) dX2_keep_11
theorem m_X2_addBooking_37 : Cond.fieldLink RX2 37 "GownLet$House" "bookings" "[LGownLet$Booking;" ∈ wsX2_addBooking := by decide +kernel
theorem m_X2_addBooking_49 : Cond.fieldLink RX2 49 "GownLet$House" "bookingCount" "I" ∈ wsX2_addBooking := by decide +kernel
theorem ly_X2_addBooking_0 : ∀ w ∈ wsX00, w ∈ wsX2_addBooking := fun w h => List.mem_cons_of_mem _ (List.mem_append_right _ h)
theorem ly_X2_addBooking_2 : ∀ w ∈ wsX20, w ∈ wsX2_addBooking := fun w h => List.mem_cons_of_mem _ (List.mem_append_left _ (List.mem_append_right _ h))
set_option maxRecDepth 100000 in
set_option maxHeartbeats 4000000 in
theorem k_X2_addBooking (x1 : Int32) (x2 : Int32) (x3 : Int32) (x4 : Int32) (x5 : Int32) (x6 : Int32) (S : gw_S)  {zS : gw_S} (h : f_X2_addBooking x1 x2 x3 x4 x5 x6 S = some zS) : gw_M l yX2_addBooking wsX2_addBooking rm_X2_addBooking 1 14 D (gw_ty cc) t1 t2 [.ref (a 3), .int x1, .int x2, .int x3, .int x4, .int x5, .int x6] (gw_cw cc a b d S) (fun w => ∃ b1 d1, w = gw_cw cc a b1 d1 zS) none := by
  refine gw_enter (cc := cX2_addBooking) (maxL := 7) (ret := none) (own := RX2) rfl (by decide) rfl (Nat.le_of_ble_eq_true rfl) ?_
  intro p e s m below meth c A B hin hI ls hl
  have hl : lv_has ls 7 [(0, .ref (a 3)), (1, .int x1), (2, .int x2), (3, .int x3), (4, .int x4), (5, .int x5), (6, .int x6)] := hl
  generalize ([.ref (a 3), .int x1, .int x2, .int x3, .int x4, .int x5, .int x6] : List Value).toArray = args at B ⊢
  have hx := B.1.1
  have hb := B.1.2.1
  have hown : s.vm.findClass RX2 = some m.cls := B.1.2.2.2.1
  have hts := B.1.2.2.2.2
  unfold f_X2_addBooking at h
  refine lv_aload_n hx hb dX2_addBooking_0 rfl (lv_at hl 0 rfl) ?_
  refine lv_iconst (v := 1) hx hb dX2_addBooking_1 (by decide) ?_
  obtain ⟨r1, e2, h⟩ := gw_bdE h
  refine gw_callV (As := [.int (1 : Int32)]) (n := 1) B hI (k_X2_hasRoomForBookings (1 : Int32) S e2) gX2_addBooking_X2_hasRoomForBookings rfl rfl rfl nd_X2_hasRoomForBookings ⟨Nat.le_of_ble_eq_true rfl, Nat.le_of_ble_eq_true rfl⟩ gc_g3 rfl rfl rfl hl.1 (Nat.zero_le _) dX2_addBooking_2 ⟨Nat.le_of_ble_eq_true rfl, Nat.le_of_ble_eq_true rfl⟩ rfl (fun w' H locs hw hI => ?_)
  subst hw
  refine lv_if_eq (tgt := 47) hx hb dX2_addBooking_5 (by decide) (fun c3 => ?_) (fun c3 => ?_)
  · replace h := gw_ifT c3 h
    rw [Option.some.inj h] at hI
    exact gw_vret (W' := (fun w => ∃ b1 d1, w = gw_cw cc a b1 d1 zS)) B hI ⟨b, d, rfl⟩ (Nat.le_of_ble_eq_true rfl) (Nat.le_of_ble_eq_true rfl) dX2_addBooking_47
  · replace h := gw_ifF c3 h
    refine lv_aload_n hx hb dX2_addBooking_8 rfl (lv_at hl 0 rfl) ?_
    refine gw_get (T := TX2) (k := 4) (v := .ref (a 13)) B hI gc_g3 rfl ly_X2_addBooking_2 (by decide) m_X2_addBooking_37 rfl rfl dX2_addBooking_9 ?_
    refine lv_aload_n hx hb dX2_addBooking_12 rfl (lv_at hl 0 rfl) ?_
    refine gw_get (T := TX2) (k := 7) (v := .int (S 3 7)) B hI gc_g3 rfl ly_X2_addBooking_2 (by decide) m_X2_addBooking_49 rfl rfl dX2_addBooking_13 ?_
    refine gw_new (ci := 0) (N := 14) (T := TX0) (fs := [.int 0, .int 0, .int 0, .int 0, .int 0, .int 0, .int 0, .int 0, .null, .int 0, .int 0, .int 0, .int 0, .int 0]) B hI rfl ly_X2_addBooking_0 tyX0 tyX0_ok (by decide +kernel) (by decide +kernel) (by decide +kernel) (fun j hj => by rcases (show j = 0 ∨ j = 1 ∨ j = 2 ∨ j = 3 ∨ j = 4 ∨ j = 5 ∨ j = 6 ∨ j = 7 ∨ j = 8 ∨ j = 9 ∨ j = 10 ∨ j = 11 ∨ j = 12 ∨ j = 13 by omega) with rfl | rfl | rfl | rfl | rfl | rfl | rfl | rfl | rfl | rfl | rfl | rfl | rfl | rfl <;> rfl) (Nat.le_of_ble_eq_true rfl) (Nat.le_of_ble_eq_true rfl) dX2_addBooking_16 (fun q4 H hI => ?_)
    refine lv_dup hx hb dX2_addBooking_19 rfl ?_
    refine lv_aload_n hx hb dX2_addBooking_20 rfl (lv_at hl 0 rfl) ?_
    refine gw_get (T := TX2) (k := 7) (v := .int (S 3 7)) B hI (gw_app gc_g3) rfl ly_X2_addBooking_2 (by decide) m_X2_addBooking_49 rfl rfl dX2_addBooking_21 ?_
    refine lv_iload_n hx hb dX2_addBooking_24 rfl (lv_at hl 1 rfl) ?_
    refine lv_iload_n hx hb dX2_addBooking_25 rfl (lv_at hl 2 rfl) ?_
    refine lv_iload_n hx hb dX2_addBooking_26 rfl (lv_at hl 3 rfl) ?_
    refine lv_iload hx hb dX2_addBooking_27 (lv_at hl 4 rfl) ?_
    refine lv_iload hx hb dX2_addBooking_29 (lv_at hl 5 rfl) ?_
    refine lv_iload hx hb dX2_addBooking_31 (lv_at hl 6 rfl) ?_
    refine gw_callI (As := [.int (S 3 7), .int x1, .int x2, .int x3, .int x4, .int x5, .int x6]) (n := 7) (wc := [(q4, .inr (0, [.int 0, .int 0, .int 0, .int 0, .int 0, .int 0, .int 0, .int 0, .null, .int 0, .int 0, .int 0, .int 0, .int 0]))]) B hI (k_X0_init q4 (S 3 7) x1 x2 x3 x4 x5 x6) ggX2_addBooking_X0_init rfl rfl rfl (by decide +kernel) (by decide +kernel) (by decide +kernel) rfl nds_X0_init ⟨Nat.le_of_ble_eq_true rfl, Nat.le_of_ble_eq_true rfl⟩ rfl hl.1 (by simp [gw_catq, gw_cI, gw_cR, gw_cL]) dX2_addBooking_33 ⟨Nat.le_of_ble_eq_true rfl, Nat.le_of_ble_eq_true rfl⟩ rfl (fun w' H locs hw hI => ?_)
    subst hw
    obtain ⟨g5, h⟩ := gw_gdE h
    obtain ⟨S6, e7, h⟩ := gw_letE h
    obtain ⟨d8, e9, hI⟩ := gw_cvB e7 g5 hI
    rw [e9]
    obtain ⟨g10, h⟩ := gw_gdE h
    rw [gw_rfP g10]
    obtain ⟨g11, h⟩ := gw_gdE h
    obtain ⟨g12, h⟩ := gw_gdE h
    obtain ⟨S13, e14, h⟩ := gw_letE h
    refine gw_aast (t0 := 4) (r := (RX0, TX0, 14)) (w' := gw_cw cc a b d8 S13) B hI gc_g13 rfl (gc_gb g11) rfl g12 (gc_sr13 g10 e14) dX2_addBooking_36 (fun H locs hI => ?_)
    refine lv_aload_n hx hb dX2_addBooking_37 rfl (lv_at hl 0 rfl) ?_
    refine lv_dup hx hb dX2_addBooking_38 rfl ?_
    refine gw_get (T := TX2) (k := 7) (v := .int (S13 3 7)) B hI gc_g3 rfl ly_X2_addBooking_2 (by decide) m_X2_addBooking_49 rfl rfl dX2_addBooking_39 ?_
    refine lv_iconst (v := 1) hx hb dX2_addBooking_42 (by decide) ?_
    refine lv_iadd hx hb dX2_addBooking_43 ?_
    obtain ⟨S15, e16, h⟩ := gw_letE h
    refine gw_put (T := TX2) (k := 7) (w' := gw_cw cc a b d8 S15) B hI gc_g3 rfl ly_X2_addBooking_2 tyX2 tyX2_ok nmX2 (by decide) m_X2_addBooking_49 rfl rfl rfl rfl (Nat.le_of_ble_eq_true rfl) (gc_s3_7 e16) dX2_addBooking_44 (fun H locs hI => ?_)
    rw [Option.some.inj h] at hI
    exact gw_vret (W' := (fun w => ∃ b1 d1, w = gw_cw cc a b1 d1 zS)) B hI ⟨b, d8, rfl⟩ (Nat.le_of_ble_eq_true rfl) (Nat.le_of_ble_eq_true rfl) dX2_addBooking_47
theorem m_X8_addPiece_19 : Cond.fieldLink RX8 19 "GownLet" "house" "LGownLet$House;" ∈ wsX8_addPiece := by decide +kernel
theorem ly_X8_addPiece_2 : ∀ w ∈ wsX20, w ∈ wsX8_addPiece := fun w h => List.mem_cons_of_mem _ (List.mem_append_left _ (List.mem_append_right _ h))
theorem ly_X8_addPiece_4 : ∀ w ∈ wsX40, w ∈ wsX8_addPiece := fun w h => List.mem_cons_of_mem _ (List.mem_append_right _ h)
theorem ly_X8_addPiece_8 : ∀ w ∈ wsX80, w ∈ wsX8_addPiece := fun w h => List.mem_cons_of_mem _ (List.mem_append_left _ (List.mem_append_left _ (List.mem_append_right _ h)))
set_option maxRecDepth 100000 in
set_option maxHeartbeats 4000000 in
theorem k_X8_addPiece (x1 : Int32) (x2 : Int32) (x3 : Int32) (x4 : Int32) (x5 : Int32) (x6 : Int32) (x7 : Int32) (S : gw_S) {zr : Int32} {zS : gw_S} (h : f_X8_addPiece x1 x2 x3 x4 x5 x6 x7 S = some (zr, zS)) : gw_M l yX8_addPiece wsX8_addPiece rm_X8_addPiece 1 12 D (gw_ty cc) t1 t2 [.ref (a 0), .int x1, .int x2, .int x3, .int x4, .int x5, .int x6, .int x7] (gw_cw cc a b d S) (fun w => ∃ b1 d1, w = gw_cw cc a b1 d1 zS) (some (.int zr)) := by
  refine gw_enter (cc := cX8_addPiece) (maxL := 8) (ret := (some .int)) (own := RX8) rfl (by decide) rfl (Nat.le_of_ble_eq_true rfl) ?_
  intro p e s m below meth c A B hin hI ls hl
  have hl : lv_has ls 8 [(0, .ref (a 0)), (1, .int x1), (2, .int x2), (3, .int x3), (4, .int x4), (5, .int x5), (6, .int x6), (7, .int x7)] := hl
  generalize ([.ref (a 0), .int x1, .int x2, .int x3, .int x4, .int x5, .int x6, .int x7] : List Value).toArray = args at B ⊢
  have hx := B.1.1
  have hb := B.1.2.1
  have hown : s.vm.findClass RX8 = some m.cls := B.1.2.2.2.1
  have hts := B.1.2.2.2.2
  unfold f_X8_addPiece at h
  refine lv_iload_n hx hb dX8_addPiece_0 rfl (lv_at hl 2 rfl) ?_
  obtain ⟨r1, e2, h⟩ := gw_bdE h
  refine gw_callS (As := [.int x2]) (n := 1) B hI (k_X8_isMaker x2 S e2) gX8_addPiece_X8_isMaker rfl rfl rfl nds_X8_isMaker ⟨Nat.le_of_ble_eq_true rfl, Nat.le_of_ble_eq_true rfl⟩ rfl hl.1 (Nat.zero_le _) dX8_addPiece_1 ⟨Nat.le_of_ble_eq_true rfl, Nat.le_of_ble_eq_true rfl⟩ rfl (fun w' H locs hw hI => ?_)
  subst hw
  refine lv_if_eq (tgt := 56) hx hb dX8_addPiece_4 (by decide) (fun c3 => ?_) (fun c3 => ?_)
  · replace h := gw_ifT c3 h
    refine lv_iconst (v := -1) hx hb dX8_addPiece_56 (by decide) ?_
    obtain ⟨h1, h2⟩ := Prod.mk.inj (Option.some.inj h)
    rw [h2] at hI
    rw [← h1]
    exact gw_iret (W' := (fun w => ∃ b1 d1, w = gw_cw cc a b1 d1 zS)) B hI ⟨b, d, rfl⟩ (Nat.le_of_ble_eq_true rfl) (Nat.le_of_ble_eq_true rfl) dX8_addPiece_57
  · replace h := gw_ifF c3 h
    refine lv_iload_n hx hb dX8_addPiece_7 rfl (lv_at hl 3 rfl) ?_
    obtain ⟨r4, e5, h⟩ := gw_bdE h
    refine gw_callS (As := [.int x3]) (n := 1) B hI (k_X8_isLabel x3 S e5) gX8_addPiece_X8_isLabel rfl rfl rfl nds_X8_isLabel ⟨Nat.le_of_ble_eq_true rfl, Nat.le_of_ble_eq_true rfl⟩ rfl hl.1 (Nat.zero_le _) dX8_addPiece_8 ⟨Nat.le_of_ble_eq_true rfl, Nat.le_of_ble_eq_true rfl⟩ rfl (fun w' H locs hw hI => ?_)
    subst hw
    refine lv_if_eq (tgt := 56) hx hb dX8_addPiece_11 (by decide) (fun c6 => ?_) (fun c6 => ?_)
    · replace h := gw_ifT c6 h
      refine lv_iconst (v := -1) hx hb dX8_addPiece_56 (by decide) ?_
      obtain ⟨h1, h2⟩ := Prod.mk.inj (Option.some.inj h)
      rw [h2] at hI
      rw [← h1]
      exact gw_iret (W' := (fun w => ∃ b1 d1, w = gw_cw cc a b1 d1 zS)) B hI ⟨b, d, rfl⟩ (Nat.le_of_ble_eq_true rfl) (Nat.le_of_ble_eq_true rfl) dX8_addPiece_57
    · replace h := gw_ifF c6 h
      refine lv_iload hx hb dX8_addPiece_14 (lv_at hl 4 rfl) ?_
      refine lv_iconst (v := 0) hx hb dX8_addPiece_16 (by decide) ?_
      refine lv_bipush (v := 9) hx hb dX8_addPiece_17 (by decide) ?_
      obtain ⟨r7, e8, h⟩ := gw_bdE h
      refine gw_callS (As := [.int x4, .int (0 : Int32), .int (9 : Int32)]) (n := 3) B hI (k_X8_isIn x4 (0 : Int32) (9 : Int32) S e8) gX8_addPiece_X8_isIn rfl rfl rfl nds_X8_isIn ⟨Nat.le_of_ble_eq_true rfl, Nat.le_of_ble_eq_true rfl⟩ rfl hl.1 (Nat.zero_le _) dX8_addPiece_19 ⟨Nat.le_of_ble_eq_true rfl, Nat.le_of_ble_eq_true rfl⟩ rfl (fun w' H locs hw hI => ?_)
      subst hw
      refine lv_if_eq (tgt := 56) hx hb dX8_addPiece_22 (by decide) (fun c9 => ?_) (fun c9 => ?_)
      · replace h := gw_ifT c9 h
        refine lv_iconst (v := -1) hx hb dX8_addPiece_56 (by decide) ?_
        obtain ⟨h1, h2⟩ := Prod.mk.inj (Option.some.inj h)
        rw [h2] at hI
        rw [← h1]
        exact gw_iret (W' := (fun w => ∃ b1 d1, w = gw_cw cc a b1 d1 zS)) B hI ⟨b, d, rfl⟩ (Nat.le_of_ble_eq_true rfl) (Nat.le_of_ble_eq_true rfl) dX8_addPiece_57
      · replace h := gw_ifF c9 h
        refine lv_iload hx hb dX8_addPiece_25 (lv_at hl 5 rfl) ?_
        obtain ⟨r10, e11, h⟩ := gw_bdE h
        refine gw_callS (As := [.int x5]) (n := 1) B hI (k_X8_isTown x5 S e11) gX8_addPiece_X8_isTown rfl rfl rfl nds_X8_isTown ⟨Nat.le_of_ble_eq_true rfl, Nat.le_of_ble_eq_true rfl⟩ rfl hl.1 (Nat.zero_le _) dX8_addPiece_27 ⟨Nat.le_of_ble_eq_true rfl, Nat.le_of_ble_eq_true rfl⟩ rfl (fun w' H locs hw hI => ?_)
        subst hw
        refine lv_if_eq (tgt := 56) hx hb dX8_addPiece_30 (by decide) (fun c12 => ?_) (fun c12 => ?_)
        · replace h := gw_ifT c12 h
          refine lv_iconst (v := -1) hx hb dX8_addPiece_56 (by decide) ?_
          obtain ⟨h1, h2⟩ := Prod.mk.inj (Option.some.inj h)
          rw [h2] at hI
          rw [← h1]
          exact gw_iret (W' := (fun w => ∃ b1 d1, w = gw_cw cc a b1 d1 zS)) B hI ⟨b, d, rfl⟩ (Nat.le_of_ble_eq_true rfl) (Nat.le_of_ble_eq_true rfl) dX8_addPiece_57
        · replace h := gw_ifF c12 h
          refine lv_iload hx hb dX8_addPiece_33 (lv_at hl 6 rfl) ?_
          refine lv_iconst (v := 1) hx hb dX8_addPiece_35 (by decide) ?_
          refine lv_sipush (v := 9999) hx hb dX8_addPiece_36 (by decide) ?_
          obtain ⟨r13, e14, h⟩ := gw_bdE h
          refine gw_callS (As := [.int x6, .int (1 : Int32), .int (9999 : Int32)]) (n := 3) B hI (k_X8_isIn x6 (1 : Int32) (9999 : Int32) S e14) gX8_addPiece_X8_isIn rfl rfl rfl nds_X8_isIn ⟨Nat.le_of_ble_eq_true rfl, Nat.le_of_ble_eq_true rfl⟩ rfl hl.1 (Nat.zero_le _) dX8_addPiece_39 ⟨Nat.le_of_ble_eq_true rfl, Nat.le_of_ble_eq_true rfl⟩ rfl (fun w' H locs hw hI => ?_)
          subst hw
          refine lv_if_eq (tgt := 56) hx hb dX8_addPiece_42 (by decide) (fun c15 => ?_) (fun c15 => ?_)
          · replace h := gw_ifT c15 h
            refine lv_iconst (v := -1) hx hb dX8_addPiece_56 (by decide) ?_
            obtain ⟨h1, h2⟩ := Prod.mk.inj (Option.some.inj h)
            rw [h2] at hI
            rw [← h1]
            exact gw_iret (W' := (fun w => ∃ b1 d1, w = gw_cw cc a b1 d1 zS)) B hI ⟨b, d, rfl⟩ (Nat.le_of_ble_eq_true rfl) (Nat.le_of_ble_eq_true rfl) dX8_addPiece_57
          · replace h := gw_ifF c15 h
            refine lv_iload hx hb dX8_addPiece_45 (lv_at hl 7 rfl) ?_
            refine lv_iconst (v := 1) hx hb dX8_addPiece_47 (by decide) ?_
            refine lv_bipush (v := 99) hx hb dX8_addPiece_48 (by decide) ?_
            obtain ⟨r16, e17, h⟩ := gw_bdE h
            refine gw_callS (As := [.int x7, .int (1 : Int32), .int (99 : Int32)]) (n := 3) B hI (k_X8_isIn x7 (1 : Int32) (99 : Int32) S e17) gX8_addPiece_X8_isIn rfl rfl rfl nds_X8_isIn ⟨Nat.le_of_ble_eq_true rfl, Nat.le_of_ble_eq_true rfl⟩ rfl hl.1 (Nat.zero_le _) dX8_addPiece_50 ⟨Nat.le_of_ble_eq_true rfl, Nat.le_of_ble_eq_true rfl⟩ rfl (fun w' H locs hw hI => ?_)
            subst hw
            refine lv_if_ne (tgt := 58) hx hb dX8_addPiece_53 (by decide) (fun c18 => ?_) (fun c18 => ?_)
            · replace h := gw_ifF c18 h
              refine lv_aload_n hx hb dX8_addPiece_58 rfl (lv_at hl 0 rfl) ?_
              refine gw_get (T := TX8) (k := 1) (v := .ref (a 3)) B hI gc_g0 rfl ly_X8_addPiece_8 (by decide) m_X8_addPiece_19 rfl rfl dX8_addPiece_59 ?_
              refine gw_getN (T := TX2) (k := 6) (v := .int (S 3 6)) B hI gc_g3 rfl ly_X8_addPiece_2 (by decide) n_RX8_282 rfl rfl dX8_addPiece_62 ?_
              refine lv_bipush (v := 24) hx hb dX8_addPiece_65 (by decide) ?_
              refine lv_icmp_lt (tgt := 73) hx hb dX8_addPiece_67 (by decide) (fun c19 => ?_) (fun c19 => ?_)
              · replace h := gw_ifT c19 h
                refine lv_aload_n hx hb dX8_addPiece_73 rfl (lv_at hl 0 rfl) ?_
                refine gw_get (T := TX8) (k := 1) (v := .ref (a 3)) B hI gc_g0 rfl ly_X8_addPiece_8 (by decide) m_X8_addPiece_19 rfl rfl dX8_addPiece_74 ?_
                refine gw_new (ci := 4) (N := 12) (T := TX4) (fs := [.int 0, .int 0, .int 0, .int 0, .int 0, .int 0, .int 0, .int 0, .int 0, .int 0, .int 0, .int 0]) B hI rfl ly_X8_addPiece_4 tyX4 tyX4_ok (by decide +kernel) (by decide +kernel) (by decide +kernel) (fun j hj => by rcases (show j = 0 ∨ j = 1 ∨ j = 2 ∨ j = 3 ∨ j = 4 ∨ j = 5 ∨ j = 6 ∨ j = 7 ∨ j = 8 ∨ j = 9 ∨ j = 10 ∨ j = 11 by omega) with rfl | rfl | rfl | rfl | rfl | rfl | rfl | rfl | rfl | rfl | rfl | rfl <;> rfl) (Nat.le_of_ble_eq_true rfl) (Nat.le_of_ble_eq_true rfl) dX8_addPiece_77 (fun q20 H hI => ?_)
                refine lv_dup hx hb dX8_addPiece_80 rfl ?_
                refine lv_iload_n hx hb dX8_addPiece_81 rfl (lv_at hl 1 rfl) ?_
                refine lv_iload_n hx hb dX8_addPiece_82 rfl (lv_at hl 2 rfl) ?_
                refine lv_iload_n hx hb dX8_addPiece_83 rfl (lv_at hl 3 rfl) ?_
                refine lv_iload hx hb dX8_addPiece_84 (lv_at hl 4 rfl) ?_
                refine lv_iload hx hb dX8_addPiece_86 (lv_at hl 5 rfl) ?_
                refine lv_iload hx hb dX8_addPiece_88 (lv_at hl 6 rfl) ?_
                refine lv_iload hx hb dX8_addPiece_90 (lv_at hl 7 rfl) ?_
                refine gw_callI (As := [.int x1, .int x2, .int x3, .int x4, .int x5, .int x6, .int x7]) (n := 7) (wc := [(q20, .inr (4, [.int 0, .int 0, .int 0, .int 0, .int 0, .int 0, .int 0, .int 0, .int 0, .int 0, .int 0, .int 0]))]) B hI (k_X4_init q20 x1 x2 x3 x4 x5 x6 x7) ggX8_addPiece_X4_init rfl rfl rfl (by decide +kernel) (by decide +kernel) (by decide +kernel) rfl nds_X4_init ⟨Nat.le_of_ble_eq_true rfl, Nat.le_of_ble_eq_true rfl⟩ rfl hl.1 (by simp [gw_catq, gw_cI, gw_cR, gw_cL]) dX8_addPiece_92 ⟨Nat.le_of_ble_eq_true rfl, Nat.le_of_ble_eq_true rfl⟩ rfl (fun w' H locs hw hI => ?_)
                subst hw
                obtain ⟨g21, h⟩ := gw_gdE h
                obtain ⟨S22, e23, h⟩ := gw_letE h
                obtain ⟨b24, e25, hI⟩ := gw_cvP e23 g21 hI
                rw [e25]
                obtain ⟨r26, S27, e28, h⟩ := gw_b2E h
                refine gw_callV (As := [va_rf (gw_rf b24 (S 29 0))]) (n := 1) B hI (k_X2_keep (S 29 0) S22 e28) gX8_addPiece_X2_keep rfl rfl rfl nd_X2_keep ⟨Nat.le_of_ble_eq_true rfl, Nat.le_of_ble_eq_true rfl⟩ gc_g3 rfl rfl rfl hl.1 (Nat.zero_le _) dX8_addPiece_95 ⟨Nat.le_of_ble_eq_true rfl, Nat.le_of_ble_eq_true rfl⟩ rfl (fun w' H locs hw hI => ?_)
                subst hw
                obtain ⟨h1, h2⟩ := Prod.mk.inj (Option.some.inj h)
                rw [h2] at hI
                rw [← h1]
                exact gw_iret (W' := (fun w => ∃ b1 d1, w = gw_cw cc a b1 d1 zS)) B hI ⟨b24, d, rfl⟩ (Nat.le_of_ble_eq_true rfl) (Nat.le_of_ble_eq_true rfl) dX8_addPiece_98
              · replace h := gw_ifF c19 h
                refine lv_bipush (v := -3) hx hb dX8_addPiece_70 (by decide) ?_
                obtain ⟨h1, h2⟩ := Prod.mk.inj (Option.some.inj h)
                rw [h2] at hI
                rw [← h1]
                exact gw_iret (W' := (fun w => ∃ b1 d1, w = gw_cw cc a b1 d1 zS)) B hI ⟨b, d, rfl⟩ (Nat.le_of_ble_eq_true rfl) (Nat.le_of_ble_eq_true rfl) dX8_addPiece_72
            · replace h := gw_ifT c18 h
              refine lv_iconst (v := -1) hx hb dX8_addPiece_56 (by decide) ?_
              obtain ⟨h1, h2⟩ := Prod.mk.inj (Option.some.inj h)
              rw [h2] at hI
              rw [← h1]
              exact gw_iret (W' := (fun w => ∃ b1 d1, w = gw_cw cc a b1 d1 zS)) B hI ⟨b, d, rfl⟩ (Nat.le_of_ble_eq_true rfl) (Nat.le_of_ble_eq_true rfl) dX8_addPiece_57
set_option maxRecDepth 100000 in
set_option maxHeartbeats 4000000 in
theorem k_X8_gown (x1 : Int32) (x2 : Int32) (x3 : Int32) (x4 : Int32) (x5 : Int32) (x6 : Int32) (S : gw_S) {zr : Int32} {zS : gw_S} (h : f_X8_gown x1 x2 x3 x4 x5 x6 S = some (zr, zS)) : gw_M l yX8_gown wsX8_gown rm_X8_gown 1 12 D (gw_ty cc) t1 t2 [.ref (a 0), .int x1, .int x2, .int x3, .int x4, .int x5, .int x6] (gw_cw cc a b d S) (fun w => ∃ b1 d1, w = gw_cw cc a b1 d1 zS) (some (.int zr)) := by
  refine gw_enter (cc := cX8_gown) (maxL := 7) (ret := (some .int)) (own := RX8) rfl (by decide) rfl (Nat.le_of_ble_eq_true rfl) ?_
  intro p e s m below meth c A B hin hI ls hl
  have hl : lv_has ls 7 [(0, .ref (a 0)), (1, .int x1), (2, .int x2), (3, .int x3), (4, .int x4), (5, .int x5), (6, .int x6)] := hl
  generalize ([.ref (a 0), .int x1, .int x2, .int x3, .int x4, .int x5, .int x6] : List Value).toArray = args at B ⊢
  have hx := B.1.1
  have hb := B.1.2.1
  have hown : s.vm.findClass RX8 = some m.cls := B.1.2.2.2.1
  have hts := B.1.2.2.2.2
  unfold f_X8_gown at h
  refine lv_aload_n hx hb dX8_gown_0 rfl (lv_at hl 0 rfl) ?_
  refine lv_iconst (v := 0) hx hb dX8_gown_1 (by decide) ?_
  refine lv_iload_n hx hb dX8_gown_2 rfl (lv_at hl 1 rfl) ?_
  refine lv_iload_n hx hb dX8_gown_3 rfl (lv_at hl 2 rfl) ?_
  refine lv_iload_n hx hb dX8_gown_4 rfl (lv_at hl 3 rfl) ?_
  refine lv_iload hx hb dX8_gown_5 (lv_at hl 4 rfl) ?_
  refine lv_iload hx hb dX8_gown_7 (lv_at hl 5 rfl) ?_
  refine lv_iload hx hb dX8_gown_9 (lv_at hl 6 rfl) ?_
  obtain ⟨r1, S2, e3, h⟩ := gw_b2E h
  refine gw_callV (As := [.int (0 : Int32), .int x1, .int x2, .int x3, .int x4, .int x5, .int x6]) (n := 7) B hI (k_X8_addPiece (0 : Int32) x1 x2 x3 x4 x5 x6 S e3) gX8_gown_X8_addPiece rfl rfl rfl nd_X8_addPiece ⟨Nat.le_of_ble_eq_true rfl, Nat.le_of_ble_eq_true rfl⟩ gc_g0 rfl rfl rfl hl.1 (Nat.zero_le _) dX8_gown_11 ⟨Nat.le_of_ble_eq_true rfl, Nat.le_of_ble_eq_true rfl⟩ rfl (fun w' H locs hw hI => ?_)
  obtain ⟨b4, d5, rfl⟩ := hw
  obtain ⟨h1, h2⟩ := Prod.mk.inj (Option.some.inj h)
  rw [h2] at hI
  rw [← h1]
  exact gw_iret (W' := (fun w => ∃ b1 d1, w = gw_cw cc a b1 d1 zS)) B hI ⟨b4, d5, rfl⟩ (Nat.le_of_ble_eq_true rfl) (Nat.le_of_ble_eq_true rfl) dX8_gown_14
set_option maxRecDepth 100000 in
set_option maxHeartbeats 4000000 in
theorem k_X8_longGown (x1 : Int32) (x2 : Int32) (x3 : Int32) (x4 : Int32) (x5 : Int32) (x6 : Int32) (S : gw_S) {zr : Int32} {zS : gw_S} (h : f_X8_longGown x1 x2 x3 x4 x5 x6 S = some (zr, zS)) : gw_M l yX8_longGown wsX8_longGown rm_X8_longGown 1 12 D (gw_ty cc) t1 t2 [.ref (a 0), .int x1, .int x2, .int x3, .int x4, .int x5, .int x6] (gw_cw cc a b d S) (fun w => ∃ b1 d1, w = gw_cw cc a b1 d1 zS) (some (.int zr)) := by
  refine gw_enter (cc := cX8_longGown) (maxL := 7) (ret := (some .int)) (own := RX8) rfl (by decide) rfl (Nat.le_of_ble_eq_true rfl) ?_
  intro p e s m below meth c A B hin hI ls hl
  have hl : lv_has ls 7 [(0, .ref (a 0)), (1, .int x1), (2, .int x2), (3, .int x3), (4, .int x4), (5, .int x5), (6, .int x6)] := hl
  generalize ([.ref (a 0), .int x1, .int x2, .int x3, .int x4, .int x5, .int x6] : List Value).toArray = args at B ⊢
  have hx := B.1.1
  have hb := B.1.2.1
  have hown : s.vm.findClass RX8 = some m.cls := B.1.2.2.2.1
  have hts := B.1.2.2.2.2
  unfold f_X8_longGown at h
  refine lv_aload_n hx hb dX8_longGown_0 rfl (lv_at hl 0 rfl) ?_
  refine lv_iconst (v := 1) hx hb dX8_longGown_1 (by decide) ?_
  refine lv_iload_n hx hb dX8_longGown_2 rfl (lv_at hl 1 rfl) ?_
  refine lv_iload_n hx hb dX8_longGown_3 rfl (lv_at hl 2 rfl) ?_
  refine lv_iload_n hx hb dX8_longGown_4 rfl (lv_at hl 3 rfl) ?_
  refine lv_iload hx hb dX8_longGown_5 (lv_at hl 4 rfl) ?_
  refine lv_iload hx hb dX8_longGown_7 (lv_at hl 5 rfl) ?_
  refine lv_iload hx hb dX8_longGown_9 (lv_at hl 6 rfl) ?_
  obtain ⟨r1, S2, e3, h⟩ := gw_b2E h
  refine gw_callV (As := [.int (1 : Int32), .int x1, .int x2, .int x3, .int x4, .int x5, .int x6]) (n := 7) B hI (k_X8_addPiece (1 : Int32) x1 x2 x3 x4 x5 x6 S e3) gX8_longGown_X8_addPiece rfl rfl rfl nd_X8_addPiece ⟨Nat.le_of_ble_eq_true rfl, Nat.le_of_ble_eq_true rfl⟩ gc_g0 rfl rfl rfl hl.1 (Nat.zero_le _) dX8_longGown_11 ⟨Nat.le_of_ble_eq_true rfl, Nat.le_of_ble_eq_true rfl⟩ rfl (fun w' H locs hw hI => ?_)
  obtain ⟨b4, d5, rfl⟩ := hw
  obtain ⟨h1, h2⟩ := Prod.mk.inj (Option.some.inj h)
  rw [h2] at hI
  rw [← h1]
  exact gw_iret (W' := (fun w => ∃ b1 d1, w = gw_cw cc a b1 d1 zS)) B hI ⟨b4, d5, rfl⟩ (Nat.le_of_ble_eq_true rfl) (Nat.le_of_ble_eq_true rfl) dX8_longGown_14
set_option maxRecDepth 100000 in
set_option maxHeartbeats 4000000 in
theorem k_X8_suit (x1 : Int32) (x2 : Int32) (x3 : Int32) (x4 : Int32) (x5 : Int32) (x6 : Int32) (S : gw_S) {zr : Int32} {zS : gw_S} (h : f_X8_suit x1 x2 x3 x4 x5 x6 S = some (zr, zS)) : gw_M l yX8_suit wsX8_suit rm_X8_suit 1 12 D (gw_ty cc) t1 t2 [.ref (a 0), .int x1, .int x2, .int x3, .int x4, .int x5, .int x6] (gw_cw cc a b d S) (fun w => ∃ b1 d1, w = gw_cw cc a b1 d1 zS) (some (.int zr)) := by
  refine gw_enter (cc := cX8_suit) (maxL := 7) (ret := (some .int)) (own := RX8) rfl (by decide) rfl (Nat.le_of_ble_eq_true rfl) ?_
  intro p e s m below meth c A B hin hI ls hl
  have hl : lv_has ls 7 [(0, .ref (a 0)), (1, .int x1), (2, .int x2), (3, .int x3), (4, .int x4), (5, .int x5), (6, .int x6)] := hl
  generalize ([.ref (a 0), .int x1, .int x2, .int x3, .int x4, .int x5, .int x6] : List Value).toArray = args at B ⊢
  have hx := B.1.1
  have hb := B.1.2.1
  have hown : s.vm.findClass RX8 = some m.cls := B.1.2.2.2.1
  have hts := B.1.2.2.2.2
  unfold f_X8_suit at h
  refine lv_aload_n hx hb dX8_suit_0 rfl (lv_at hl 0 rfl) ?_
  refine lv_iconst (v := 2) hx hb dX8_suit_1 (by decide) ?_
  refine lv_iload_n hx hb dX8_suit_2 rfl (lv_at hl 1 rfl) ?_
  refine lv_iload_n hx hb dX8_suit_3 rfl (lv_at hl 2 rfl) ?_
  refine lv_iload_n hx hb dX8_suit_4 rfl (lv_at hl 3 rfl) ?_
  refine lv_iload hx hb dX8_suit_5 (lv_at hl 4 rfl) ?_
  refine lv_iload hx hb dX8_suit_7 (lv_at hl 5 rfl) ?_
  refine lv_iload hx hb dX8_suit_9 (lv_at hl 6 rfl) ?_
  obtain ⟨r1, S2, e3, h⟩ := gw_b2E h
  refine gw_callV (As := [.int (2 : Int32), .int x1, .int x2, .int x3, .int x4, .int x5, .int x6]) (n := 7) B hI (k_X8_addPiece (2 : Int32) x1 x2 x3 x4 x5 x6 S e3) gX8_suit_X8_addPiece rfl rfl rfl nd_X8_addPiece ⟨Nat.le_of_ble_eq_true rfl, Nat.le_of_ble_eq_true rfl⟩ gc_g0 rfl rfl rfl hl.1 (Nat.zero_le _) dX8_suit_11 ⟨Nat.le_of_ble_eq_true rfl, Nat.le_of_ble_eq_true rfl⟩ rfl (fun w' H locs hw hI => ?_)
  obtain ⟨b4, d5, rfl⟩ := hw
  obtain ⟨h1, h2⟩ := Prod.mk.inj (Option.some.inj h)
  rw [h2] at hI
  rw [← h1]
  exact gw_iret (W' := (fun w => ∃ b1 d1, w = gw_cw cc a b1 d1 zS)) B hI ⟨b4, d5, rfl⟩ (Nat.le_of_ble_eq_true rfl) (Nat.le_of_ble_eq_true rfl) dX8_suit_14
theorem m_X8_book_19 : Cond.fieldLink RX8 19 "GownLet" "house" "LGownLet$House;" ∈ wsX8_book := by decide +kernel
theorem ly_X8_book_2 : ∀ w ∈ wsX20, w ∈ wsX8_book := fun w h => List.mem_cons_of_mem _ (List.mem_append_left _ (List.mem_append_right _ h))
theorem ly_X8_book_8 : ∀ w ∈ wsX80, w ∈ wsX8_book := fun w h => List.mem_cons_of_mem _ (List.mem_append_left _ (List.mem_append_left _ (List.mem_append_right _ h)))
set_option maxRecDepth 100000 in
set_option maxHeartbeats 4000000 in
theorem k_X8_book (x1 : Int32) (x2 : Int32) (x3 : Int32) (x4 : Int32) (x5 : Int32) (x6 : Int32) (S : gw_S) {zr : Int32} {zS : gw_S} (h : f_X8_book x1 x2 x3 x4 x5 x6 S = some (zr, zS)) : gw_M l yX8_book wsX8_book rm_X8_book 1 14 D (gw_ty cc) t1 t2 [.ref (a 0), .int x1, .int x2, .int x3, .int x4, .int x5, .int x6] (gw_cw cc a b d S) (fun w => ∃ b1 d1, w = gw_cw cc a b1 d1 zS) (some (.int zr)) := by
  refine gw_enter (cc := cX8_book) (maxL := 7) (ret := (some .int)) (own := RX8) rfl (by decide) rfl (Nat.le_of_ble_eq_true rfl) ?_
  intro p e s m below meth c A B hin hI ls hl
  have hl : lv_has ls 7 [(0, .ref (a 0)), (1, .int x1), (2, .int x2), (3, .int x3), (4, .int x4), (5, .int x5), (6, .int x6)] := hl
  generalize ([.ref (a 0), .int x1, .int x2, .int x3, .int x4, .int x5, .int x6] : List Value).toArray = args at B ⊢
  have hx := B.1.1
  have hb := B.1.2.1
  have hown : s.vm.findClass RX8 = some m.cls := B.1.2.2.2.1
  have hts := B.1.2.2.2.2
  unfold f_X8_book at h
  refine lv_iload_n hx hb dX8_book_0 rfl (lv_at hl 1 rfl) ?_
  refine lv_iload_n hx hb dX8_book_1 rfl (lv_at hl 2 rfl) ?_
  refine lv_iload_n hx hb dX8_book_2 rfl (lv_at hl 3 rfl) ?_
  refine lv_iload hx hb dX8_book_3 (lv_at hl 4 rfl) ?_
  refine lv_iload hx hb dX8_book_5 (lv_at hl 5 rfl) ?_
  refine lv_iload hx hb dX8_book_7 (lv_at hl 6 rfl) ?_
  obtain ⟨r1, e2, h⟩ := gw_bdE h
  refine gw_callS (As := [.int x1, .int x2, .int x3, .int x4, .int x5, .int x6]) (n := 6) B hI (k_X8_isBookingAsTold x1 x2 x3 x4 x5 x6 S e2) gX8_book_X8_isBookingAsTold rfl rfl rfl nds_X8_isBookingAsTold ⟨Nat.le_of_ble_eq_true rfl, Nat.le_of_ble_eq_true rfl⟩ rfl hl.1 (Nat.zero_le _) dX8_book_9 ⟨Nat.le_of_ble_eq_true rfl, Nat.le_of_ble_eq_true rfl⟩ rfl (fun w' H locs hw hI => ?_)
  subst hw
  refine lv_if_ne (tgt := 17) hx hb dX8_book_12 (by decide) (fun c3 => ?_) (fun c3 => ?_)
  · replace h := gw_ifF c3 h
    refine lv_aload_n hx hb dX8_book_17 rfl (lv_at hl 0 rfl) ?_
    refine gw_get (T := TX8) (k := 1) (v := .ref (a 3)) B hI gc_g0 rfl ly_X8_book_8 (by decide) m_X8_book_19 rfl rfl dX8_book_18 ?_
    refine lv_iconst (v := 1) hx hb dX8_book_21 (by decide) ?_
    obtain ⟨r4, e5, h⟩ := gw_bdE h
    refine gw_callV (As := [.int (1 : Int32)]) (n := 1) B hI (k_X2_hasRoomForBookings (1 : Int32) S e5) gX8_book_X2_hasRoomForBookings rfl rfl rfl nd_X2_hasRoomForBookings ⟨Nat.le_of_ble_eq_true rfl, Nat.le_of_ble_eq_true rfl⟩ gc_g3 rfl rfl rfl hl.1 (Nat.zero_le _) dX8_book_22 ⟨Nat.le_of_ble_eq_true rfl, Nat.le_of_ble_eq_true rfl⟩ rfl (fun w' H locs hw hI => ?_)
    subst hw
    refine lv_if_ne (tgt := 31) hx hb dX8_book_25 (by decide) (fun c6 => ?_) (fun c6 => ?_)
    · replace h := gw_ifF c6 h
      refine lv_aload_n hx hb dX8_book_31 rfl (lv_at hl 0 rfl) ?_
      refine gw_get (T := TX8) (k := 1) (v := .ref (a 3)) B hI gc_g0 rfl ly_X8_book_8 (by decide) m_X8_book_19 rfl rfl dX8_book_32 ?_
      refine lv_iload_n hx hb dX8_book_35 rfl (lv_at hl 1 rfl) ?_
      refine lv_iload_n hx hb dX8_book_36 rfl (lv_at hl 2 rfl) ?_
      refine lv_iload_n hx hb dX8_book_37 rfl (lv_at hl 3 rfl) ?_
      refine lv_iload hx hb dX8_book_38 (lv_at hl 4 rfl) ?_
      refine lv_iload hx hb dX8_book_40 (lv_at hl 5 rfl) ?_
      refine lv_iload hx hb dX8_book_42 (lv_at hl 6 rfl) ?_
      obtain ⟨S7, e8, h⟩ := gw_bdE h
      refine gw_callVv (As := [.int x1, .int x2, .int x3, .int x4, .int x5, .int x6]) (n := 6) B hI (k_X2_addBooking x1 x2 x3 x4 x5 x6 S e8) gX8_book_X2_addBooking rfl rfl rfl nd_X2_addBooking ⟨Nat.le_of_ble_eq_true rfl, Nat.le_of_ble_eq_true rfl⟩ gc_g3 rfl rfl rfl hl.1 (Nat.zero_le _) dX8_book_44 ⟨Nat.le_of_ble_eq_true rfl, Nat.le_of_ble_eq_true rfl⟩ rfl (fun w' H locs hw hI => ?_)
      obtain ⟨b9, d10, rfl⟩ := hw
      refine lv_aload_n hx hb dX8_book_47 rfl (lv_at hl 0 rfl) ?_
      refine gw_get (T := TX8) (k := 1) (v := .ref (a 3)) B hI gc_g0 rfl ly_X8_book_8 (by decide) m_X8_book_19 rfl rfl dX8_book_48 ?_
      refine gw_getN (T := TX2) (k := 7) (v := .int (S7 3 7)) B hI gc_g3 rfl ly_X8_book_2 (by decide) n_RX8_153 rfl rfl dX8_book_51 ?_
      refine lv_iconst (v := 1) hx hb dX8_book_54 (by decide) ?_
      refine lv_isub hx hb dX8_book_55 ?_
      obtain ⟨h1, h2⟩ := Prod.mk.inj (Option.some.inj h)
      rw [h2] at hI
      rw [← h1]
      exact gw_iret (W' := (fun w => ∃ b1 d1, w = gw_cw cc a b1 d1 zS)) B hI ⟨b9, d10, rfl⟩ (Nat.le_of_ble_eq_true rfl) (Nat.le_of_ble_eq_true rfl) dX8_book_56
    · replace h := gw_ifT c6 h
      refine lv_bipush (v := -3) hx hb dX8_book_28 (by decide) ?_
      obtain ⟨h1, h2⟩ := Prod.mk.inj (Option.some.inj h)
      rw [h2] at hI
      rw [← h1]
      exact gw_iret (W' := (fun w => ∃ b1 d1, w = gw_cw cc a b1 d1 zS)) B hI ⟨b, d, rfl⟩ (Nat.le_of_ble_eq_true rfl) (Nat.le_of_ble_eq_true rfl) dX8_book_30
  · replace h := gw_ifT c3 h
    refine lv_iconst (v := -1) hx hb dX8_book_15 (by decide) ?_
    obtain ⟨h1, h2⟩ := Prod.mk.inj (Option.some.inj h)
    rw [h2] at hI
    rw [← h1]
    exact gw_iret (W' := (fun w => ∃ b1 d1, w = gw_cw cc a b1 d1 zS)) B hI ⟨b, d, rfl⟩ (Nat.le_of_ble_eq_true rfl) (Nat.le_of_ble_eq_true rfl) dX8_book_16
theorem m_X8_addBookingOnSheet_19 : Cond.fieldLink RX8 19 "GownLet" "house" "LGownLet$House;" ∈ wsX8_addBookingOnSheet := by decide +kernel
theorem ly_X8_addBookingOnSheet_8 : ∀ w ∈ wsX80, w ∈ wsX8_addBookingOnSheet := fun w h => List.mem_cons_of_mem _ (List.mem_append_left _ (List.mem_append_left _ (List.mem_append_left _ (List.mem_append_right _ h))))
set_option maxRecDepth 100000 in
set_option maxHeartbeats 4000000 in
theorem k_X8_addBookingOnSheet (x1 : Int32) (x2 : Int32) (S : gw_S)  {zS : gw_S} (h : f_X8_addBookingOnSheet x1 x2 S = some zS) : gw_M l yX8_addBookingOnSheet wsX8_addBookingOnSheet rm_X8_addBookingOnSheet 1 14 D (gw_ty cc) t1 t2 [.ref (a 0), .ref (a (21 + x1.toNatClampNeg)), .int x2] (gw_cw cc a b d S) (fun w => ∃ b1 d1, w = gw_cw cc a b1 d1 zS) none := by
  refine gw_enter (cc := cX8_addBookingOnSheet) (maxL := 3) (ret := none) (own := RX8) rfl (by decide) rfl (Nat.le_of_ble_eq_true rfl) ?_
  intro p e s m below meth c A B hin hI ls hl
  have hl : lv_has ls 3 [(0, .ref (a 0)), (1, .ref (a (21 + x1.toNatClampNeg))), (2, .int x2)] := hl
  generalize ([.ref (a 0), .ref (a (21 + x1.toNatClampNeg)), .int x2] : List Value).toArray = args at B ⊢
  have hx := B.1.1
  have hb := B.1.2.1
  have hown : s.vm.findClass RX8 = some m.cls := B.1.2.2.2.1
  have hts := B.1.2.2.2.2
  unfold f_X8_addBookingOnSheet at h
  refine lv_aload_n hx hb dX8_addBookingOnSheet_0 rfl (lv_at hl 0 rfl) ?_
  refine gw_get (T := TX8) (k := 1) (v := .ref (a 3)) B hI gc_g0 rfl ly_X8_addBookingOnSheet_8 (by decide) m_X8_addBookingOnSheet_19 rfl rfl dX8_addBookingOnSheet_1 ?_
  refine lv_aload_n hx hb dX8_addBookingOnSheet_4 rfl (lv_at hl 1 rfl) ?_
  refine lv_iload_n hx hb dX8_addBookingOnSheet_5 rfl (lv_at hl 2 rfl) ?_
  obtain ⟨g1, h⟩ := gw_gdE h
  obtain ⟨r2, e3, h⟩ := gw_bdE h
  refine gw_callV (As := [.int x2]) (n := 1) B hI (k_X5_get x1 x2 S e3) gX8_addBookingOnSheet_X5_get rfl rfl rfl nd_X5_get ⟨Nat.le_of_ble_eq_true rfl, Nat.le_of_ble_eq_true rfl⟩ (gc_gsh g1) rfl rfl rfl hl.1 (by simp [gw_catq, gw_cI, gw_cR, gw_cL]) dX8_addBookingOnSheet_6 ⟨Nat.le_of_ble_eq_true rfl, Nat.le_of_ble_eq_true rfl⟩ rfl (fun w' H locs hw hI => ?_)
  subst hw
  refine lv_aload_n hx hb dX8_addBookingOnSheet_9 rfl (lv_at hl 1 rfl) ?_
  refine lv_iload_n hx hb dX8_addBookingOnSheet_10 rfl (lv_at hl 2 rfl) ?_
  refine lv_iconst (v := 1) hx hb dX8_addBookingOnSheet_11 (by decide) ?_
  refine lv_iadd hx hb dX8_addBookingOnSheet_12 ?_
  obtain ⟨r4, e5, h⟩ := gw_bdE h
  refine gw_callV (As := [.int (x2 + (1 : Int32))]) (n := 1) B hI (k_X5_get x1 (x2 + (1 : Int32)) S e5) gX8_addBookingOnSheet_X5_get rfl rfl rfl nd_X5_get ⟨Nat.le_of_ble_eq_true rfl, Nat.le_of_ble_eq_true rfl⟩ (gc_gsh g1) rfl rfl rfl hl.1 (by simp [gw_catq, gw_cI, gw_cR, gw_cL]) dX8_addBookingOnSheet_13 ⟨Nat.le_of_ble_eq_true rfl, Nat.le_of_ble_eq_true rfl⟩ rfl (fun w' H locs hw hI => ?_)
  subst hw
  refine lv_aload_n hx hb dX8_addBookingOnSheet_16 rfl (lv_at hl 1 rfl) ?_
  refine lv_iload_n hx hb dX8_addBookingOnSheet_17 rfl (lv_at hl 2 rfl) ?_
  refine lv_iconst (v := 2) hx hb dX8_addBookingOnSheet_18 (by decide) ?_
  refine lv_iadd hx hb dX8_addBookingOnSheet_19 ?_
  obtain ⟨r6, e7, h⟩ := gw_bdE h
  refine gw_callV (As := [.int (x2 + (2 : Int32))]) (n := 1) B hI (k_X5_get x1 (x2 + (2 : Int32)) S e7) gX8_addBookingOnSheet_X5_get rfl rfl rfl nd_X5_get ⟨Nat.le_of_ble_eq_true rfl, Nat.le_of_ble_eq_true rfl⟩ (gc_gsh g1) rfl rfl rfl hl.1 (by simp [gw_catq, gw_cI, gw_cR, gw_cL]) dX8_addBookingOnSheet_20 ⟨Nat.le_of_ble_eq_true rfl, Nat.le_of_ble_eq_true rfl⟩ rfl (fun w' H locs hw hI => ?_)
  subst hw
  refine lv_aload_n hx hb dX8_addBookingOnSheet_23 rfl (lv_at hl 1 rfl) ?_
  refine lv_iload_n hx hb dX8_addBookingOnSheet_24 rfl (lv_at hl 2 rfl) ?_
  refine lv_iconst (v := 3) hx hb dX8_addBookingOnSheet_25 (by decide) ?_
  refine lv_iadd hx hb dX8_addBookingOnSheet_26 ?_
  obtain ⟨r8, e9, h⟩ := gw_bdE h
  refine gw_callV (As := [.int (x2 + (3 : Int32))]) (n := 1) B hI (k_X5_get x1 (x2 + (3 : Int32)) S e9) gX8_addBookingOnSheet_X5_get rfl rfl rfl nd_X5_get ⟨Nat.le_of_ble_eq_true rfl, Nat.le_of_ble_eq_true rfl⟩ (gc_gsh g1) rfl rfl rfl hl.1 (by simp [gw_catq, gw_cI, gw_cR, gw_cL]) dX8_addBookingOnSheet_27 ⟨Nat.le_of_ble_eq_true rfl, Nat.le_of_ble_eq_true rfl⟩ rfl (fun w' H locs hw hI => ?_)
  subst hw
  refine lv_aload_n hx hb dX8_addBookingOnSheet_30 rfl (lv_at hl 1 rfl) ?_
  refine lv_iload_n hx hb dX8_addBookingOnSheet_31 rfl (lv_at hl 2 rfl) ?_
  refine lv_iconst (v := 4) hx hb dX8_addBookingOnSheet_32 (by decide) ?_
  refine lv_iadd hx hb dX8_addBookingOnSheet_33 ?_
  obtain ⟨r10, e11, h⟩ := gw_bdE h
  refine gw_callV (As := [.int (x2 + (4 : Int32))]) (n := 1) B hI (k_X5_get x1 (x2 + (4 : Int32)) S e11) gX8_addBookingOnSheet_X5_get rfl rfl rfl nd_X5_get ⟨Nat.le_of_ble_eq_true rfl, Nat.le_of_ble_eq_true rfl⟩ (gc_gsh g1) rfl rfl rfl hl.1 (by simp [gw_catq, gw_cI, gw_cR, gw_cL]) dX8_addBookingOnSheet_34 ⟨Nat.le_of_ble_eq_true rfl, Nat.le_of_ble_eq_true rfl⟩ rfl (fun w' H locs hw hI => ?_)
  subst hw
  refine lv_aload_n hx hb dX8_addBookingOnSheet_37 rfl (lv_at hl 1 rfl) ?_
  refine lv_iload_n hx hb dX8_addBookingOnSheet_38 rfl (lv_at hl 2 rfl) ?_
  refine lv_iconst (v := 5) hx hb dX8_addBookingOnSheet_39 (by decide) ?_
  refine lv_iadd hx hb dX8_addBookingOnSheet_40 ?_
  obtain ⟨r12, e13, h⟩ := gw_bdE h
  refine gw_callV (As := [.int (x2 + (5 : Int32))]) (n := 1) B hI (k_X5_get x1 (x2 + (5 : Int32)) S e13) gX8_addBookingOnSheet_X5_get rfl rfl rfl nd_X5_get ⟨Nat.le_of_ble_eq_true rfl, Nat.le_of_ble_eq_true rfl⟩ (gc_gsh g1) rfl rfl rfl hl.1 (by simp [gw_catq, gw_cI, gw_cR, gw_cL]) dX8_addBookingOnSheet_41 ⟨Nat.le_of_ble_eq_true rfl, Nat.le_of_ble_eq_true rfl⟩ rfl (fun w' H locs hw hI => ?_)
  subst hw
  obtain ⟨S14, e15, h⟩ := gw_bdE h
  refine gw_callVv (As := [.int r2, .int r4, .int r6, .int r8, .int r10, .int r12]) (n := 6) B hI (k_X2_addBooking r2 r4 r6 r8 r10 r12 S e15) gX8_addBookingOnSheet_X2_addBooking rfl rfl rfl nd_X2_addBooking ⟨Nat.le_of_ble_eq_true rfl, Nat.le_of_ble_eq_true rfl⟩ gc_g3 rfl rfl rfl hl.1 (Nat.zero_le _) dX8_addBookingOnSheet_44 ⟨Nat.le_of_ble_eq_true rfl, Nat.le_of_ble_eq_true rfl⟩ rfl (fun w' H locs hw hI => ?_)
  obtain ⟨b16, d17, rfl⟩ := hw
  rw [Option.some.inj h] at hI
  exact gw_vret (W' := (fun w => ∃ b1 d1, w = gw_cw cc a b1 d1 zS)) B hI ⟨b16, d17, rfl⟩ (Nat.le_of_ble_eq_true rfl) (Nat.le_of_ble_eq_true rfl) dX8_addBookingOnSheet_47
theorem m_X8_books_19 : Cond.fieldLink RX8 19 "GownLet" "house" "LGownLet$House;" ∈ wsX8_books := by decide +kernel
theorem m_X8_books_35 : Cond.fieldLink RX8 35 "GownLet" "sheets" "[LGownLet$Sheet;" ∈ wsX8_books := by decide +kernel
theorem ly_X8_books_2 : ∀ w ∈ wsX20, w ∈ wsX8_books := fun w h => List.mem_cons_of_mem _ (List.mem_append_left _ (List.mem_append_left _ (List.mem_append_right _ h)))
theorem ly_X8_books_8 : ∀ w ∈ wsX80, w ∈ wsX8_books := fun w h => List.mem_cons_of_mem _ (List.mem_append_left _ (List.mem_append_left _ (List.mem_append_left _ (List.mem_append_right _ h))))
set_option maxRecDepth 100000 in
set_option maxHeartbeats 4000000 in
theorem k_X8_books (x1 : Int32) (x2 : Int32) (x3 : Int32) (x4 : Int32) (S : gw_S) {zr : Int32} {zS : gw_S} (h : f_X8_books x1 x2 x3 x4 S = some (zr, zS)) : gw_M l yX8_books wsX8_books rm_X8_books 7 98 D (gw_ty cc) t1 t2 [.ref (a 0), .int x1, .int x2, .int x3, .int x4] (gw_cw cc a b d S) (fun w => ∃ b1 d1, w = gw_cw cc a b1 d1 zS) (some (.int zr)) := by
  refine gw_enter (cc := cX8_books) (maxL := 8) (ret := (some .int)) (own := RX8) rfl (by decide) rfl (Nat.le_of_ble_eq_true rfl) ?_
  intro p e s m below meth c A B hin hI ls hl
  have hl : lv_has ls 8 [(0, .ref (a 0)), (1, .int x1), (2, .int x2), (3, .int x3), (4, .int x4)] := hl
  generalize ([.ref (a 0), .int x1, .int x2, .int x3, .int x4] : List Value).toArray = args at B ⊢
  have hx := B.1.1
  have hb := B.1.2.1
  have hown : s.vm.findClass RX8 = some m.cls := B.1.2.2.2.1
  have hts := B.1.2.2.2.2
  have hb120 :  ∀ (n : Nat) (b d : Nat → Nat) (cl sl : Nat), cl + n ≤ 7 → sl + 14 * n ≤ 98 → ∀ (v3 : Int32) (v4 : Int32) (v5 : Int32) (v7 : Int32) (S : gw_S), f_X8_books_b120  n v3 v4 v5 v7 S = some (zr, zS) → ∀ (H : Heap) (locs : List Loc) (ls : Array Slot), gw_I D A s.heap (gw_cw cc a b d S) H locs → lv_has ls 8 [(0, .ref (a 0)), (3, .int v3), (4, .int v4), (5, .ref (a (21 + v5.toNatClampNeg))), (7, .int v7)] → W p l e rm_X8_books s m args below meth c H locs cl sl (MQ below (gw_Q (some (.int zr)) (gw_Pst D A (fun w => ∃ b1 d1, w = gw_cw cc a b1 d1 zS)) A) args s 7 98 A) (F0 m 120 ls []) := by
    intro n
    induction n with
    | zero =>
      intro b d cl sl hc1 hc2 v3 v4 v5 v7 S h
      cases h
    | succ n ih =>
      intro b d cl sl hc1 hc2 v3 v4 v5 v7 S h H locs ls hI hl
      unfold f_X8_books_b120 at h
      refine lv_iload hx hb dX8_books_120 (lv_at hl 4 rfl) ?_
      refine lv_iload hx hb dX8_books_122 (lv_at hl 2 rfl) ?_
      refine lv_icmp_ge (tgt := 146) hx hb dX8_books_124 (by decide) (fun c1 => ?_) (fun c1 => ?_)
      · replace h := gw_ifT c1 h
        refine lv_aload_n hx hb dX8_books_146 rfl (lv_at hl 0 rfl) ?_
        refine gw_get (T := TX8) (k := 1) (v := .ref (a 3)) B hI gc_g0 rfl ly_X8_books_8 (by decide) m_X8_books_19 rfl rfl dX8_books_147 ?_
        refine gw_getN (T := TX2) (k := 7) (v := .int (S 3 7)) B hI gc_g3 rfl ly_X8_books_2 (by decide) n_RX8_153 rfl rfl dX8_books_150 ?_
        obtain ⟨h1, h2⟩ := Prod.mk.inj (Option.some.inj h)
        rw [h2] at hI
        rw [← h1]
        exact gw_iret (W' := (fun w => ∃ b1 d1, w = gw_cw cc a b1 d1 zS)) B hI ⟨b, d, rfl⟩ (by omega) (by omega) dX8_books_153
      · replace h := gw_ifF c1 h
        refine lv_aload_n hx hb dX8_books_127 rfl (lv_at hl 0 rfl) ?_
        refine lv_aload hx hb dX8_books_128 (lv_at hl 3 rfl) ?_
        refine lv_iload_n hx hb dX8_books_130 rfl (lv_at hl 1 rfl) ?_
        refine lv_iload hx hb dX8_books_131 (lv_at hl 4 rfl) ?_
        refine lv_bipush (v := 6) hx hb dX8_books_133 (by decide) ?_
        refine lv_imul hx hb dX8_books_135 ?_
        refine lv_iadd hx hb dX8_books_136 ?_
        obtain ⟨S2, e3, h⟩ := gw_bdE h
        refine gw_callVv (As := [.ref (a (21 + v5.toNatClampNeg)), .int (v3 + (v7 * (6 : Int32)))]) (n := 2) B hI (k_X8_addBookingOnSheet v5 (v3 + (v7 * (6 : Int32))) S e3) gX8_books_X8_addBookingOnSheet rfl rfl rfl nd_X8_addBookingOnSheet ⟨Nat.le_of_ble_eq_true rfl, Nat.le_of_ble_eq_true rfl⟩ gc_g0 rfl rfl rfl hl.1 (Nat.zero_le _) dX8_books_137 ⟨by show cl + 1 ≤ 7; omega, by show sl + 14 ≤ 98; omega⟩ rfl (fun w' H locs hw hI => ?_)
        obtain ⟨b4, d5, rfl⟩ := hw
        obtain ⟨y6, e7, h⟩ := gw_letE h
        refine lv_iinc (v := y6) (lv' := [(7, .int y6), (0, .ref (a 0)), (3, .int v3), (4, .int v4), (5, .ref (a (21 + v5.toNatClampNeg)))]) hx hb dX8_books_140 hl (k := 4) rfl (by rw [e7]; rfl) (by decide) rfl (fun ls hl => ?_)
        refine lv_goto (tgt := 120) hx hb dX8_books_143 (by decide) ?_
        exact ih b4 d5 (cl + 1) (sl + 14) (by omega) (by omega) v3 v4 v5 y6 S2 h _ _ _ hI (lv_sub hl [1, 2, 3, 4, 0] rfl)
  have hb71 :  ∀ (n : Nat), ∀ (v3 : Int32) (v4 : Int32) (v5 : Int32) (v7 : Int32) (S : gw_S), f_X8_books_b71  n v3 v4 v5 v7 S = some (zr, zS) → ∀ (H : Heap) (locs : List Loc) (ls : Array Slot), gw_I D A s.heap (gw_cw cc a b d S) H locs → lv_has ls 8 [(0, .ref (a 0)), (3, .int v3), (4, .int v4), (5, .ref (a (21 + v5.toNatClampNeg))), (7, .int v7)] → W p l e rm_X8_books s m args below meth c H locs 0 0 (MQ below (gw_Q (some (.int zr)) (gw_Pst D A (fun w => ∃ b1 d1, w = gw_cw cc a b1 d1 zS)) A) args s 7 98 A) (F0 m 71 ls []) := by
    intro n
    induction n with
    | zero =>
      intro v3 v4 v5 v7 S h
      cases h
    | succ n ih =>
      intro v3 v4 v5 v7 S h H locs ls hI hl
      unfold f_X8_books_b71 at h
      refine lv_iload hx hb dX8_books_71 (lv_at hl 4 rfl) ?_
      refine lv_iload hx hb dX8_books_73 (lv_at hl 2 rfl) ?_
      refine lv_icmp_ge (tgt := 102) hx hb dX8_books_75 (by decide) (fun c8 => ?_) (fun c8 => ?_)
      · replace h := gw_ifT c8 h
        refine lv_aload_n hx hb dX8_books_102 rfl (lv_at hl 0 rfl) ?_
        refine gw_get (T := TX8) (k := 1) (v := .ref (a 3)) B hI gc_g0 rfl ly_X8_books_8 (by decide) m_X8_books_19 rfl rfl dX8_books_103 ?_
        refine lv_iload hx hb dX8_books_106 (lv_at hl 2 rfl) ?_
        obtain ⟨r9, e10, h⟩ := gw_bdE h
        refine gw_callV (As := [.int v4]) (n := 1) B hI (k_X2_hasRoomForBookings v4 S e10) gX8_books_X2_hasRoomForBookings rfl rfl rfl nd_X2_hasRoomForBookings ⟨Nat.le_of_ble_eq_true rfl, Nat.le_of_ble_eq_true rfl⟩ gc_g3 rfl rfl rfl hl.1 (Nat.zero_le _) dX8_books_108 ⟨Nat.le_of_ble_eq_true rfl, Nat.le_of_ble_eq_true rfl⟩ rfl (fun w' H locs hw hI => ?_)
        subst hw
        refine lv_if_ne (tgt := 117) hx hb dX8_books_111 (by decide) (fun c11 => ?_) (fun c11 => ?_)
        · replace h := gw_ifF c11 h
          refine lv_iconst (v := 0) hx hb dX8_books_117 (by decide) ?_
          refine lv_istore (lv' := [(7, .int (0 : Int32)), (0, .ref (a 0)), (3, .int v3), (4, .int v4), (5, .ref (a (21 + v5.toNatClampNeg)))]) hx hb dX8_books_118 hl (by decide) rfl (fun ls hl => ?_)
          exact hb120  7 b d 0 0 (by decide) (by decide) v3 v4 v5 (0 : Int32) S h _ _ _ hI (lv_sub hl [1, 2, 3, 4, 0] rfl)
        · replace h := gw_ifT c11 h
          refine lv_bipush (v := -3) hx hb dX8_books_114 (by decide) ?_
          obtain ⟨h1, h2⟩ := Prod.mk.inj (Option.some.inj h)
          rw [h2] at hI
          rw [← h1]
          exact gw_iret (W' := (fun w => ∃ b1 d1, w = gw_cw cc a b1 d1 zS)) B hI ⟨b, d, rfl⟩ (Nat.le_of_ble_eq_true rfl) (Nat.le_of_ble_eq_true rfl) dX8_books_116
      · replace h := gw_ifF c8 h
        refine lv_aload hx hb dX8_books_78 (lv_at hl 3 rfl) ?_
        refine lv_iload_n hx hb dX8_books_80 rfl (lv_at hl 1 rfl) ?_
        refine lv_iload hx hb dX8_books_81 (lv_at hl 4 rfl) ?_
        refine lv_bipush (v := 6) hx hb dX8_books_83 (by decide) ?_
        refine lv_imul hx hb dX8_books_85 ?_
        refine lv_iadd hx hb dX8_books_86 ?_
        obtain ⟨r12, e13, h⟩ := gw_bdE h
        refine gw_callS (As := [.ref (a (21 + v5.toNatClampNeg)), .int (v3 + (v7 * (6 : Int32)))]) (n := 2) B hI (k_X8_isBookingOnSheet v5 (v3 + (v7 * (6 : Int32))) S e13) gX8_books_X8_isBookingOnSheet rfl rfl rfl nds_X8_isBookingOnSheet ⟨Nat.le_of_ble_eq_true rfl, Nat.le_of_ble_eq_true rfl⟩ rfl hl.1 (Nat.zero_le _) dX8_books_87 ⟨Nat.le_of_ble_eq_true rfl, Nat.le_of_ble_eq_true rfl⟩ rfl (fun w' H locs hw hI => ?_)
        subst hw
        refine lv_if_ne (tgt := 96) hx hb dX8_books_90 (by decide) (fun c14 => ?_) (fun c14 => ?_)
        · replace h := gw_ifF c14 h
          obtain ⟨y15, e16, h⟩ := gw_letE h
          refine lv_iinc (v := y15) (lv' := [(7, .int y15), (0, .ref (a 0)), (3, .int v3), (4, .int v4), (5, .ref (a (21 + v5.toNatClampNeg)))]) hx hb dX8_books_96 hl (k := 4) rfl (by rw [e16]; rfl) (by decide) rfl (fun ls hl => ?_)
          refine lv_goto (tgt := 71) hx hb dX8_books_99 (by decide) ?_
          exact ih v3 v4 v5 y15 S h _ _ _ hI (lv_sub hl [1, 2, 3, 4, 0] rfl)
        · replace h := gw_ifT c14 h
          refine lv_bipush (v := -2) hx hb dX8_books_93 (by decide) ?_
          obtain ⟨h1, h2⟩ := Prod.mk.inj (Option.some.inj h)
          rw [h2] at hI
          rw [← h1]
          exact gw_iret (W' := (fun w => ∃ b1 d1, w = gw_cw cc a b1 d1 zS)) B hI ⟨b, d, rfl⟩ (Nat.le_of_ble_eq_true rfl) (Nat.le_of_ble_eq_true rfl) dX8_books_95
  unfold f_X8_books at h
  refine lv_iload_n hx hb dX8_books_0 rfl (lv_at hl 1 rfl) ?_
  obtain ⟨r17, e18, h⟩ := gw_bdE h
  refine gw_callS (As := [.int x1]) (n := 1) B hI (k_X8_isSheet x1 S e18) gX8_books_X8_isSheet rfl rfl rfl nds_X8_isSheet ⟨Nat.le_of_ble_eq_true rfl, Nat.le_of_ble_eq_true rfl⟩ rfl hl.1 (Nat.zero_le _) dX8_books_1 ⟨Nat.le_of_ble_eq_true rfl, Nat.le_of_ble_eq_true rfl⟩ rfl (fun w' H locs hw hI => ?_)
  subst hw
  refine lv_if_eq (tgt := 25) hx hb dX8_books_4 (by decide) (fun c19 => ?_) (fun c19 => ?_)
  · replace h := gw_ifT c19 h
    refine lv_iconst (v := -1) hx hb dX8_books_25 (by decide) ?_
    obtain ⟨h1, h2⟩ := Prod.mk.inj (Option.some.inj h)
    rw [h2] at hI
    rw [← h1]
    exact gw_iret (W' := (fun w => ∃ b1 d1, w = gw_cw cc a b1 d1 zS)) B hI ⟨b, d, rfl⟩ (Nat.le_of_ble_eq_true rfl) (Nat.le_of_ble_eq_true rfl) dX8_books_26
  · replace h := gw_ifF c19 h
    refine lv_iload_n hx hb dX8_books_7 rfl (lv_at hl 2 rfl) ?_
    obtain ⟨r20, e21, h⟩ := gw_bdE h
    refine gw_callS (As := [.int x2]) (n := 1) B hI (k_X8_isLane x2 S e21) gX8_books_X8_isLane rfl rfl rfl nds_X8_isLane ⟨Nat.le_of_ble_eq_true rfl, Nat.le_of_ble_eq_true rfl⟩ rfl hl.1 (Nat.zero_le _) dX8_books_8 ⟨Nat.le_of_ble_eq_true rfl, Nat.le_of_ble_eq_true rfl⟩ rfl (fun w' H locs hw hI => ?_)
    subst hw
    refine lv_if_eq (tgt := 25) hx hb dX8_books_11 (by decide) (fun c22 => ?_) (fun c22 => ?_)
    · replace h := gw_ifT c22 h
      refine lv_iconst (v := -1) hx hb dX8_books_25 (by decide) ?_
      obtain ⟨h1, h2⟩ := Prod.mk.inj (Option.some.inj h)
      rw [h2] at hI
      rw [← h1]
      exact gw_iret (W' := (fun w => ∃ b1 d1, w = gw_cw cc a b1 d1 zS)) B hI ⟨b, d, rfl⟩ (Nat.le_of_ble_eq_true rfl) (Nat.le_of_ble_eq_true rfl) dX8_books_26
    · replace h := gw_ifF c22 h
      refine lv_iload hx hb dX8_books_14 (lv_at hl 4 rfl) ?_
      refine lv_iconst (v := 0) hx hb dX8_books_16 (by decide) ?_
      refine lv_bipush (v := 6) hx hb dX8_books_17 (by decide) ?_
      obtain ⟨r23, e24, h⟩ := gw_bdE h
      refine gw_callS (As := [.int x4, .int (0 : Int32), .int (6 : Int32)]) (n := 3) B hI (k_X8_isIn x4 (0 : Int32) (6 : Int32) S e24) gX8_books_X8_isIn rfl rfl rfl nds_X8_isIn ⟨Nat.le_of_ble_eq_true rfl, Nat.le_of_ble_eq_true rfl⟩ rfl hl.1 (Nat.zero_le _) dX8_books_19 ⟨Nat.le_of_ble_eq_true rfl, Nat.le_of_ble_eq_true rfl⟩ rfl (fun w' H locs hw hI => ?_)
      subst hw
      refine lv_if_ne (tgt := 27) hx hb dX8_books_22 (by decide) (fun c25 => ?_) (fun c25 => ?_)
      · replace h := gw_ifF c25 h
        refine lv_aload_n hx hb dX8_books_27 rfl (lv_at hl 0 rfl) ?_
        refine gw_get (T := TX8) (k := 3) (v := .ref (a 20)) B hI gc_g0 rfl ly_X8_books_8 (by decide) m_X8_books_35 rfl rfl dX8_books_28 ?_
        refine lv_iload_n hx hb dX8_books_31 rfl (lv_at hl 1 rfl) ?_
        obtain ⟨g26, h⟩ := gw_gdE h
        obtain ⟨g27, h⟩ := gw_gdE h
        refine gw_aald (t0 := 5) (v := .ref (a (21 + x1.toNatClampNeg))) B hI gc_g20 rfl g26 (gw_shv g27) dX8_books_32 ?_
        refine lv_astore (lv' := [(5, .ref (a (21 + x1.toNatClampNeg))), (0, .ref (a 0)), (1, .int x1), (2, .int x2), (3, .int x3), (4, .int x4)]) hx hb dX8_books_33 hl (by decide) rfl (fun ls hl => ?_)
        refine lv_aload hx hb dX8_books_35 (lv_at hl 0 rfl) ?_
        refine lv_iload_n hx hb dX8_books_37 rfl (lv_at hl 3 rfl) ?_
        obtain ⟨r28, e29, h⟩ := gw_bdE h
        refine gw_callV (As := [.int x2]) (n := 1) B hI (k_X5_refusalAs x1 x2 S e29) gX8_books_X5_refusalAs rfl rfl rfl nd_X5_refusalAs ⟨Nat.le_of_ble_eq_true rfl, Nat.le_of_ble_eq_true rfl⟩ (gc_gsh g27) rfl rfl rfl hl.1 (Nat.zero_le _) dX8_books_38 ⟨Nat.le_of_ble_eq_true rfl, Nat.le_of_ble_eq_true rfl⟩ rfl (fun w' H locs hw hI => ?_)
        subst hw
        refine lv_istore (lv' := [(6, .int r28), (5, .ref (a (21 + x1.toNatClampNeg))), (0, .ref (a 0)), (1, .int x1), (2, .int x2), (3, .int x3), (4, .int x4)]) hx hb dX8_books_41 hl (by decide) rfl (fun ls hl => ?_)
        refine lv_iload hx hb dX8_books_43 (lv_at hl 0 rfl) ?_
        refine lv_if_eq (tgt := 51) hx hb dX8_books_45 (by decide) (fun c30 => ?_) (fun c30 => ?_)
        · replace h := gw_ifT c30 h
          refine lv_aload hx hb dX8_books_51 (lv_at hl 1 rfl) ?_
          refine lv_iload_n hx hb dX8_books_53 rfl (lv_at hl 5 rfl) ?_
          refine lv_iload hx hb dX8_books_54 (lv_at hl 6 rfl) ?_
          refine lv_bipush (v := 6) hx hb dX8_books_56 (by decide) ?_
          refine lv_imul hx hb dX8_books_58 ?_
          obtain ⟨r31, e32, h⟩ := gw_bdE h
          refine gw_callV (As := [.int x3, .int (x4 * (6 : Int32))]) (n := 2) B hI (k_X5_hasItems x1 x3 (x4 * (6 : Int32)) S e32) gX8_books_X5_hasItems rfl rfl rfl nd_X5_hasItems ⟨Nat.le_of_ble_eq_true rfl, Nat.le_of_ble_eq_true rfl⟩ (gc_gsh g27) rfl rfl rfl hl.1 (Nat.zero_le _) dX8_books_59 ⟨Nat.le_of_ble_eq_true rfl, Nat.le_of_ble_eq_true rfl⟩ rfl (fun w' H locs hw hI => ?_)
          subst hw
          refine lv_if_ne (tgt := 68) hx hb dX8_books_62 (by decide) (fun c33 => ?_) (fun c33 => ?_)
          · replace h := gw_ifF c33 h
            refine lv_iconst (v := 0) hx hb dX8_books_68 (by decide) ?_
            refine lv_istore (lv' := [(7, .int (0 : Int32)), (6, .int r28), (5, .ref (a (21 + x1.toNatClampNeg))), (0, .ref (a 0)), (1, .int x1), (2, .int x2), (3, .int x3), (4, .int x4)]) hx hb dX8_books_69 hl (by decide) rfl (fun ls hl => ?_)
            exact hb71  gw_F x3 x4 x1 (0 : Int32) S h _ _ _ hI (lv_sub hl [3, 6, 7, 2, 0] rfl)
          · replace h := gw_ifT c33 h
            refine lv_bipush (v := -13) hx hb dX8_books_65 (by decide) ?_
            obtain ⟨h1, h2⟩ := Prod.mk.inj (Option.some.inj h)
            rw [h2] at hI
            rw [← h1]
            exact gw_iret (W' := (fun w => ∃ b1 d1, w = gw_cw cc a b1 d1 zS)) B hI ⟨b, d, rfl⟩ (Nat.le_of_ble_eq_true rfl) (Nat.le_of_ble_eq_true rfl) dX8_books_67
        · replace h := gw_ifF c30 h
          refine lv_iload hx hb dX8_books_48 (lv_at hl 0 rfl) ?_
          obtain ⟨h1, h2⟩ := Prod.mk.inj (Option.some.inj h)
          rw [h2] at hI
          rw [← h1]
          exact gw_iret (W' := (fun w => ∃ b1 d1, w = gw_cw cc a b1 d1 zS)) B hI ⟨b, d, rfl⟩ (Nat.le_of_ble_eq_true rfl) (Nat.le_of_ble_eq_true rfl) dX8_books_50
      · replace h := gw_ifT c25 h
        refine lv_iconst (v := -1) hx hb dX8_books_25 (by decide) ?_
        obtain ⟨h1, h2⟩ := Prod.mk.inj (Option.some.inj h)
        rw [h2] at hI
        rw [← h1]
        exact gw_iret (W' := (fun w => ∃ b1 d1, w = gw_cw cc a b1 d1 zS)) B hI ⟨b, d, rfl⟩ (Nat.le_of_ble_eq_true rfl) (Nat.le_of_ble_eq_true rfl) dX8_books_26
end
