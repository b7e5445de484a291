section
/-! contracts: printed by wip/gen -/
section
variable {l : Launch} {D : va_G} {t1 t2 : Nat} {cc : Nat → ClassId} {a b d : Nat → Nat}
theorem m_X8_off_19 : Cond.fieldLink RX8 19 "GownLet" "house" "LGownLet$House;" ∈ wsX8_off := by decide +kernel
theorem ly_X8_off_0 : ∀ w ∈ wsX00, w ∈ wsX8_off := fun w h => List.mem_cons_of_mem _ (List.mem_append_left _ (List.mem_append_right _ h))
theorem ly_X8_off_8 : ∀ w ∈ wsX80, w ∈ wsX8_off := fun w h => List.mem_cons_of_mem _ (List.mem_append_left _ (List.mem_append_left _ (List.mem_append_right _ h)))
set_option maxRecDepth 100000 in
set_option maxHeartbeats 4000000 in
theorem k_X8_off (x1 : Int32) (x2 : Int32) (S : gw_S) {zr : Int32} {zS : gw_S} (h : f_X8_off x1 x2 S = some (zr, zS)) : gw_M l yX8_off wsX8_off rm_X8_off 0 0 D (gw_ty cc) t1 t2 [.ref (a 0), .int x1, .int x2] (gw_cw cc a b d S) (fun w => w = gw_cw cc a b d zS) (some (.int zr)) := by
  refine gw_enter (cc := cX8_off) (maxL := 4) (ret := (some .int)) (own := RX8) rfl (by decide) rfl (Nat.le_of_ble_eq_true rfl) ?_
  intro p e s m below meth c A B hin hI ls hl
  have hl : lv_has ls 4 [(0, .ref (a 0)), (1, .int x1), (2, .int x2)] := hl
  generalize ([.ref (a 0), .int x1, .int x2] : List Value).toArray = args at B ⊢
  have hx := B.1.1
  have hb := B.1.2.1
  have hown : s.vm.findClass RX8 = some m.cls := B.1.2.2.2.1
  have hts := B.1.2.2.2.2
  unfold f_X8_off at h
  refine lv_aload_n hx hb dX8_off_0 rfl (lv_at hl 0 rfl) ?_
  refine gw_get (T := TX8) (k := 1) (v := .ref (a 3)) B hI gc_g0 rfl ly_X8_off_8 (by decide) m_X8_off_19 rfl rfl dX8_off_1 ?_
  refine lv_iload_n hx hb dX8_off_4 rfl (lv_at hl 1 rfl) ?_
  obtain ⟨r1, e2, h⟩ := gw_bdE h
  refine gw_callV (As := [.int x1]) (n := 1) B hI (k_X2_bookingAt x1 S e2) gX8_off_X2_bookingAt rfl rfl rfl nd_X2_bookingAt ⟨Nat.le_of_ble_eq_true rfl, Nat.le_of_ble_eq_true rfl⟩ gc_g3 rfl rfl rfl hl.1 (Nat.zero_le _) dX8_off_5 ⟨Nat.le_of_ble_eq_true rfl, Nat.le_of_ble_eq_true rfl⟩ rfl (fun w' H locs hw hI => ?_)
  subst hw
  refine gw_astore_n (lv' := [(3, va_rf (gw_rf d r1)), (0, .ref (a 0)), (1, .int x1), (2, .int x2)]) B dX8_off_8 rfl hl (by decide) rfl (fun ls hl => ?_)
  refine gw_aload_n B dX8_off_9 rfl (lv_at hl 0 rfl) ?_
  refine gw_ifnull (tgt := 28) B dX8_off_10 (by decide) (fun c3 => ?_) (fun c3 => ?_)
  · replace h := gw_ifT c3 h
    refine lv_iconst (v := -1) hx hb dX8_off_28 (by decide) ?_
    obtain ⟨h1, h2⟩ := Prod.mk.inj (Option.some.inj h)
    rw [h2] at hI
    rw [← h1]
    exact gw_iret (W' := (fun w => w = gw_cw cc a b d zS)) B hI rfl (Nat.zero_le _) (Nat.zero_le _) dX8_off_29
  · replace h := gw_ifF c3 h
    refine lv_iload_n hx hb dX8_off_13 rfl (lv_at hl 3 rfl) ?_
    obtain ⟨r4, e5, h⟩ := gw_bdE h
    refine gw_callS (As := [.int x2]) (n := 1) B hI (k_X8_isDay x2 S e5) gX8_off_X8_isDay rfl rfl rfl nds_X8_isDay ⟨Nat.le_of_ble_eq_true rfl, Nat.le_of_ble_eq_true rfl⟩ rfl hl.1 (Nat.zero_le _) dX8_off_14 ⟨Nat.le_of_ble_eq_true rfl, Nat.le_of_ble_eq_true rfl⟩ rfl (fun w' H locs hw hI => ?_)
    subst hw
    refine lv_if_eq (tgt := 28) hx hb dX8_off_17 (by decide) (fun c6 => ?_) (fun c6 => ?_)
    · replace h := gw_ifT c6 h
      refine lv_iconst (v := -1) hx hb dX8_off_28 (by decide) ?_
      obtain ⟨h1, h2⟩ := Prod.mk.inj (Option.some.inj h)
      rw [h2] at hI
      rw [← h1]
      exact gw_iret (W' := (fun w => w = gw_cw cc a b d zS)) B hI rfl (Nat.zero_le _) (Nat.zero_le _) dX8_off_29
    · replace h := gw_ifF c6 h
      refine lv_iload_n hx hb dX8_off_20 rfl (lv_at hl 3 rfl) ?_
      refine gw_aload_n B dX8_off_21 rfl (lv_at hl 0 rfl) ?_
      rw [gw_rfP c3]
      obtain ⟨g7, h⟩ := gw_gdE h
      refine gw_getN (T := TX0) (k := 5) (v := .int (S (2 * r1.toNatClampNeg + 31) 5)) B hI (gc_gb g7) rfl ly_X8_off_0 (by decide) n_RX8_163 rfl rfl dX8_off_22 ?_
      refine lv_icmp_ge (tgt := 30) hx hb dX8_off_25 (by decide) (fun c8 => ?_) (fun c8 => ?_)
      · replace h := gw_ifT c8 h
        refine gw_aload_n B dX8_off_30 rfl (lv_at hl 0 rfl) ?_
        rw [gw_rfP c3]
        obtain ⟨r9, e10, h⟩ := gw_bdE h
        refine gw_callV (As := []) (n := 0) B hI (k_X0_isCalledOff r1 S e10) gX8_off_X0_isCalledOff rfl rfl rfl nd_X0_isCalledOff ⟨Nat.le_of_ble_eq_true rfl, Nat.le_of_ble_eq_true rfl⟩ (gc_gb g7) rfl rfl rfl hl.1 (Nat.zero_le _) dX8_off_31 ⟨Nat.le_of_ble_eq_true rfl, Nat.le_of_ble_eq_true rfl⟩ rfl (fun w' H locs hw hI => ?_)
        subst hw
        refine lv_if_ne (tgt := 44) hx hb dX8_off_34 (by decide) (fun c11 => ?_) (fun c11 => ?_)
        · replace h := gw_ifF c11 h
          refine lv_bipush (v := -2) hx hb dX8_off_44 (by decide) ?_
          obtain ⟨h1, h2⟩ := Prod.mk.inj (Option.some.inj h)
          rw [h2] at hI
          rw [← h1]
          exact gw_iret (W' := (fun w => w = gw_cw cc a b d zS)) B hI rfl (Nat.zero_le _) (Nat.zero_le _) dX8_off_46
        · replace h := gw_ifT c11 h
          refine gw_aload_n B dX8_off_37 rfl (lv_at hl 0 rfl) ?_
          rw [gw_rfP c3]
          obtain ⟨r12, e13, h⟩ := gw_bdE h
          refine gw_callV (As := []) (n := 0) B hI (k_X0_wentOut r1 S e13) gX8_off_X0_wentOut rfl rfl rfl nd_X0_wentOut ⟨Nat.le_of_ble_eq_true rfl, Nat.le_of_ble_eq_true rfl⟩ (gc_gb g7) rfl rfl rfl hl.1 (Nat.zero_le _) dX8_off_38 ⟨Nat.le_of_ble_eq_true rfl, Nat.le_of_ble_eq_true rfl⟩ rfl (fun w' H locs hw hI => ?_)
          subst hw
          refine lv_if_eq (tgt := 47) hx hb dX8_off_41 (by decide) (fun c14 => ?_) (fun c14 => ?_)
          · replace h := gw_ifT c14 h
            refine gw_aload_n B dX8_off_47 rfl (lv_at hl 0 rfl) ?_
            refine lv_iload_n hx hb dX8_off_48 rfl (lv_at hl 3 rfl) ?_
            rw [gw_rfP c3]
            obtain ⟨S15, e16, h⟩ := gw_letE h
            refine gw_putN (T := TX0) (k := 7) (w' := gw_cw cc a b d S15) B hI (gc_gb g7) rfl ly_X8_off_0 tyX0 tyX0_ok nmX0 (by decide) n_RX8_175 rfl rfl rfl rfl (Nat.le_of_ble_eq_true rfl) (gc_sb_7 g7 e16) dX8_off_49 (fun H locs hI => ?_)
            refine gw_aload_n B dX8_off_52 rfl (lv_at hl 0 rfl) ?_
            refine gw_null (b := b) B dX8_off_53 ?_
            rw [gw_rfP c3]
            obtain ⟨g17, h⟩ := gw_gdE h
            obtain ⟨S18, e19, h⟩ := gw_letE h
            refine gw_putN (T := TX0) (k := 8) (w' := gw_cw cc a b d S18) B hI (gc_gb g17) rfl ly_X8_off_0 tyX0 tyX0_ok nmX0 (by decide) n_RX8_178 rfl rfl gw_rn gw_rfit (Nat.le_of_ble_eq_true rfl) (gc_sb_8 g17 e19) dX8_off_54 (fun H locs hI => ?_)
            refine lv_iconst (v := 1) hx hb dX8_off_57 (by decide) ?_
            obtain ⟨h1, h2⟩ := Prod.mk.inj (Option.some.inj h)
            rw [h2] at hI
            rw [← h1]
            exact gw_iret (W' := (fun w => w = gw_cw cc a b d zS)) B hI rfl (Nat.zero_le _) (Nat.zero_le _) dX8_off_58
          · replace h := gw_ifF c14 h
            refine lv_bipush (v := -2) hx hb dX8_off_44 (by decide) ?_
            obtain ⟨h1, h2⟩ := Prod.mk.inj (Option.some.inj h)
            rw [h2] at hI
            rw [← h1]
            exact gw_iret (W' := (fun w => w = gw_cw cc a b d zS)) B hI rfl (Nat.zero_le _) (Nat.zero_le _) dX8_off_46
      · replace h := gw_ifF c8 h
        refine lv_iconst (v := -1) hx hb dX8_off_28 (by decide) ?_
        obtain ⟨h1, h2⟩ := Prod.mk.inj (Option.some.inj h)
        rw [h2] at hI
        rw [← h1]
        exact gw_iret (W' := (fun w => w = gw_cw cc a b d zS)) B hI rfl (Nat.zero_le _) (Nat.zero_le _) dX8_off_29
theorem m_X8_give_19 : Cond.fieldLink RX8 19 "GownLet" "house" "LGownLet$House;" ∈ wsX8_give := by decide +kernel
theorem ly_X8_give_0 : ∀ w ∈ wsX00, w ∈ wsX8_give := fun w h => List.mem_cons_of_mem _ (List.mem_append_left _ (List.mem_append_left _ (List.mem_append_left _ (List.mem_append_left _ (List.mem_append_right _ h)))))
theorem ly_X8_give_8 : ∀ w ∈ wsX80, w ∈ wsX8_give := fun w h => List.mem_cons_of_mem _ (List.mem_append_left _ (List.mem_append_left _ (List.mem_append_left _ (List.mem_append_left _ (List.mem_append_left _ (List.mem_append_right _ h))))))
set_option maxRecDepth 100000 in
set_option maxHeartbeats 4000000 in
theorem k_X8_give (x1 : Int32) (S : gw_S) {zr : Int32} {zS : gw_S} (h : f_X8_give x1 S = some (zr, zS)) : gw_M l yX8_give wsX8_give rm_X8_give 0 0 D (gw_ty cc) t1 t2 [.ref (a 0), .int x1] (gw_cw cc a b d S) (fun w => w = gw_cw cc a b d zS) (some (.int zr)) := by
  refine gw_enter (cc := cX8_give) (maxL := 3) (ret := (some .int)) (own := RX8) rfl (by decide) rfl (Nat.le_of_ble_eq_true rfl) ?_
  intro p e s m below meth c A B hin hI ls hl
  have hl : lv_has ls 3 [(0, .ref (a 0)), (1, .int x1)] := hl
  generalize ([.ref (a 0), .int x1] : List Value).toArray = args at B ⊢
  have hx := B.1.1
  have hb := B.1.2.1
  have hown : s.vm.findClass RX8 = some m.cls := B.1.2.2.2.1
  have hts := B.1.2.2.2.2
  unfold f_X8_give at h
  refine lv_aload_n hx hb dX8_give_0 rfl (lv_at hl 0 rfl) ?_
  refine gw_get (T := TX8) (k := 1) (v := .ref (a 3)) B hI gc_g0 rfl ly_X8_give_8 (by decide) m_X8_give_19 rfl rfl dX8_give_1 ?_
  refine lv_iload_n hx hb dX8_give_4 rfl (lv_at hl 1 rfl) ?_
  obtain ⟨r1, e2, h⟩ := gw_bdE h
  refine gw_callV (As := [.int x1]) (n := 1) B hI (k_X2_bookingAt x1 S e2) gX8_give_X2_bookingAt rfl rfl rfl nd_X2_bookingAt ⟨Nat.le_of_ble_eq_true rfl, Nat.le_of_ble_eq_true rfl⟩ gc_g3 rfl rfl rfl hl.1 (Nat.zero_le _) dX8_give_5 ⟨Nat.le_of_ble_eq_true rfl, Nat.le_of_ble_eq_true rfl⟩ rfl (fun w' H locs hw hI => ?_)
  subst hw
  refine gw_astore_n (lv' := [(2, va_rf (gw_rf d r1)), (0, .ref (a 0)), (1, .int x1)]) B dX8_give_8 rfl hl (by decide) rfl (fun ls hl => ?_)
  refine gw_aload_n B dX8_give_9 rfl (lv_at hl 0 rfl) ?_
  refine gw_ifnonnull (tgt := 15) B dX8_give_10 (by decide) (fun c3 => ?_) (fun c3 => ?_)
  · replace h := gw_ifF c3 h
    refine gw_aload_n B dX8_give_15 rfl (lv_at hl 0 rfl) ?_
    rw [gw_rfP c3]
    obtain ⟨g4, h⟩ := gw_gdE h
    obtain ⟨r5, e6, h⟩ := gw_bdE h
    refine gw_callV (As := []) (n := 0) B hI (k_X0_waits r1 S e6) gX8_give_X0_waits rfl rfl rfl nd_X0_waits ⟨Nat.le_of_ble_eq_true rfl, Nat.le_of_ble_eq_true rfl⟩ (gc_gb g4) rfl rfl rfl hl.1 (Nat.zero_le _) dX8_give_16 ⟨Nat.le_of_ble_eq_true rfl, Nat.le_of_ble_eq_true rfl⟩ rfl (fun w' H locs hw hI => ?_)
    subst hw
    refine lv_if_ne (tgt := 25) hx hb dX8_give_19 (by decide) (fun c7 => ?_) (fun c7 => ?_)
    · replace h := gw_ifF c7 h
      refine gw_aload_n B dX8_give_25 rfl (lv_at hl 0 rfl) ?_
      refine lv_aload_n hx hb dX8_give_26 rfl (lv_at hl 1 rfl) ?_
      refine gw_get (T := TX8) (k := 1) (v := .ref (a 3)) B hI gc_g0 rfl ly_X8_give_8 (by decide) m_X8_give_19 rfl rfl dX8_give_27 ?_
      refine gw_aload_n B dX8_give_30 rfl (lv_at hl 0 rfl) ?_
      refine lv_iconst (v := -1) hx hb dX8_give_31 (by decide) ?_
      obtain ⟨r8, e9, h⟩ := gw_bdE h
      refine gw_callV (As := [va_rf (gw_rf d r1), .int (-1 : Int32)]) (n := 2) B hI (k_X2_bestFor r1 (-1 : Int32) S e9) gX8_give_X2_bestFor rfl rfl rfl nd_X2_bestFor ⟨Nat.le_of_ble_eq_true rfl, Nat.le_of_ble_eq_true rfl⟩ gc_g3 rfl rfl rfl hl.1 (by simp [gw_catq, gw_cI, gw_cR, gw_cL]) dX8_give_32 ⟨Nat.le_of_ble_eq_true rfl, Nat.le_of_ble_eq_true rfl⟩ rfl (fun w' H locs hw hI => ?_)
      subst hw
      rw [gw_rfP c3]
      obtain ⟨S10, e11, h⟩ := gw_letE h
      refine gw_putN (T := TX0) (k := 8) (w' := gw_cw cc a b d S10) B hI (gc_gb g4) rfl ly_X8_give_0 tyX0 tyX0_ok nmX0 (by decide) n_RX8_178 rfl rfl gw_rn gw_rfit (Nat.le_of_ble_eq_true rfl) (gc_sb_8 g4 e11) dX8_give_35 (fun H locs hI => ?_)
      refine gw_aload_n B dX8_give_38 rfl (lv_at hl 0 rfl) ?_
      rw [gw_rfP c3]
      obtain ⟨g12, h⟩ := gw_gdE h
      obtain ⟨r13, e14, h⟩ := gw_bdE h
      refine gw_callV (As := []) (n := 0) B hI (k_X0_pieceNumber r1 S10 e14) gX8_give_X0_pieceNumber rfl rfl rfl nd_X0_pieceNumber ⟨Nat.le_of_ble_eq_true rfl, Nat.le_of_ble_eq_true rfl⟩ (gc_gb g12) rfl rfl rfl hl.1 (Nat.zero_le _) dX8_give_39 ⟨Nat.le_of_ble_eq_true rfl, Nat.le_of_ble_eq_true rfl⟩ rfl (fun w' H locs hw hI => ?_)
      subst hw
      obtain ⟨h1, h2⟩ := Prod.mk.inj (Option.some.inj h)
      rw [h2] at hI
      rw [← h1]
      exact gw_iret (W' := (fun w => w = gw_cw cc a b d zS)) B hI rfl (Nat.zero_le _) (Nat.zero_le _) dX8_give_42
    · replace h := gw_ifT c7 h
      refine lv_bipush (v := -2) hx hb dX8_give_22 (by decide) ?_
      obtain ⟨h1, h2⟩ := Prod.mk.inj (Option.some.inj h)
      rw [h2] at hI
      rw [← h1]
      exact gw_iret (W' := (fun w => w = gw_cw cc a b d zS)) B hI rfl (Nat.zero_le _) (Nat.zero_le _) dX8_give_24
  · replace h := gw_ifT c3 h
    refine lv_iconst (v := -1) hx hb dX8_give_13 (by decide) ?_
    obtain ⟨h1, h2⟩ := Prod.mk.inj (Option.some.inj h)
    rw [h2] at hI
    rw [← h1]
    exact gw_iret (W' := (fun w => w = gw_cw cc a b d zS)) B hI rfl (Nat.zero_le _) (Nat.zero_le _) dX8_give_14
theorem m_X8_has_19 : Cond.fieldLink RX8 19 "GownLet" "house" "LGownLet$House;" ∈ wsX8_has := by decide +kernel
theorem ly_X8_has_8 : ∀ w ∈ wsX80, w ∈ wsX8_has := fun w h => List.mem_cons_of_mem _ (List.mem_append_left _ (List.mem_append_left _ (List.mem_append_left _ (List.mem_append_right _ h))))
set_option maxRecDepth 100000 in
set_option maxHeartbeats 4000000 in
theorem k_X8_has (x1 : Int32) (S : gw_S) {zr : Int32} (h : f_X8_has x1 S = some zr) : gw_M l yX8_has wsX8_has rm_X8_has 0 0 D (gw_ty cc) t1 t2 [.ref (a 0), .int x1] (gw_cw cc a b d S) (fun w => w = gw_cw cc a b d S) (some (.int zr)) := by
  refine gw_enter (cc := cX8_has) (maxL := 3) (ret := (some .int)) (own := RX8) rfl (by decide) rfl (Nat.le_of_ble_eq_true rfl) ?_
  intro p e s m below meth c A B hin hI ls hl
  have hl : lv_has ls 3 [(0, .ref (a 0)), (1, .int x1)] := hl
  generalize ([.ref (a 0), .int x1] : List Value).toArray = args at B ⊢
  have hx := B.1.1
  have hb := B.1.2.1
  have hown : s.vm.findClass RX8 = some m.cls := B.1.2.2.2.1
  have hts := B.1.2.2.2.2
  unfold f_X8_has at h
  refine lv_aload_n hx hb dX8_has_0 rfl (lv_at hl 0 rfl) ?_
  refine gw_get (T := TX8) (k := 1) (v := .ref (a 3)) B hI gc_g0 rfl ly_X8_has_8 (by decide) m_X8_has_19 rfl rfl dX8_has_1 ?_
  refine lv_iload_n hx hb dX8_has_4 rfl (lv_at hl 1 rfl) ?_
  obtain ⟨r1, e2, h⟩ := gw_bdE h
  refine gw_callV (As := [.int x1]) (n := 1) B hI (k_X2_bookingAt x1 S e2) gX8_has_X2_bookingAt rfl rfl rfl nd_X2_bookingAt ⟨Nat.le_of_ble_eq_true rfl, Nat.le_of_ble_eq_true rfl⟩ gc_g3 rfl rfl rfl hl.1 (Nat.zero_le _) dX8_has_5 ⟨Nat.le_of_ble_eq_true rfl, Nat.le_of_ble_eq_true rfl⟩ rfl (fun w' H locs hw hI => ?_)
  subst hw
  refine gw_astore_n (lv' := [(2, va_rf (gw_rf d r1)), (0, .ref (a 0)), (1, .int x1)]) B dX8_has_8 rfl hl (by decide) rfl (fun ls hl => ?_)
  refine gw_aload_n B dX8_has_9 rfl (lv_at hl 0 rfl) ?_
  refine gw_ifnonnull (tgt := 17) B dX8_has_10 (by decide) (fun c3 => ?_) (fun c3 => ?_)
  · replace h := gw_ifF c3 h
    refine gw_aload_n B dX8_has_17 rfl (lv_at hl 0 rfl) ?_
    rw [gw_rfP c3]
    obtain ⟨g4, h⟩ := gw_gdE h
    obtain ⟨r5, e6, h⟩ := gw_bdE h
    refine gw_callV (As := []) (n := 0) B hI (k_X0_pieceNumber r1 S e6) gX8_has_X0_pieceNumber rfl rfl rfl nd_X0_pieceNumber ⟨Nat.le_of_ble_eq_true rfl, Nat.le_of_ble_eq_true rfl⟩ (gc_gb g4) rfl rfl rfl hl.1 (Nat.zero_le _) dX8_has_18 ⟨Nat.le_of_ble_eq_true rfl, Nat.le_of_ble_eq_true rfl⟩ rfl (fun w' H locs hw hI => ?_)
    subst hw
    rw [← Option.some.inj h]
    exact gw_iret (W' := (fun w => w = gw_cw cc a b d S)) B hI rfl (Nat.zero_le _) (Nat.zero_le _) dX8_has_21
  · replace h := gw_ifT c3 h
    refine lv_iconst (v := -1) hx hb dX8_has_13 (by decide) ?_
    refine lv_goto (tgt := 21) hx hb dX8_has_14 (by decide) ?_
    rw [← Option.some.inj h]
    exact gw_iret (W' := (fun w => w = gw_cw cc a b d S)) B hI rfl (Nat.zero_le _) (Nat.zero_le _) dX8_has_21
theorem m_X8_free_19 : Cond.fieldLink RX8 19 "GownLet" "house" "LGownLet$House;" ∈ wsX8_free := by decide +kernel
theorem ly_X8_free_8 : ∀ w ∈ wsX80, w ∈ wsX8_free := fun w h => List.mem_cons_of_mem _ (List.mem_append_left _ (List.mem_append_left _ (List.mem_append_left _ (List.mem_append_left _ (List.mem_append_right _ h)))))
set_option maxRecDepth 100000 in
set_option maxHeartbeats 4000000 in
theorem k_X8_free (x1 : Int32) (x2 : Int32) (S : gw_S) {zr : Int32} (h : f_X8_free x1 x2 S = some zr) : gw_M l yX8_free wsX8_free rm_X8_free 0 0 D (gw_ty cc) t1 t2 [.ref (a 0), .int x1, .int x2] (gw_cw cc a b d S) (fun w => w = gw_cw cc a b d S) (some (.int zr)) := by
  refine gw_enter (cc := cX8_free) (maxL := 5) (ret := (some .int)) (own := RX8) rfl (by decide) rfl (Nat.le_of_ble_eq_true rfl) ?_
  intro p e s m below meth c A B hin hI ls hl
  have hl : lv_has ls 5 [(0, .ref (a 0)), (1, .int x1), (2, .int x2)] := hl
  generalize ([.ref (a 0), .int x1, .int x2] : List Value).toArray = args at B ⊢
  have hx := B.1.1
  have hb := B.1.2.1
  have hown : s.vm.findClass RX8 = some m.cls := B.1.2.2.2.1
  have hts := B.1.2.2.2.2
  unfold f_X8_free at h
  refine lv_aload_n hx hb dX8_free_0 rfl (lv_at hl 0 rfl) ?_
  refine gw_get (T := TX8) (k := 1) (v := .ref (a 3)) B hI gc_g0 rfl ly_X8_free_8 (by decide) m_X8_free_19 rfl rfl dX8_free_1 ?_
  refine lv_iload_n hx hb dX8_free_4 rfl (lv_at hl 1 rfl) ?_
  obtain ⟨r1, e2, h⟩ := gw_bdE h
  refine gw_callV (As := [.int x1]) (n := 1) B hI (k_X2_pieceAt x1 S e2) gX8_free_X2_pieceAt rfl rfl rfl nd_X2_pieceAt ⟨Nat.le_of_ble_eq_true rfl, Nat.le_of_ble_eq_true rfl⟩ gc_g3 rfl rfl rfl hl.1 (Nat.zero_le _) dX8_free_5 ⟨Nat.le_of_ble_eq_true rfl, Nat.le_of_ble_eq_true rfl⟩ rfl (fun w' H locs hw hI => ?_)
  subst hw
  refine gw_astore_n (lv' := [(3, va_rf (gw_rf b r1)), (0, .ref (a 0)), (1, .int x1), (2, .int x2)]) B dX8_free_8 rfl hl (by decide) rfl (fun ls hl => ?_)
  refine lv_aload_n hx hb dX8_free_9 rfl (lv_at hl 1 rfl) ?_
  refine gw_get (T := TX8) (k := 1) (v := .ref (a 3)) B hI gc_g0 rfl ly_X8_free_8 (by decide) m_X8_free_19 rfl rfl dX8_free_10 ?_
  refine lv_iload_n hx hb dX8_free_13 rfl (lv_at hl 3 rfl) ?_
  obtain ⟨r3, e4, h⟩ := gw_bdE h
  refine gw_callV (As := [.int x2]) (n := 1) B hI (k_X2_bookingAt x2 S e4) gX8_free_X2_bookingAt rfl rfl rfl nd_X2_bookingAt ⟨Nat.le_of_ble_eq_true rfl, Nat.le_of_ble_eq_true rfl⟩ gc_g3 rfl rfl rfl hl.1 (Nat.zero_le _) dX8_free_14 ⟨Nat.le_of_ble_eq_true rfl, Nat.le_of_ble_eq_true rfl⟩ rfl (fun w' H locs hw hI => ?_)
  subst hw
  refine gw_astore (i := 4) (lv' := [(4, va_rf (gw_rf d r3)), (3, va_rf (gw_rf b r1)), (0, .ref (a 0)), (1, .int x1), (2, .int x2)]) B dX8_free_17 hl (by decide) (by simp [gw_catq, gw_cI, gw_cR, gw_cL]) (fun ls hl => ?_)
  refine gw_aload_n B dX8_free_19 rfl (lv_at hl 1 rfl) ?_
  refine gw_ifnull (tgt := 28) B dX8_free_20 (by decide) (fun c5 => ?_) (fun c5 => ?_)
  · replace h := gw_ifT c5 h
    refine lv_iconst (v := -1) hx hb dX8_free_28 (by decide) ?_
    rw [← Option.some.inj h]
    exact gw_iret (W' := (fun w => w = gw_cw cc a b d S)) B hI rfl (Nat.zero_le _) (Nat.zero_le _) dX8_free_29
  · replace h := gw_ifF c5 h
    refine gw_aload B dX8_free_23 (lv_at hl 0 rfl) ?_
    refine gw_ifnonnull (tgt := 30) B dX8_free_25 (by decide) (fun c6 => ?_) (fun c6 => ?_)
    · replace h := gw_ifF c6 h
      refine lv_aload_n hx hb dX8_free_30 rfl (lv_at hl 2 rfl) ?_
      refine gw_get (T := TX8) (k := 1) (v := .ref (a 3)) B hI gc_g0 rfl ly_X8_free_8 (by decide) m_X8_free_19 rfl rfl dX8_free_31 ?_
      refine gw_aload_n B dX8_free_34 rfl (lv_at hl 1 rfl) ?_
      refine gw_aload B dX8_free_35 (lv_at hl 0 rfl) ?_
      obtain ⟨r7, e8, h⟩ := gw_bdE h
      refine gw_callV (As := [va_rf (gw_rf b r1), va_rf (gw_rf d r3)]) (n := 2) B hI (k_X2_isFree r1 r3 S e8) gX8_free_X2_isFree rfl rfl rfl nd_X2_isFree ⟨Nat.le_of_ble_eq_true rfl, Nat.le_of_ble_eq_true rfl⟩ gc_g3 rfl rfl rfl hl.1 (Nat.zero_le _) dX8_free_37 ⟨Nat.le_of_ble_eq_true rfl, Nat.le_of_ble_eq_true rfl⟩ rfl (fun w' H locs hw hI => ?_)
      subst hw
      refine lv_if_eq (tgt := 47) hx hb dX8_free_40 (by decide) (fun c9 => ?_) (fun c9 => ?_)
      · replace h := gw_ifT c9 h
        refine lv_iconst (v := 0) hx hb dX8_free_47 (by decide) ?_
        rw [← Option.some.inj h]
        exact gw_iret (W' := (fun w => w = gw_cw cc a b d S)) B hI rfl (Nat.zero_le _) (Nat.zero_le _) dX8_free_48
      · replace h := gw_ifF c9 h
        refine lv_iconst (v := 1) hx hb dX8_free_43 (by decide) ?_
        refine lv_goto (tgt := 48) hx hb dX8_free_44 (by decide) ?_
        rw [← Option.some.inj h]
        exact gw_iret (W' := (fun w => w = gw_cw cc a b d S)) B hI rfl (Nat.zero_le _) (Nat.zero_le _) dX8_free_48
    · replace h := gw_ifT c6 h
      refine lv_iconst (v := -1) hx hb dX8_free_28 (by decide) ?_
      rw [← Option.some.inj h]
      exact gw_iret (W' := (fun w => w = gw_cw cc a b d S)) B hI rfl (Nat.zero_le _) (Nat.zero_le _) dX8_free_29
theorem m_X8_away_19 : Cond.fieldLink RX8 19 "GownLet" "house" "LGownLet$House;" ∈ wsX8_away := by decide +kernel
theorem ly_X8_away_8 : ∀ w ∈ wsX80, w ∈ wsX8_away := fun w h => List.mem_cons_of_mem _ (List.mem_append_left _ (List.mem_append_left _ (List.mem_append_left _ (List.mem_append_left _ (List.mem_append_right _ h)))))
set_option maxRecDepth 100000 in
set_option maxHeartbeats 4000000 in
theorem k_X8_away (x1 : Int32) (x2 : Int32) (x3 : Int32) (S : gw_S) {zr : Int32} (h : f_X8_away x1 x2 x3 S = some zr) : gw_M l yX8_away wsX8_away rm_X8_away 0 0 D (gw_ty cc) t1 t2 [.ref (a 0), .int x1, .int x2, .int x3] (gw_cw cc a b d S) (fun w => w = gw_cw cc a b d S) (some (.int zr)) := by
  refine gw_enter (cc := cX8_away) (maxL := 6) (ret := (some .int)) (own := RX8) rfl (by decide) rfl (Nat.le_of_ble_eq_true rfl) ?_
  intro p e s m below meth c A B hin hI ls hl
  have hl : lv_has ls 6 [(0, .ref (a 0)), (1, .int x1), (2, .int x2), (3, .int x3)] := hl
  generalize ([.ref (a 0), .int x1, .int x2, .int x3] : List Value).toArray = args at B ⊢
  have hx := B.1.1
  have hb := B.1.2.1
  have hown : s.vm.findClass RX8 = some m.cls := B.1.2.2.2.1
  have hts := B.1.2.2.2.2
  unfold f_X8_away at h
  refine lv_aload_n hx hb dX8_away_0 rfl (lv_at hl 0 rfl) ?_
  refine gw_get (T := TX8) (k := 1) (v := .ref (a 3)) B hI gc_g0 rfl ly_X8_away_8 (by decide) m_X8_away_19 rfl rfl dX8_away_1 ?_
  refine lv_iload_n hx hb dX8_away_4 rfl (lv_at hl 1 rfl) ?_
  obtain ⟨r1, e2, h⟩ := gw_bdE h
  refine gw_callV (As := [.int x1]) (n := 1) B hI (k_X2_pieceAt x1 S e2) gX8_away_X2_pieceAt rfl rfl rfl nd_X2_pieceAt ⟨Nat.le_of_ble_eq_true rfl, Nat.le_of_ble_eq_true rfl⟩ gc_g3 rfl rfl rfl hl.1 (Nat.zero_le _) dX8_away_5 ⟨Nat.le_of_ble_eq_true rfl, Nat.le_of_ble_eq_true rfl⟩ rfl (fun w' H locs hw hI => ?_)
  subst hw
  refine gw_astore (lv' := [(4, va_rf (gw_rf b r1)), (0, .ref (a 0)), (1, .int x1), (2, .int x2), (3, .int x3)]) B dX8_away_8 hl (by decide) rfl (fun ls hl => ?_)
  refine lv_aload_n hx hb dX8_away_10 rfl (lv_at hl 1 rfl) ?_
  refine gw_get (T := TX8) (k := 1) (v := .ref (a 3)) B hI gc_g0 rfl ly_X8_away_8 (by decide) m_X8_away_19 rfl rfl dX8_away_11 ?_
  refine lv_iload_n hx hb dX8_away_14 rfl (lv_at hl 3 rfl) ?_
  obtain ⟨r3, e4, h⟩ := gw_bdE h
  refine gw_callV (As := [.int x2]) (n := 1) B hI (k_X2_bookingAt x2 S e4) gX8_away_X2_bookingAt rfl rfl rfl nd_X2_bookingAt ⟨Nat.le_of_ble_eq_true rfl, Nat.le_of_ble_eq_true rfl⟩ gc_g3 rfl rfl rfl hl.1 (Nat.zero_le _) dX8_away_15 ⟨Nat.le_of_ble_eq_true rfl, Nat.le_of_ble_eq_true rfl⟩ rfl (fun w' H locs hw hI => ?_)
  subst hw
  refine gw_astore (i := 5) (lv' := [(5, va_rf (gw_rf d r3)), (4, va_rf (gw_rf b r1)), (0, .ref (a 0)), (1, .int x1), (2, .int x2), (3, .int x3)]) B dX8_away_18 hl (by decide) (by simp [gw_catq, gw_cI, gw_cR, gw_cL]) (fun ls hl => ?_)
  refine gw_aload B dX8_away_20 (lv_at hl 1 rfl) ?_
  refine gw_ifnull (tgt := 39) B dX8_away_22 (by decide) (fun c5 => ?_) (fun c5 => ?_)
  · replace h := gw_ifT c5 h
    refine lv_iconst (v := -1) hx hb dX8_away_39 (by decide) ?_
    rw [← Option.some.inj h]
    exact gw_iret (W' := (fun w => w = gw_cw cc a b d S)) B hI rfl (Nat.zero_le _) (Nat.zero_le _) dX8_away_40
  · replace h := gw_ifF c5 h
    refine gw_aload B dX8_away_25 (lv_at hl 0 rfl) ?_
    refine gw_ifnull (tgt := 39) B dX8_away_27 (by decide) (fun c6 => ?_) (fun c6 => ?_)
    · replace h := gw_ifT c6 h
      refine lv_iconst (v := -1) hx hb dX8_away_39 (by decide) ?_
      rw [← Option.some.inj h]
      exact gw_iret (W' := (fun w => w = gw_cw cc a b d S)) B hI rfl (Nat.zero_le _) (Nat.zero_le _) dX8_away_40
    · replace h := gw_ifF c6 h
      refine lv_iload_n hx hb dX8_away_30 rfl (lv_at hl 5 rfl) ?_
      refine lv_iconst (v := 0) hx hb dX8_away_31 (by decide) ?_
      refine lv_iconst (v := 1) hx hb dX8_away_32 (by decide) ?_
      obtain ⟨r7, e8, h⟩ := gw_bdE h
      refine gw_callS (As := [.int x3, .int (0 : Int32), .int (1 : Int32)]) (n := 3) B hI (k_X8_isIn x3 (0 : Int32) (1 : Int32) S e8) gX8_away_X8_isIn rfl rfl rfl nds_X8_isIn ⟨Nat.le_of_ble_eq_true rfl, Nat.le_of_ble_eq_true rfl⟩ rfl hl.1 (Nat.zero_le _) dX8_away_33 ⟨Nat.le_of_ble_eq_true rfl, Nat.le_of_ble_eq_true rfl⟩ rfl (fun w' H locs hw hI => ?_)
      subst hw
      refine lv_if_ne (tgt := 41) hx hb dX8_away_36 (by decide) (fun c9 => ?_) (fun c9 => ?_)
      · replace h := gw_ifF c9 h
        refine lv_iload_n hx hb dX8_away_41 rfl (lv_at hl 5 rfl) ?_
        refine lv_if_ne (tgt := 59) hx hb dX8_away_42 (by decide) (fun c10 => ?_) (fun c10 => ?_)
        · replace h := gw_ifF c10 h
          refine lv_aload_n hx hb dX8_away_59 rfl (lv_at hl 2 rfl) ?_
          refine gw_get (T := TX8) (k := 1) (v := .ref (a 3)) B hI gc_g0 rfl ly_X8_away_8 (by decide) m_X8_away_19 rfl rfl dX8_away_60 ?_
          refine gw_aload B dX8_away_63 (lv_at hl 1 rfl) ?_
          refine gw_aload B dX8_away_65 (lv_at hl 0 rfl) ?_
          obtain ⟨r11, e12, h⟩ := gw_bdE h
          refine gw_callV (As := [va_rf (gw_rf b r1), va_rf (gw_rf d r3)]) (n := 2) B hI (k_X2_lastAway r1 r3 S e12) gX8_away_X2_lastAway rfl rfl rfl nd_X2_lastAway ⟨Nat.le_of_ble_eq_true rfl, Nat.le_of_ble_eq_true rfl⟩ gc_g3 rfl rfl rfl hl.1 (Nat.zero_le _) dX8_away_67 ⟨Nat.le_of_ble_eq_true rfl, Nat.le_of_ble_eq_true rfl⟩ rfl (fun w' H locs hw hI => ?_)
          subst hw
          rw [← Option.some.inj h]
          exact gw_iret (W' := (fun w => w = gw_cw cc a b d S)) B hI rfl (Nat.zero_le _) (Nat.zero_le _) dX8_away_70
        · replace h := gw_ifT c10 h
          refine lv_aload_n hx hb dX8_away_45 rfl (lv_at hl 2 rfl) ?_
          refine gw_get (T := TX8) (k := 1) (v := .ref (a 3)) B hI gc_g0 rfl ly_X8_away_8 (by decide) m_X8_away_19 rfl rfl dX8_away_46 ?_
          refine gw_aload B dX8_away_49 (lv_at hl 1 rfl) ?_
          refine gw_aload B dX8_away_51 (lv_at hl 0 rfl) ?_
          obtain ⟨r13, e14, h⟩ := gw_bdE h
          refine gw_callV (As := [va_rf (gw_rf b r1), va_rf (gw_rf d r3)]) (n := 2) B hI (k_X2_firstAway r1 r3 S e14) gX8_away_X2_firstAway rfl rfl rfl nd_X2_firstAway ⟨Nat.le_of_ble_eq_true rfl, Nat.le_of_ble_eq_true rfl⟩ gc_g3 rfl rfl rfl hl.1 (Nat.zero_le _) dX8_away_53 ⟨Nat.le_of_ble_eq_true rfl, Nat.le_of_ble_eq_true rfl⟩ rfl (fun w' H locs hw hI => ?_)
          subst hw
          refine lv_goto (tgt := 70) hx hb dX8_away_56 (by decide) ?_
          rw [← Option.some.inj h]
          exact gw_iret (W' := (fun w => w = gw_cw cc a b d S)) B hI rfl (Nat.zero_le _) (Nat.zero_le _) dX8_away_70
      · replace h := gw_ifT c9 h
        refine lv_iconst (v := -1) hx hb dX8_away_39 (by decide) ?_
        rw [← Option.some.inj h]
        exact gw_iret (W' := (fun w => w = gw_cw cc a b d S)) B hI rfl (Nat.zero_le _) (Nat.zero_le _) dX8_away_40
theorem m_X8_tear_19 : Cond.fieldLink RX8 19 "GownLet" "house" "LGownLet$House;" ∈ wsX8_tear := by decide +kernel
theorem ly_X8_tear_4 : ∀ w ∈ wsX40, w ∈ wsX8_tear := fun w h => List.mem_cons_of_mem _ (List.mem_append_left _ (List.mem_append_left _ (List.mem_append_right _ h)))
theorem ly_X8_tear_8 : ∀ w ∈ wsX80, w ∈ wsX8_tear := fun w h => List.mem_cons_of_mem _ (List.mem_append_left _ (List.mem_append_left _ (List.mem_append_left _ (List.mem_append_right _ h))))
set_option maxRecDepth 100000 in
set_option maxHeartbeats 4000000 in
theorem k_X8_tear (x1 : Int32) (x2 : Int32) (S : gw_S) {zr : Int32} {zS : gw_S} (h : f_X8_tear x1 x2 S = some (zr, zS)) : gw_M l yX8_tear wsX8_tear rm_X8_tear 0 0 D (gw_ty cc) t1 t2 [.ref (a 0), .int x1, .int x2] (gw_cw cc a b d S) (fun w => w = gw_cw cc a b d zS) (some (.int zr)) := by
  refine gw_enter (cc := cX8_tear) (maxL := 4) (ret := (some .int)) (own := RX8) rfl (by decide) rfl (Nat.le_of_ble_eq_true rfl) ?_
  intro p e s m below meth c A B hin hI ls hl
  have hl : lv_has ls 4 [(0, .ref (a 0)), (1, .int x1), (2, .int x2)] := hl
  generalize ([.ref (a 0), .int x1, .int x2] : List Value).toArray = args at B ⊢
  have hx := B.1.1
  have hb := B.1.2.1
  have hown : s.vm.findClass RX8 = some m.cls := B.1.2.2.2.1
  have hts := B.1.2.2.2.2
  unfold f_X8_tear at h
  refine lv_aload_n hx hb dX8_tear_0 rfl (lv_at hl 0 rfl) ?_
  refine gw_get (T := TX8) (k := 1) (v := .ref (a 3)) B hI gc_g0 rfl ly_X8_tear_8 (by decide) m_X8_tear_19 rfl rfl dX8_tear_1 ?_
  refine lv_iload_n hx hb dX8_tear_4 rfl (lv_at hl 1 rfl) ?_
  obtain ⟨r1, e2, h⟩ := gw_bdE h
  refine gw_callV (As := [.int x1]) (n := 1) B hI (k_X2_pieceAt x1 S e2) gX8_tear_X2_pieceAt rfl rfl rfl nd_X2_pieceAt ⟨Nat.le_of_ble_eq_true rfl, Nat.le_of_ble_eq_true rfl⟩ gc_g3 rfl rfl rfl hl.1 (Nat.zero_le _) dX8_tear_5 ⟨Nat.le_of_ble_eq_true rfl, Nat.le_of_ble_eq_true rfl⟩ rfl (fun w' H locs hw hI => ?_)
  subst hw
  refine gw_astore_n (lv' := [(3, va_rf (gw_rf b r1)), (0, .ref (a 0)), (1, .int x1), (2, .int x2)]) B dX8_tear_8 rfl hl (by decide) rfl (fun ls hl => ?_)
  refine gw_aload_n B dX8_tear_9 rfl (lv_at hl 0 rfl) ?_
  refine gw_ifnull (tgt := 20) B dX8_tear_10 (by decide) (fun c3 => ?_) (fun c3 => ?_)
  · replace h := gw_ifT c3 h
    refine lv_iconst (v := -1) hx hb dX8_tear_20 (by decide) ?_
    obtain ⟨h1, h2⟩ := Prod.mk.inj (Option.some.inj h)
    rw [h2] at hI
    rw [← h1]
    exact gw_iret (W' := (fun w => w = gw_cw cc a b d zS)) B hI rfl (Nat.zero_le _) (Nat.zero_le _) dX8_tear_21
  · replace h := gw_ifF c3 h
    refine lv_iload_n hx hb dX8_tear_13 rfl (lv_at hl 3 rfl) ?_
    obtain ⟨r4, e5, h⟩ := gw_bdE h
    refine gw_callS (As := [.int x2]) (n := 1) B hI (k_X8_isDay x2 S e5) gX8_tear_X8_isDay rfl rfl rfl nds_X8_isDay ⟨Nat.le_of_ble_eq_true rfl, Nat.le_of_ble_eq_true rfl⟩ rfl hl.1 (Nat.zero_le _) dX8_tear_14 ⟨Nat.le_of_ble_eq_true rfl, Nat.le_of_ble_eq_true rfl⟩ rfl (fun w' H locs hw hI => ?_)
    subst hw
    refine lv_if_ne (tgt := 22) hx hb dX8_tear_17 (by decide) (fun c6 => ?_) (fun c6 => ?_)
    · replace h := gw_ifF c6 h
      refine gw_aload_n B dX8_tear_22 rfl (lv_at hl 0 rfl) ?_
      refine lv_iload_n hx hb dX8_tear_23 rfl (lv_at hl 3 rfl) ?_
      rw [gw_rfP c3]
      obtain ⟨g7, h⟩ := gw_gdE h
      obtain ⟨r8, e9, h⟩ := gw_bdE h
      refine gw_callV (As := [.int x2]) (n := 1) B hI (k_X4_isTornBy r1 x2 S e9) gX8_tear_X4_isTornBy rfl rfl rfl nd_X4_isTornBy ⟨Nat.le_of_ble_eq_true rfl, Nat.le_of_ble_eq_true rfl⟩ (gc_gp g7) rfl rfl rfl hl.1 (Nat.zero_le _) dX8_tear_24 ⟨Nat.le_of_ble_eq_true rfl, Nat.le_of_ble_eq_true rfl⟩ rfl (fun w' H locs hw hI => ?_)
      subst hw
      refine lv_if_eq (tgt := 33) hx hb dX8_tear_27 (by decide) (fun c10 => ?_) (fun c10 => ?_)
      · replace h := gw_ifT c10 h
        refine gw_aload_n B dX8_tear_33 rfl (lv_at hl 0 rfl) ?_
        refine lv_iload_n hx hb dX8_tear_34 rfl (lv_at hl 3 rfl) ?_
        rw [gw_rfP c3]
        obtain ⟨S11, e12, h⟩ := gw_letE h
        refine gw_putN (T := TX4) (k := 10) (w' := gw_cw cc a b d S11) B hI (gc_gp g7) rfl ly_X8_tear_4 tyX4 tyX4_ok nmX4 (by decide) n_RX8_207 rfl rfl rfl rfl (Nat.le_of_ble_eq_true rfl) (gc_sp_10 g7 e12) dX8_tear_35 (fun H locs hI => ?_)
        refine lv_aload_n hx hb dX8_tear_38 rfl (lv_at hl 1 rfl) ?_
        refine gw_get (T := TX8) (k := 1) (v := .ref (a 3)) B hI gc_g0 rfl ly_X8_tear_8 (by decide) m_X8_tear_19 rfl rfl dX8_tear_39 ?_
        refine gw_aload_n B dX8_tear_42 rfl (lv_at hl 0 rfl) ?_
        refine lv_iload_n hx hb dX8_tear_43 rfl (lv_at hl 3 rfl) ?_
        obtain ⟨r13, S14, e15, h⟩ := gw_b2E h
        refine gw_callV (As := [va_rf (gw_rf b r1), .int x2]) (n := 2) B hI (k_X2_takeFromNights r1 x2 S11 e15) gX8_tear_X2_takeFromNights rfl rfl rfl nd_X2_takeFromNights ⟨Nat.le_of_ble_eq_true rfl, Nat.le_of_ble_eq_true rfl⟩ gc_g3 rfl rfl rfl hl.1 (Nat.zero_le _) dX8_tear_44 ⟨Nat.le_of_ble_eq_true rfl, Nat.le_of_ble_eq_true rfl⟩ rfl (fun w' H locs hw hI => ?_)
        subst hw
        obtain ⟨h1, h2⟩ := Prod.mk.inj (Option.some.inj h)
        rw [h2] at hI
        rw [← h1]
        exact gw_iret (W' := (fun w => w = gw_cw cc a b d zS)) B hI rfl (Nat.zero_le _) (Nat.zero_le _) dX8_tear_47
      · replace h := gw_ifF c10 h
        refine lv_bipush (v := -2) hx hb dX8_tear_30 (by decide) ?_
        obtain ⟨h1, h2⟩ := Prod.mk.inj (Option.some.inj h)
        rw [h2] at hI
        rw [← h1]
        exact gw_iret (W' := (fun w => w = gw_cw cc a b d zS)) B hI rfl (Nat.zero_le _) (Nat.zero_le _) dX8_tear_32
    · replace h := gw_ifT c6 h
      refine lv_iconst (v := -1) hx hb dX8_tear_20 (by decide) ?_
      obtain ⟨h1, h2⟩ := Prod.mk.inj (Option.some.inj h)
      rw [h2] at hI
      rw [← h1]
      exact gw_iret (W' := (fun w => w = gw_cw cc a b d zS)) B hI rfl (Nat.zero_le _) (Nat.zero_le _) dX8_tear_21
theorem m_X8_mend_19 : Cond.fieldLink RX8 19 "GownLet" "house" "LGownLet$House;" ∈ wsX8_mend := by decide +kernel
theorem ly_X8_mend_4 : ∀ w ∈ wsX40, w ∈ wsX8_mend := fun w h => List.mem_cons_of_mem _ (List.mem_append_left _ (List.mem_append_right _ h))
theorem ly_X8_mend_8 : ∀ w ∈ wsX80, w ∈ wsX8_mend := fun w h => List.mem_cons_of_mem _ (List.mem_append_left _ (List.mem_append_left _ (List.mem_append_right _ h)))
set_option maxRecDepth 100000 in
set_option maxHeartbeats 4000000 in
theorem k_X8_mend (x1 : Int32) (S : gw_S) {zr : Int32} {zS : gw_S} (h : f_X8_mend x1 S = some (zr, zS)) : gw_M l yX8_mend wsX8_mend rm_X8_mend 0 0 D (gw_ty cc) t1 t2 [.ref (a 0), .int x1] (gw_cw cc a b d S) (fun w => w = gw_cw cc a b d zS) (some (.int zr)) := by
  refine gw_enter (cc := cX8_mend) (maxL := 3) (ret := (some .int)) (own := RX8) rfl (by decide) rfl (Nat.le_of_ble_eq_true rfl) ?_
  intro p e s m below meth c A B hin hI ls hl
  have hl : lv_has ls 3 [(0, .ref (a 0)), (1, .int x1)] := hl
  generalize ([.ref (a 0), .int x1] : List Value).toArray = args at B ⊢
  have hx := B.1.1
  have hb := B.1.2.1
  have hown : s.vm.findClass RX8 = some m.cls := B.1.2.2.2.1
  have hts := B.1.2.2.2.2
  unfold f_X8_mend at h
  refine lv_aload_n hx hb dX8_mend_0 rfl (lv_at hl 0 rfl) ?_
  refine gw_get (T := TX8) (k := 1) (v := .ref (a 3)) B hI gc_g0 rfl ly_X8_mend_8 (by decide) m_X8_mend_19 rfl rfl dX8_mend_1 ?_
  refine lv_iload_n hx hb dX8_mend_4 rfl (lv_at hl 1 rfl) ?_
  obtain ⟨r1, e2, h⟩ := gw_bdE h
  refine gw_callV (As := [.int x1]) (n := 1) B hI (k_X2_pieceAt x1 S e2) gX8_mend_X2_pieceAt rfl rfl rfl nd_X2_pieceAt ⟨Nat.le_of_ble_eq_true rfl, Nat.le_of_ble_eq_true rfl⟩ gc_g3 rfl rfl rfl hl.1 (Nat.zero_le _) dX8_mend_5 ⟨Nat.le_of_ble_eq_true rfl, Nat.le_of_ble_eq_true rfl⟩ rfl (fun w' H locs hw hI => ?_)
  subst hw
  refine gw_astore_n (lv' := [(2, va_rf (gw_rf b r1)), (0, .ref (a 0)), (1, .int x1)]) B dX8_mend_8 rfl hl (by decide) rfl (fun ls hl => ?_)
  refine gw_aload_n B dX8_mend_9 rfl (lv_at hl 0 rfl) ?_
  refine gw_ifnonnull (tgt := 15) B dX8_mend_10 (by decide) (fun c3 => ?_) (fun c3 => ?_)
  · replace h := gw_ifF c3 h
    refine gw_aload_n B dX8_mend_15 rfl (lv_at hl 0 rfl) ?_
    rw [gw_rfP c3]
    obtain ⟨g4, h⟩ := gw_gdE h
    obtain ⟨r5, e6, h⟩ := gw_bdE h
    refine gw_callV (As := []) (n := 0) B hI (k_X4_isTorn r1 S e6) gX8_mend_X4_isTorn rfl rfl rfl nd_X4_isTorn ⟨Nat.le_of_ble_eq_true rfl, Nat.le_of_ble_eq_true rfl⟩ (gc_gp g4) rfl rfl rfl hl.1 (Nat.zero_le _) dX8_mend_16 ⟨Nat.le_of_ble_eq_true rfl, Nat.le_of_ble_eq_true rfl⟩ rfl (fun w' H locs hw hI => ?_)
    subst hw
    refine lv_if_ne (tgt := 25) hx hb dX8_mend_19 (by decide) (fun c7 => ?_) (fun c7 => ?_)
    · replace h := gw_ifF c7 h
      refine gw_aload_n B dX8_mend_25 rfl (lv_at hl 0 rfl) ?_
      refine lv_bipush (v := -4) hx hb dX8_mend_26 (by decide) ?_
      rw [gw_rfP c3]
      obtain ⟨S8, e9, h⟩ := gw_letE h
      refine gw_putN (T := TX4) (k := 10) (w' := gw_cw cc a b d S8) B hI (gc_gp g4) rfl ly_X8_mend_4 tyX4 tyX4_ok nmX4 (by decide) n_RX8_207 rfl rfl rfl rfl (Nat.le_of_ble_eq_true rfl) (gc_sp_10 g4 e9) dX8_mend_28 (fun H locs hI => ?_)
      refine lv_iconst (v := 1) hx hb dX8_mend_31 (by decide) ?_
      obtain ⟨h1, h2⟩ := Prod.mk.inj (Option.some.inj h)
      rw [h2] at hI
      rw [← h1]
      exact gw_iret (W' := (fun w => w = gw_cw cc a b d zS)) B hI rfl (Nat.zero_le _) (Nat.zero_le _) dX8_mend_32
    · replace h := gw_ifT c7 h
      refine lv_bipush (v := -2) hx hb dX8_mend_22 (by decide) ?_
      obtain ⟨h1, h2⟩ := Prod.mk.inj (Option.some.inj h)
      rw [h2] at hI
      rw [← h1]
      exact gw_iret (W' := (fun w => w = gw_cw cc a b d zS)) B hI rfl (Nat.zero_le _) (Nat.zero_le _) dX8_mend_24
  · replace h := gw_ifT c3 h
    refine lv_iconst (v := -1) hx hb dX8_mend_13 (by decide) ?_
    obtain ⟨h1, h2⟩ := Prod.mk.inj (Option.some.inj h)
    rw [h2] at hI
    rw [← h1]
    exact gw_iret (W' := (fun w => w = gw_cw cc a b d zS)) B hI rfl (Nat.zero_le _) (Nat.zero_le _) dX8_mend_14
theorem m_X8_chain_19 : Cond.fieldLink RX8 19 "GownLet" "house" "LGownLet$House;" ∈ wsX8_chain := by decide +kernel
theorem m_X8_chain_28 : Cond.fieldLink RX8 28 "GownLet" "chain" "LGownLet$Chain;" ∈ wsX8_chain := by decide +kernel
theorem ly_X8_chain_8 : ∀ w ∈ wsX80, w ∈ wsX8_chain := fun w h => List.mem_cons_of_mem _ (List.mem_append_left _ (List.mem_append_left _ (List.mem_append_left _ (List.mem_append_left _ (List.mem_append_left _ (List.mem_append_left _ (List.mem_append_right _ h)))))))
set_option maxRecDepth 100000 in
set_option maxHeartbeats 4000000 in
theorem k_X8_chain (x1 : Int32) (S : gw_S) {zr : Int32} {zS : gw_S} (h : f_X8_chain x1 S = some (zr, zS)) : gw_M l yX8_chain wsX8_chain rm_X8_chain 0 0 D (gw_ty cc) t1 t2 [.ref (a 0), .int x1] (gw_cw cc a b d S) (fun w => w = gw_cw cc a b d zS) (some (.int zr)) := by
  refine gw_enter (cc := cX8_chain) (maxL := 3) (ret := (some .int)) (own := RX8) rfl (by decide) rfl (Nat.le_of_ble_eq_true rfl) ?_
  intro p e s m below meth c A B hin hI ls hl
  have hl : lv_has ls 3 [(0, .ref (a 0)), (1, .int x1)] := hl
  generalize ([.ref (a 0), .int x1] : List Value).toArray = args at B ⊢
  have hx := B.1.1
  have hb := B.1.2.1
  have hown : s.vm.findClass RX8 = some m.cls := B.1.2.2.2.1
  have hts := B.1.2.2.2.2
  unfold f_X8_chain at h
  refine lv_aload_n hx hb dX8_chain_0 rfl (lv_at hl 0 rfl) ?_
  refine gw_get (T := TX8) (k := 1) (v := .ref (a 3)) B hI gc_g0 rfl ly_X8_chain_8 (by decide) m_X8_chain_19 rfl rfl dX8_chain_1 ?_
  refine lv_iload_n hx hb dX8_chain_4 rfl (lv_at hl 1 rfl) ?_
  obtain ⟨r1, e2, h⟩ := gw_bdE h
  refine gw_callV (As := [.int x1]) (n := 1) B hI (k_X2_bookingAt x1 S e2) gX8_chain_X2_bookingAt rfl rfl rfl nd_X2_bookingAt ⟨Nat.le_of_ble_eq_true rfl, Nat.le_of_ble_eq_true rfl⟩ gc_g3 rfl rfl rfl hl.1 (Nat.zero_le _) dX8_chain_5 ⟨Nat.le_of_ble_eq_true rfl, Nat.le_of_ble_eq_true rfl⟩ rfl (fun w' H locs hw hI => ?_)
  subst hw
  refine gw_astore_n (lv' := [(2, va_rf (gw_rf d r1)), (0, .ref (a 0)), (1, .int x1)]) B dX8_chain_8 rfl hl (by decide) rfl (fun ls hl => ?_)
  refine gw_aload_n B dX8_chain_9 rfl (lv_at hl 0 rfl) ?_
  refine gw_ifnonnull (tgt := 15) B dX8_chain_10 (by decide) (fun c3 => ?_) (fun c3 => ?_)
  · replace h := gw_ifF c3 h
    refine gw_aload_n B dX8_chain_15 rfl (lv_at hl 0 rfl) ?_
    rw [gw_rfP c3]
    obtain ⟨g4, h⟩ := gw_gdE h
    obtain ⟨r5, e6, h⟩ := gw_bdE h
    refine gw_callV (As := []) (n := 0) B hI (k_X0_waits r1 S e6) gX8_chain_X0_waits rfl rfl rfl nd_X0_waits ⟨Nat.le_of_ble_eq_true rfl, Nat.le_of_ble_eq_true rfl⟩ (gc_gb g4) rfl rfl rfl hl.1 (Nat.zero_le _) dX8_chain_16 ⟨Nat.le_of_ble_eq_true rfl, Nat.le_of_ble_eq_true rfl⟩ rfl (fun w' H locs hw hI => ?_)
    subst hw
    refine lv_if_eq (tgt := 33) hx hb dX8_chain_19 (by decide) (fun c7 => ?_) (fun c7 => ?_)
    · replace h := gw_ifT c7 h
      refine lv_bipush (v := -2) hx hb dX8_chain_33 (by decide) ?_
      obtain ⟨h1, h2⟩ := Prod.mk.inj (Option.some.inj h)
      rw [h2] at hI
      rw [← h1]
      exact gw_iret (W' := (fun w => w = gw_cw cc a b d zS)) B hI rfl (Nat.zero_le _) (Nat.zero_le _) dX8_chain_35
    · replace h := gw_ifF c7 h
      refine lv_aload_n hx hb dX8_chain_22 rfl (lv_at hl 1 rfl) ?_
      refine gw_get (T := TX8) (k := 2) (v := .ref (a 15)) B hI gc_g0 rfl ly_X8_chain_8 (by decide) m_X8_chain_28 rfl rfl dX8_chain_23 ?_
      refine gw_aload_n B dX8_chain_26 rfl (lv_at hl 0 rfl) ?_
      obtain ⟨r8, S9, e10, h⟩ := gw_b2E h
      refine gw_callV (As := [va_rf (gw_rf d r1)]) (n := 1) B hI (k_X1_find r1 S e10) gX8_chain_X1_find rfl rfl rfl nd_X1_find ⟨Nat.le_of_ble_eq_true rfl, Nat.le_of_ble_eq_true rfl⟩ gc_g15 rfl rfl rfl hl.1 (Nat.zero_le _) dX8_chain_27 ⟨Nat.le_of_ble_eq_true rfl, Nat.le_of_ble_eq_true rfl⟩ rfl (fun w' H locs hw hI => ?_)
      subst hw
      refine lv_goto (tgt := 35) hx hb dX8_chain_30 (by decide) ?_
      obtain ⟨h1, h2⟩ := Prod.mk.inj (Option.some.inj h)
      rw [h2] at hI
      rw [← h1]
      exact gw_iret (W' := (fun w => w = gw_cw cc a b d zS)) B hI rfl (Nat.zero_le _) (Nat.zero_le _) dX8_chain_35
  · replace h := gw_ifT c3 h
    refine lv_iconst (v := -1) hx hb dX8_chain_13 (by decide) ?_
    obtain ⟨h1, h2⟩ := Prod.mk.inj (Option.some.inj h)
    rw [h2] at hI
    rw [← h1]
    exact gw_iret (W' := (fun w => w = gw_cw cc a b d zS)) B hI rfl (Nat.zero_le _) (Nat.zero_le _) dX8_chain_14
theorem m_X8_link_28 : Cond.fieldLink RX8 28 "GownLet" "chain" "LGownLet$Chain;" ∈ wsX8_link := by decide +kernel
theorem ly_X8_link_8 : ∀ w ∈ wsX80, w ∈ wsX8_link := fun w h => List.mem_cons_of_mem _ (List.mem_append_left _ (List.mem_append_left _ (List.mem_append_left _ (List.mem_append_left _ (List.mem_append_left _ (List.mem_append_left _ (List.mem_append_right _ h)))))))
set_option maxRecDepth 100000 in
set_option maxHeartbeats 4000000 in
theorem k_X8_link (x1 : Int32) (x2 : Int32) (x3 : Int32) (S : gw_S) {zr : Int32} {zS : gw_S} (h : f_X8_link x1 x2 x3 S = some (zr, zS)) : gw_M l yX8_link wsX8_link rm_X8_link 0 0 D (gw_ty cc) t1 t2 [.ref (a 0), .int x1, .int x2, .int x3] (gw_cw cc a b d S) (fun w => w = gw_cw cc a b d zS) (some (.int zr)) := by
  refine gw_enter (cc := cX8_link) (maxL := 5) (ret := (some .int)) (own := RX8) rfl (by decide) rfl (Nat.le_of_ble_eq_true rfl) ?_
  intro p e s m below meth c A B hin hI ls hl
  have hl : lv_has ls 5 [(0, .ref (a 0)), (1, .int x1), (2, .int x2), (3, .int x3)] := hl
  generalize ([.ref (a 0), .int x1, .int x2, .int x3] : List Value).toArray = args at B ⊢
  have hx := B.1.1
  have hb := B.1.2.1
  have hown : s.vm.findClass RX8 = some m.cls := B.1.2.2.2.1
  have hts := B.1.2.2.2.2
  unfold f_X8_link at h
  refine lv_iload_n hx hb dX8_link_0 rfl (lv_at hl 2 rfl) ?_
  refine lv_if_lt (tgt := 13) hx hb dX8_link_1 (by decide) (fun c1 => ?_) (fun c1 => ?_)
  · replace h := gw_ifT c1 h
    refine lv_iconst (v := -1) hx hb dX8_link_13 (by decide) ?_
    obtain ⟨h1, h2⟩ := Prod.mk.inj (Option.some.inj h)
    rw [h2] at hI
    rw [← h1]
    exact gw_iret (W' := (fun w => w = gw_cw cc a b d zS)) B hI rfl (Nat.zero_le _) (Nat.zero_le _) dX8_link_14
  · replace h := gw_ifF c1 h
    refine lv_iload_n hx hb dX8_link_4 rfl (lv_at hl 3 rfl) ?_
    refine lv_iconst (v := 0) hx hb dX8_link_5 (by decide) ?_
    refine lv_iconst (v := 1) hx hb dX8_link_6 (by decide) ?_
    obtain ⟨r2, e3, h⟩ := gw_bdE h
    refine gw_callS (As := [.int x3, .int (0 : Int32), .int (1 : Int32)]) (n := 3) B hI (k_X8_isIn x3 (0 : Int32) (1 : Int32) S e3) gX8_link_X8_isIn rfl rfl rfl nds_X8_isIn ⟨Nat.le_of_ble_eq_true rfl, Nat.le_of_ble_eq_true rfl⟩ rfl hl.1 (Nat.zero_le _) dX8_link_7 ⟨Nat.le_of_ble_eq_true rfl, Nat.le_of_ble_eq_true rfl⟩ rfl (fun w' H locs hw hI => ?_)
    subst hw
    refine lv_if_ne (tgt := 15) hx hb dX8_link_10 (by decide) (fun c4 => ?_) (fun c4 => ?_)
    · replace h := gw_ifF c4 h
      refine lv_aload_n hx hb dX8_link_15 rfl (lv_at hl 0 rfl) ?_
      refine lv_iload_n hx hb dX8_link_16 rfl (lv_at hl 1 rfl) ?_
      obtain ⟨r5, S6, e7, h⟩ := gw_b2E h
      refine gw_callV (As := [.int x1]) (n := 1) B hI (k_X8_chain x1 S e7) gX8_link_X8_chain rfl rfl rfl nd_X8_chain ⟨Nat.le_of_ble_eq_true rfl, Nat.le_of_ble_eq_true rfl⟩ gc_g0 rfl rfl rfl hl.1 (Nat.zero_le _) dX8_link_17 ⟨Nat.le_of_ble_eq_true rfl, Nat.le_of_ble_eq_true rfl⟩ rfl (fun w' H locs hw hI => ?_)
      subst hw
      refine lv_istore (lv' := [(4, .int r5), (0, .ref (a 0)), (1, .int x1), (2, .int x2), (3, .int x3)]) hx hb dX8_link_20 hl (by decide) rfl (fun ls hl => ?_)
      refine lv_iload hx hb dX8_link_22 (lv_at hl 0 rfl) ?_
      refine lv_if_ge (tgt := 30) hx hb dX8_link_24 (by decide) (fun c8 => ?_) (fun c8 => ?_)
      · replace h := gw_ifT c8 h
        refine lv_iload_n hx hb dX8_link_30 rfl (lv_at hl 3 rfl) ?_
        refine lv_iload hx hb dX8_link_31 (lv_at hl 0 rfl) ?_
        refine lv_icmp_lt (tgt := 38) hx hb dX8_link_33 (by decide) (fun c9 => ?_) (fun c9 => ?_)
        · replace h := gw_ifT c9 h
          refine lv_iload_n hx hb dX8_link_38 rfl (lv_at hl 4 rfl) ?_
          refine lv_if_ne (tgt := 53) hx hb dX8_link_39 (by decide) (fun c10 => ?_) (fun c10 => ?_)
          · replace h := gw_ifF c10 h
            refine lv_aload_n hx hb dX8_link_53 rfl (lv_at hl 1 rfl) ?_
            refine gw_get (T := TX8) (k := 2) (v := .ref (a 15)) B hI gc_g0 rfl ly_X8_link_8 (by decide) m_X8_link_28 rfl rfl dX8_link_54 ?_
            refine lv_iload_n hx hb dX8_link_57 rfl (lv_at hl 3 rfl) ?_
            obtain ⟨r11, e12, h⟩ := gw_bdE h
            refine gw_callV (As := [.int x2]) (n := 1) B hI (k_X1_pieceIn x2 S6 e12) gX8_link_X1_pieceIn rfl rfl rfl nd_X1_pieceIn ⟨Nat.le_of_ble_eq_true rfl, Nat.le_of_ble_eq_true rfl⟩ gc_g15 rfl rfl rfl hl.1 (Nat.zero_le _) dX8_link_58 ⟨Nat.le_of_ble_eq_true rfl, Nat.le_of_ble_eq_true rfl⟩ rfl (fun w' H locs hw hI => ?_)
            subst hw
            obtain ⟨h1, h2⟩ := Prod.mk.inj (Option.some.inj h)
            rw [h2] at hI
            rw [← h1]
            exact gw_iret (W' := (fun w => w = gw_cw cc a b d zS)) B hI rfl (Nat.zero_le _) (Nat.zero_le _) dX8_link_61
          · replace h := gw_ifT c10 h
            refine lv_aload_n hx hb dX8_link_42 rfl (lv_at hl 1 rfl) ?_
            refine gw_get (T := TX8) (k := 2) (v := .ref (a 15)) B hI gc_g0 rfl ly_X8_link_8 (by decide) m_X8_link_28 rfl rfl dX8_link_43 ?_
            refine lv_iload_n hx hb dX8_link_46 rfl (lv_at hl 3 rfl) ?_
            obtain ⟨r13, e14, h⟩ := gw_bdE h
            refine gw_callV (As := [.int x2]) (n := 1) B hI (k_X1_bookingIn x2 S6 e14) gX8_link_X1_bookingIn rfl rfl rfl nd_X1_bookingIn ⟨Nat.le_of_ble_eq_true rfl, Nat.le_of_ble_eq_true rfl⟩ gc_g15 rfl rfl rfl hl.1 (Nat.zero_le _) dX8_link_47 ⟨Nat.le_of_ble_eq_true rfl, Nat.le_of_ble_eq_true rfl⟩ rfl (fun w' H locs hw hI => ?_)
            subst hw
            refine lv_goto (tgt := 61) hx hb dX8_link_50 (by decide) ?_
            obtain ⟨h1, h2⟩ := Prod.mk.inj (Option.some.inj h)
            rw [h2] at hI
            rw [← h1]
            exact gw_iret (W' := (fun w => w = gw_cw cc a b d zS)) B hI rfl (Nat.zero_le _) (Nat.zero_le _) dX8_link_61
        · replace h := gw_ifF c9 h
          refine lv_iconst (v := -1) hx hb dX8_link_36 (by decide) ?_
          obtain ⟨h1, h2⟩ := Prod.mk.inj (Option.some.inj h)
          rw [h2] at hI
          rw [← h1]
          exact gw_iret (W' := (fun w => w = gw_cw cc a b d zS)) B hI rfl (Nat.zero_le _) (Nat.zero_le _) dX8_link_37
      · replace h := gw_ifF c8 h
        refine lv_iload hx hb dX8_link_27 (lv_at hl 0 rfl) ?_
        obtain ⟨h1, h2⟩ := Prod.mk.inj (Option.some.inj h)
        rw [h2] at hI
        rw [← h1]
        exact gw_iret (W' := (fun w => w = gw_cw cc a b d zS)) B hI rfl (Nat.zero_le _) (Nat.zero_le _) dX8_link_29
    · replace h := gw_ifT c4 h
      refine lv_iconst (v := -1) hx hb dX8_link_13 (by decide) ?_
      obtain ⟨h1, h2⟩ := Prod.mk.inj (Option.some.inj h)
      rw [h2] at hI
      rw [← h1]
      exact gw_iret (W' := (fun w => w = gw_cw cc a b d zS)) B hI rfl (Nat.zero_le _) (Nat.zero_le _) dX8_link_14
theorem m_X8_swap_28 : Cond.fieldLink RX8 28 "GownLet" "chain" "LGownLet$Chain;" ∈ wsX8_swap := by decide +kernel
theorem ly_X8_swap_8 : ∀ w ∈ wsX80, w ∈ wsX8_swap := fun w h => List.mem_cons_of_mem _ (List.mem_append_left _ (List.mem_append_left _ (List.mem_append_left _ (List.mem_append_left _ (List.mem_append_left _ (List.mem_append_left _ (List.mem_append_right _ h)))))))
set_option maxRecDepth 100000 in
set_option maxHeartbeats 4000000 in
theorem k_X8_swap (x1 : Int32) (S : gw_S) {zr : Int32} {zS : gw_S} (h : f_X8_swap x1 S = some (zr, zS)) : gw_M l yX8_swap wsX8_swap rm_X8_swap 0 0 D (gw_ty cc) t1 t2 [.ref (a 0), .int x1] (gw_cw cc a b d S) (fun w => w = gw_cw cc a b d zS) (some (.int zr)) := by
  refine gw_enter (cc := cX8_swap) (maxL := 3) (ret := (some .int)) (own := RX8) rfl (by decide) rfl (Nat.le_of_ble_eq_true rfl) ?_
  intro p e s m below meth c A B hin hI ls hl
  have hl : lv_has ls 3 [(0, .ref (a 0)), (1, .int x1)] := hl
  generalize ([.ref (a 0), .int x1] : List Value).toArray = args at B ⊢
  have hx := B.1.1
  have hb := B.1.2.1
  have hown : s.vm.findClass RX8 = some m.cls := B.1.2.2.2.1
  have hts := B.1.2.2.2.2
  unfold f_X8_swap at h
  refine lv_aload_n hx hb dX8_swap_0 rfl (lv_at hl 0 rfl) ?_
  refine lv_iload_n hx hb dX8_swap_1 rfl (lv_at hl 1 rfl) ?_
  obtain ⟨r1, S2, e3, h⟩ := gw_b2E h
  refine gw_callV (As := [.int x1]) (n := 1) B hI (k_X8_chain x1 S e3) gX8_swap_X8_chain rfl rfl rfl nd_X8_chain ⟨Nat.le_of_ble_eq_true rfl, Nat.le_of_ble_eq_true rfl⟩ gc_g0 rfl rfl rfl hl.1 (Nat.zero_le _) dX8_swap_2 ⟨Nat.le_of_ble_eq_true rfl, Nat.le_of_ble_eq_true rfl⟩ rfl (fun w' H locs hw hI => ?_)
  subst hw
  refine lv_istore_n (lv' := [(2, .int r1), (0, .ref (a 0)), (1, .int x1)]) hx hb dX8_swap_5 rfl hl (by decide) rfl (fun ls hl => ?_)
  refine lv_iload_n hx hb dX8_swap_6 rfl (lv_at hl 0 rfl) ?_
  refine lv_if_le (tgt := 17) hx hb dX8_swap_7 (by decide) (fun c4 => ?_) (fun c4 => ?_)
  · replace h := gw_ifT c4 h
    refine lv_iload_n hx hb dX8_swap_17 rfl (lv_at hl 0 rfl) ?_
    obtain ⟨h1, h2⟩ := Prod.mk.inj (Option.some.inj h)
    rw [h2] at hI
    rw [← h1]
    exact gw_iret (W' := (fun w => w = gw_cw cc a b d zS)) B hI rfl (Nat.zero_le _) (Nat.zero_le _) dX8_swap_18
  · replace h := gw_ifF c4 h
    refine lv_aload_n hx hb dX8_swap_10 rfl (lv_at hl 1 rfl) ?_
    refine gw_get (T := TX8) (k := 2) (v := .ref (a 15)) B hI gc_g0 rfl ly_X8_swap_8 (by decide) m_X8_swap_28 rfl rfl dX8_swap_11 ?_
    obtain ⟨S5, e6, h⟩ := gw_bdE h
    refine gw_callVv (As := []) (n := 0) B hI (k_X1_perform  S2 e6) gX8_swap_X1_perform rfl rfl rfl nd_X1_perform ⟨Nat.le_of_ble_eq_true rfl, Nat.le_of_ble_eq_true rfl⟩ gc_g15 rfl rfl rfl hl.1 (Nat.zero_le _) dX8_swap_14 ⟨Nat.le_of_ble_eq_true rfl, Nat.le_of_ble_eq_true rfl⟩ rfl (fun w' H locs hw hI => ?_)
    subst hw
    refine lv_iload_n hx hb dX8_swap_17 rfl (lv_at hl 0 rfl) ?_
    obtain ⟨h1, h2⟩ := Prod.mk.inj (Option.some.inj h)
    rw [h2] at hI
    rw [← h1]
    exact gw_iret (W' := (fun w => w = gw_cw cc a b d zS)) B hI rfl (Nat.zero_le _) (Nat.zero_le _) dX8_swap_18
theorem m_X8_match_19 : Cond.fieldLink RX8 19 "GownLet" "house" "LGownLet$House;" ∈ wsX8_match := by decide +kernel
theorem ly_X8_match_8 : ∀ w ∈ wsX80, w ∈ wsX8_match := fun w h => List.mem_cons_of_mem _ (List.mem_append_left _ (List.mem_append_left _ (List.mem_append_left _ (List.mem_append_left _ (List.mem_append_left _ (List.mem_append_right _ h))))))
set_option maxRecDepth 100000 in
set_option maxHeartbeats 4000000 in
theorem k_X8_match (x1 : Int32) (x2 : Int32) (S : gw_S) {zr : Int32} {zS : gw_S} (h : f_X8_match x1 x2 S = some (zr, zS)) : gw_M l yX8_match wsX8_match rm_X8_match 0 0 D (gw_ty cc) t1 t2 [.ref (a 0), .int x1, .int x2] (gw_cw cc a b d S) (fun w => w = gw_cw cc a b d zS) (some (.int zr)) := by
  refine gw_enter (cc := cX8_match) (maxL := 8) (ret := (some .int)) (own := RX8) rfl (by decide) rfl (Nat.le_of_ble_eq_true rfl) ?_
  intro p e s m below meth c A B hin hI ls hl
  have hl : lv_has ls 8 [(0, .ref (a 0)), (1, .int x1), (2, .int x2)] := hl
  generalize ([.ref (a 0), .int x1, .int x2] : List Value).toArray = args at B ⊢
  have hx := B.1.1
  have hb := B.1.2.1
  have hown : s.vm.findClass RX8 = some m.cls := B.1.2.2.2.1
  have hts := B.1.2.2.2.2
  have hb86 : ∀ (K52 : Int32 → Int32 → Int32 → Int32 → Int32 → gw_S → Option (Int32 × gw_S)) (_ : ∀ (v1 : Int32) (v2 : Int32) (v4 : Int32) (v5 : Int32) (v6 : Int32) (S : gw_S), K52 v1 v2 v4 v5 v6 S = some (zr, zS) → ∀ (H : Heap) (locs : List Loc) (ls : Array Slot), gw_I D A s.heap (gw_cw cc a b d S) H locs → lv_has ls 8 [(0, .ref (a 0)), (1, .int v1), (2, .int v2), (4, .int v4), (5, .int v5), (6, .int v6)] → W p l e rm_X8_match s m args below meth c H locs 0 0 (MQ below (gw_Q (some (.int zr)) (gw_Pst D A (fun w => w = gw_cw cc a b d zS)) A) args s 0 0 A) (F0 m 52 ls [])), ∀ (v1 : Int32) (v2 : Int32) (v4 : Int32) (v5 : Int32) (v6 : Int32) (S : gw_S), f_X8_match_b86 K52 v1 v2 v4 v5 v6 S = some (zr, zS) → ∀ (H : Heap) (locs : List Loc) (ls : Array Slot), gw_I D A s.heap (gw_cw cc a b d S) H locs → lv_has ls 8 [(0, .ref (a 0)), (1, .int v1), (2, .int v2), (4, .int v4), (5, .int v5), (6, .int v6)] → W p l e rm_X8_match s m args below meth c H locs 0 0 (MQ below (gw_Q (some (.int zr)) (gw_Pst D A (fun w => w = gw_cw cc a b d zS)) A) args s 0 0 A) (F0 m 86 ls []) := by
    intro K52 hK52
    intro v1 v2 v4 v5 v6 S h H locs ls hI hl
    unfold f_X8_match_b86 at h
    obtain ⟨y1, e2, h⟩ := gw_letE h
    refine lv_iinc (v := y1) (lv' := [(6, .int y1), (0, .ref (a 0)), (1, .int v1), (2, .int v2), (4, .int v4), (5, .int v5)]) hx hb dX8_match_86 hl (k := 5) rfl (by rw [e2]; rfl) (by decide) rfl (fun ls hl => ?_)
    refine lv_goto (tgt := 52) hx hb dX8_match_89 (by decide) ?_
    exact hK52 v1 v2 v4 v5 y1 S h _ _ _ hI (lv_sub hl [1, 2, 3, 4, 5, 0] rfl)
  have hb52 :  ∀ (n : Nat), ∀ (v1 : Int32) (v2 : Int32) (v4 : Int32) (v5 : Int32) (v6 : Int32) (S : gw_S), f_X8_match_b52  n v1 v2 v4 v5 v6 S = some (zr, zS) → ∀ (H : Heap) (locs : List Loc) (ls : Array Slot), gw_I D A s.heap (gw_cw cc a b d S) H locs → lv_has ls 8 [(0, .ref (a 0)), (1, .int v1), (2, .int v2), (4, .int v4), (5, .int v5), (6, .int v6)] → W p l e rm_X8_match s m args below meth c H locs 0 0 (MQ below (gw_Q (some (.int zr)) (gw_Pst D A (fun w => w = gw_cw cc a b d zS)) A) args s 0 0 A) (F0 m 52 ls []) := by
    intro n
    induction n with
    | zero =>
      intro v1 v2 v4 v5 v6 S h
      cases h
    | succ n ih =>
      intro v1 v2 v4 v5 v6 S h H locs ls hI hl
      unfold f_X8_match_b52 at h
      refine lv_iload hx hb dX8_match_52 (lv_at hl 5 rfl) ?_
      refine lv_bipush (v := 9) hx hb dX8_match_54 (by decide) ?_
      refine lv_icmp_gt (tgt := 92) hx hb dX8_match_56 (by decide) (fun c3 => ?_) (fun c3 => ?_)
      · replace h := gw_ifT c3 h
        refine lv_iload_n hx hb dX8_match_92 rfl (lv_at hl 2 rfl) ?_
        refine lv_if_ne (tgt := 101) hx hb dX8_match_93 (by decide) (fun c4 => ?_) (fun c4 => ?_)
        · replace h := gw_ifF c4 h
          refine lv_iload hx hb dX8_match_101 (lv_at hl 4 rfl) ?_
          obtain ⟨h1, h2⟩ := Prod.mk.inj (Option.some.inj h)
          rw [h2] at hI
          rw [← h1]
          exact gw_iret (W' := (fun w => w = gw_cw cc a b d zS)) B hI rfl (Nat.zero_le _) (Nat.zero_le _) dX8_match_103
        · replace h := gw_ifT c4 h
          refine lv_iload hx hb dX8_match_96 (lv_at hl 3 rfl) ?_
          refine lv_goto (tgt := 103) hx hb dX8_match_98 (by decide) ?_
          obtain ⟨h1, h2⟩ := Prod.mk.inj (Option.some.inj h)
          rw [h2] at hI
          rw [← h1]
          exact gw_iret (W' := (fun w => w = gw_cw cc a b d zS)) B hI rfl (Nat.zero_le _) (Nat.zero_le _) dX8_match_103
      · replace h := gw_ifF c3 h
        refine lv_aload_n hx hb dX8_match_59 rfl (lv_at hl 0 rfl) ?_
        refine gw_get (T := TX8) (k := 1) (v := .ref (a 3)) B hI gc_g0 rfl ly_X8_match_8 (by decide) m_X8_match_19 rfl rfl dX8_match_60 ?_
        refine lv_iload_n hx hb dX8_match_63 rfl (lv_at hl 1 rfl) ?_
        refine lv_iload hx hb dX8_match_64 (lv_at hl 5 rfl) ?_
        obtain ⟨r5, S6, e7, h⟩ := gw_b2E h
        refine gw_callV (As := [.int v1, .int v6]) (n := 2) B hI (k_X2_matchedIn v1 v6 S e7) gX8_match_X2_matchedIn rfl rfl rfl nd_X2_matchedIn ⟨Nat.le_of_ble_eq_true rfl, Nat.le_of_ble_eq_true rfl⟩ gc_g3 rfl rfl rfl hl.1 (Nat.zero_le _) dX8_match_66 ⟨Nat.le_of_ble_eq_true rfl, Nat.le_of_ble_eq_true rfl⟩ rfl (fun w' H locs hw hI => ?_)
        subst hw
        refine lv_istore (lv' := [(7, .int r5), (0, .ref (a 0)), (1, .int v1), (2, .int v2), (4, .int v4), (5, .int v5), (6, .int v6)]) hx hb dX8_match_69 hl (by decide) rfl (fun ls hl => ?_)
        refine lv_iload hx hb dX8_match_71 (lv_at hl 0 rfl) ?_
        refine lv_iload hx hb dX8_match_73 (lv_at hl 5 rfl) ?_
        refine lv_icmp_le (tgt := 86) hx hb dX8_match_75 (by decide) (fun c8 => ?_) (fun c8 => ?_)
        · replace h := gw_ifT c8 h
          exact hb86 (f_X8_match_b52  n) ih v1 v2 v4 v5 v6 S6 h _ _ _ hI (lv_sub hl [1, 2, 3, 4, 5, 6] rfl)
        · replace h := gw_ifF c8 h
          refine lv_iload hx hb dX8_match_78 (lv_at hl 0 rfl) ?_
          refine lv_istore (lv' := [(5, .int r5), (7, .int r5), (0, .ref (a 0)), (1, .int v1), (2, .int v2), (4, .int v4), (6, .int v6)]) hx hb dX8_match_80 hl (by decide) rfl (fun ls hl => ?_)
          refine lv_iload hx hb dX8_match_82 (lv_at hl 6 rfl) ?_
          refine lv_istore (lv' := [(4, .int v6), (5, .int r5), (7, .int r5), (0, .ref (a 0)), (1, .int v1), (2, .int v2), (6, .int v6)]) hx hb dX8_match_84 hl (by decide) rfl (fun ls hl => ?_)
          exact hb86 (f_X8_match_b52  n) ih v1 v2 v6 r5 v6 S6 h _ _ _ hI (lv_sub hl [3, 4, 5, 0, 1, 6] rfl)
  unfold f_X8_match at h
  refine lv_iload_n hx hb dX8_match_0 rfl (lv_at hl 1 rfl) ?_
  refine lv_iconst (v := 0) hx hb dX8_match_1 (by decide) ?_
  refine lv_iconst (v := 4) hx hb dX8_match_2 (by decide) ?_
  obtain ⟨r9, e10, h⟩ := gw_bdE h
  refine gw_callS (As := [.int x1, .int (0 : Int32), .int (4 : Int32)]) (n := 3) B hI (k_X8_isIn x1 (0 : Int32) (4 : Int32) S e10) gX8_match_X8_isIn rfl rfl rfl nds_X8_isIn ⟨Nat.le_of_ble_eq_true rfl, Nat.le_of_ble_eq_true rfl⟩ rfl hl.1 (Nat.zero_le _) dX8_match_3 ⟨Nat.le_of_ble_eq_true rfl, Nat.le_of_ble_eq_true rfl⟩ rfl (fun w' H locs hw hI => ?_)
  subst hw
  refine lv_if_eq (tgt := 18) hx hb dX8_match_6 (by decide) (fun c11 => ?_) (fun c11 => ?_)
  · replace h := gw_ifT c11 h
    refine lv_iconst (v := -1) hx hb dX8_match_18 (by decide) ?_
    obtain ⟨h1, h2⟩ := Prod.mk.inj (Option.some.inj h)
    rw [h2] at hI
    rw [← h1]
    exact gw_iret (W' := (fun w => w = gw_cw cc a b d zS)) B hI rfl (Nat.zero_le _) (Nat.zero_le _) dX8_match_19
  · replace h := gw_ifF c11 h
    refine lv_iload_n hx hb dX8_match_9 rfl (lv_at hl 2 rfl) ?_
    refine lv_iconst (v := 0) hx hb dX8_match_10 (by decide) ?_
    refine lv_iconst (v := 2) hx hb dX8_match_11 (by decide) ?_
    obtain ⟨r12, e13, h⟩ := gw_bdE h
    refine gw_callS (As := [.int x2, .int (0 : Int32), .int (2 : Int32)]) (n := 3) B hI (k_X8_isIn x2 (0 : Int32) (2 : Int32) S e13) gX8_match_X8_isIn rfl rfl rfl nds_X8_isIn ⟨Nat.le_of_ble_eq_true rfl, Nat.le_of_ble_eq_true rfl⟩ rfl hl.1 (Nat.zero_le _) dX8_match_12 ⟨Nat.le_of_ble_eq_true rfl, Nat.le_of_ble_eq_true rfl⟩ rfl (fun w' H locs hw hI => ?_)
    subst hw
    refine lv_if_ne (tgt := 20) hx hb dX8_match_15 (by decide) (fun c14 => ?_) (fun c14 => ?_)
    · replace h := gw_ifF c14 h
      refine lv_aload_n hx hb dX8_match_20 rfl (lv_at hl 0 rfl) ?_
      refine gw_get (T := TX8) (k := 1) (v := .ref (a 3)) B hI gc_g0 rfl ly_X8_match_8 (by decide) m_X8_match_19 rfl rfl dX8_match_21 ?_
      refine lv_iload_n hx hb dX8_match_24 rfl (lv_at hl 1 rfl) ?_
      obtain ⟨r15, e16, h⟩ := gw_bdE h
      refine gw_callV (As := [.int x1]) (n := 1) B hI (k_X2_membersOf x1 S e16) gX8_match_X2_membersOf rfl rfl rfl nd_X2_membersOf ⟨Nat.le_of_ble_eq_true rfl, Nat.le_of_ble_eq_true rfl⟩ gc_g3 rfl rfl rfl hl.1 (Nat.zero_le _) dX8_match_25 ⟨Nat.le_of_ble_eq_true rfl, Nat.le_of_ble_eq_true rfl⟩ rfl (fun w' H locs hw hI => ?_)
      subst hw
      refine lv_istore_n (lv' := [(3, .int r15), (0, .ref (a 0)), (1, .int x1), (2, .int x2)]) hx hb dX8_match_28 rfl hl (by decide) rfl (fun ls hl => ?_)
      refine lv_iload_n hx hb dX8_match_29 rfl (lv_at hl 0 rfl) ?_
      refine lv_if_ne (tgt := 36) hx hb dX8_match_30 (by decide) (fun c17 => ?_) (fun c17 => ?_)
      · replace h := gw_ifF c17 h
        refine lv_iload_n hx hb dX8_match_36 rfl (lv_at hl 3 rfl) ?_
        refine lv_iconst (v := 2) hx hb dX8_match_37 (by decide) ?_
        refine lv_icmp_ne (tgt := 43) hx hb dX8_match_38 (by decide) (fun c18 => ?_) (fun c18 => ?_)
        · replace h := gw_ifF c18 h
          refine lv_iconst (v := 0) hx hb dX8_match_43 (by decide) ?_
          refine lv_istore (lv' := [(4, .int (0 : Int32)), (3, .int r15), (0, .ref (a 0)), (1, .int x1), (2, .int x2)]) hx hb dX8_match_44 hl (by decide) rfl (fun ls hl => ?_)
          refine lv_iconst (v := -1) hx hb dX8_match_46 (by decide) ?_
          refine lv_istore (lv' := [(5, .int (-1 : Int32)), (4, .int (0 : Int32)), (3, .int r15), (0, .ref (a 0)), (1, .int x1), (2, .int x2)]) hx hb dX8_match_47 hl (by decide) rfl (fun ls hl => ?_)
          refine lv_iconst (v := 0) hx hb dX8_match_49 (by decide) ?_
          refine lv_istore (lv' := [(6, .int (0 : Int32)), (5, .int (-1 : Int32)), (4, .int (0 : Int32)), (3, .int r15), (0, .ref (a 0)), (1, .int x1), (2, .int x2)]) hx hb dX8_match_50 hl (by decide) rfl (fun ls hl => ?_)
          exact hb52  gw_F x1 x2 (0 : Int32) (-1 : Int32) (0 : Int32) S h _ _ _ hI (lv_sub hl [4, 5, 6, 2, 1, 0] rfl)
        · replace h := gw_ifT c18 h
          refine lv_iload_n hx hb dX8_match_41 rfl (lv_at hl 0 rfl) ?_
          obtain ⟨h1, h2⟩ := Prod.mk.inj (Option.some.inj h)
          rw [h2] at hI
          rw [← h1]
          exact gw_iret (W' := (fun w => w = gw_cw cc a b d zS)) B hI rfl (Nat.zero_le _) (Nat.zero_le _) dX8_match_42
      · replace h := gw_ifT c17 h
        refine lv_bipush (v := -4) hx hb dX8_match_33 (by decide) ?_
        obtain ⟨h1, h2⟩ := Prod.mk.inj (Option.some.inj h)
        rw [h2] at hI
        rw [← h1]
        exact gw_iret (W' := (fun w => w = gw_cw cc a b d zS)) B hI rfl (Nat.zero_le _) (Nat.zero_le _) dX8_match_35
    · replace h := gw_ifT c14 h
      refine lv_iconst (v := -1) hx hb dX8_match_18 (by decide) ?_
      obtain ⟨h1, h2⟩ := Prod.mk.inj (Option.some.inj h)
      rw [h2] at hI
      rw [← h1]
      exact gw_iret (W' := (fun w => w = gw_cw cc a b d zS)) B hI rfl (Nat.zero_le _) (Nat.zero_le _) dX8_match_19
theorem m_X8_asOf_19 : Cond.fieldLink RX8 19 "GownLet" "house" "LGownLet$House;" ∈ wsX8_asOf := by decide +kernel
theorem ly_X8_asOf_8 : ∀ w ∈ wsX80, w ∈ wsX8_asOf := fun w h => List.mem_cons_of_mem _ (List.mem_append_left _ (List.mem_append_left _ (List.mem_append_right _ h)))
set_option maxRecDepth 100000 in
set_option maxHeartbeats 4000000 in
theorem k_X8_asOf (x1 : Int32) (x2 : Int32) (x3 : Int32) (x4 : Int32) (S : gw_S) {zr : Int32} (h : f_X8_asOf x1 x2 x3 x4 S = some zr) : gw_M l yX8_asOf wsX8_asOf rm_X8_asOf 0 0 D (gw_ty cc) t1 t2 [.ref (a 0), .int x1, .int x2, .int x3, .int x4] (gw_cw cc a b d S) (fun w => w = gw_cw cc a b d S) (some (.int zr)) := by
  refine gw_enter (cc := cX8_asOf) (maxL := 5) (ret := (some .int)) (own := RX8) rfl (by decide) rfl (Nat.le_of_ble_eq_true rfl) ?_
  intro p e s m below meth c A B hin hI ls hl
  have hl : lv_has ls 5 [(0, .ref (a 0)), (1, .int x1), (2, .int x2), (3, .int x3), (4, .int x4)] := hl
  generalize ([.ref (a 0), .int x1, .int x2, .int x3, .int x4] : List Value).toArray = args at B ⊢
  have hx := B.1.1
  have hb := B.1.2.1
  have hown : s.vm.findClass RX8 = some m.cls := B.1.2.2.2.1
  have hts := B.1.2.2.2.2
  unfold f_X8_asOf at h
  refine lv_iload_n hx hb dX8_asOf_0 rfl (lv_at hl 1 rfl) ?_
  obtain ⟨r1, e2, h⟩ := gw_bdE h
  refine gw_callS (As := [.int x1]) (n := 1) B hI (k_X8_isDay x1 S e2) gX8_asOf_X8_isDay rfl rfl rfl nds_X8_isDay ⟨Nat.le_of_ble_eq_true rfl, Nat.le_of_ble_eq_true rfl⟩ rfl hl.1 (Nat.zero_le _) dX8_asOf_1 ⟨Nat.le_of_ble_eq_true rfl, Nat.le_of_ble_eq_true rfl⟩ rfl (fun w' H locs hw hI => ?_)
  subst hw
  refine lv_if_eq (tgt := 16) hx hb dX8_asOf_4 (by decide) (fun c3 => ?_) (fun c3 => ?_)
  · replace h := gw_ifT c3 h
    refine lv_iconst (v := -1) hx hb dX8_asOf_16 (by decide) ?_
    rw [← Option.some.inj h]
    exact gw_iret (W' := (fun w => w = gw_cw cc a b d S)) B hI rfl (Nat.zero_le _) (Nat.zero_le _) dX8_asOf_17
  · replace h := gw_ifF c3 h
    refine lv_iload_n hx hb dX8_asOf_7 rfl (lv_at hl 2 rfl) ?_
    refine lv_iconst (v := 0) hx hb dX8_asOf_8 (by decide) ?_
    refine lv_iconst (v := 1) hx hb dX8_asOf_9 (by decide) ?_
    obtain ⟨r4, e5, h⟩ := gw_bdE h
    refine gw_callS (As := [.int x2, .int (0 : Int32), .int (1 : Int32)]) (n := 3) B hI (k_X8_isIn x2 (0 : Int32) (1 : Int32) S e5) gX8_asOf_X8_isIn rfl rfl rfl nds_X8_isIn ⟨Nat.le_of_ble_eq_true rfl, Nat.le_of_ble_eq_true rfl⟩ rfl hl.1 (Nat.zero_le _) dX8_asOf_10 ⟨Nat.le_of_ble_eq_true rfl, Nat.le_of_ble_eq_true rfl⟩ rfl (fun w' H locs hw hI => ?_)
    subst hw
    refine lv_if_ne (tgt := 18) hx hb dX8_asOf_13 (by decide) (fun c6 => ?_) (fun c6 => ?_)
    · replace h := gw_ifF c6 h
      refine lv_iload_n hx hb dX8_asOf_18 rfl (lv_at hl 2 rfl) ?_
      refine lv_if_ne (tgt := 38) hx hb dX8_asOf_19 (by decide) (fun c7 => ?_) (fun c7 => ?_)
      · replace h := gw_ifF c7 h
        refine lv_aload_n hx hb dX8_asOf_38 rfl (lv_at hl 0 rfl) ?_
        refine gw_get (T := TX8) (k := 1) (v := .ref (a 3)) B hI gc_g0 rfl ly_X8_asOf_8 (by decide) m_X8_asOf_19 rfl rfl dX8_asOf_39 ?_
        refine lv_iload_n hx hb dX8_asOf_42 rfl (lv_at hl 1 rfl) ?_
        refine lv_iload_n hx hb dX8_asOf_43 rfl (lv_at hl 3 rfl) ?_
        refine lv_iload hx hb dX8_asOf_44 (lv_at hl 4 rfl) ?_
        obtain ⟨r8, e9, h⟩ := gw_bdE h
        refine gw_callV (As := [.int x1, .int x3, .int x4]) (n := 3) B hI (k_X2_knownOn x1 x3 x4 S e9) gX8_asOf_X2_knownOn rfl rfl rfl nd_X2_knownOn ⟨Nat.le_of_ble_eq_true rfl, Nat.le_of_ble_eq_true rfl⟩ gc_g3 rfl rfl rfl hl.1 (Nat.zero_le _) dX8_asOf_46 ⟨Nat.le_of_ble_eq_true rfl, Nat.le_of_ble_eq_true rfl⟩ rfl (fun w' H locs hw hI => ?_)
        subst hw
        rw [← Option.some.inj h]
        exact gw_iret (W' := (fun w => w = gw_cw cc a b d S)) B hI rfl (Nat.zero_le _) (Nat.zero_le _) dX8_asOf_49
      · replace h := gw_ifT c7 h
        refine lv_aload_n hx hb dX8_asOf_22 rfl (lv_at hl 0 rfl) ?_
        refine gw_get (T := TX8) (k := 1) (v := .ref (a 3)) B hI gc_g0 rfl ly_X8_asOf_8 (by decide) m_X8_asOf_19 rfl rfl dX8_asOf_23 ?_
        refine lv_iload_n hx hb dX8_asOf_26 rfl (lv_at hl 1 rfl) ?_
        refine lv_bipush (v := 20) hx hb dX8_asOf_27 (by decide) ?_
        refine lv_sipush (v := 380) hx hb dX8_asOf_29 (by decide) ?_
        obtain ⟨r10, e11, h⟩ := gw_bdE h
        refine gw_callV (As := [.int x1, .int (20 : Int32), .int (380 : Int32)]) (n := 3) B hI (k_X2_knownOn x1 (20 : Int32) (380 : Int32) S e11) gX8_asOf_X2_knownOn rfl rfl rfl nd_X2_knownOn ⟨Nat.le_of_ble_eq_true rfl, Nat.le_of_ble_eq_true rfl⟩ gc_g3 rfl rfl rfl hl.1 (Nat.zero_le _) dX8_asOf_32 ⟨Nat.le_of_ble_eq_true rfl, Nat.le_of_ble_eq_true rfl⟩ rfl (fun w' H locs hw hI => ?_)
        subst hw
        refine lv_goto (tgt := 49) hx hb dX8_asOf_35 (by decide) ?_
        rw [← Option.some.inj h]
        exact gw_iret (W' := (fun w => w = gw_cw cc a b d S)) B hI rfl (Nat.zero_le _) (Nat.zero_le _) dX8_asOf_49
    · replace h := gw_ifT c6 h
      refine lv_iconst (v := -1) hx hb dX8_asOf_16 (by decide) ?_
      rw [← Option.some.inj h]
      exact gw_iret (W' := (fun w => w = gw_cw cc a b d S)) B hI rfl (Nat.zero_le _) (Nat.zero_le _) dX8_asOf_17
theorem m_X8_out_19 : Cond.fieldLink RX8 19 "GownLet" "house" "LGownLet$House;" ∈ wsX8_out := by decide +kernel
theorem ly_X8_out_0 : ∀ w ∈ wsX00, w ∈ wsX8_out := fun w h => List.mem_cons_of_mem _ (List.mem_append_left _ (List.mem_append_left _ (List.mem_append_left _ (List.mem_append_right _ h))))
theorem ly_X8_out_8 : ∀ w ∈ wsX80, w ∈ wsX8_out := fun w h => List.mem_cons_of_mem _ (List.mem_append_left _ (List.mem_append_left _ (List.mem_append_left _ (List.mem_append_left _ (List.mem_append_right _ h)))))
set_option maxRecDepth 100000 in
set_option maxHeartbeats 4000000 in
theorem k_X8_out (x1 : Int32) (x2 : Int32) (S : gw_S) {zr : Int32} {zS : gw_S} (h : f_X8_out x1 x2 S = some (zr, zS)) : gw_M l yX8_out wsX8_out rm_X8_out 0 0 D (gw_ty cc) t1 t2 [.ref (a 0), .int x1, .int x2] (gw_cw cc a b d S) (fun w => w = gw_cw cc a b d zS) (some (.int zr)) := by
  refine gw_enter (cc := cX8_out) (maxL := 4) (ret := (some .int)) (own := RX8) rfl (by decide) rfl (Nat.le_of_ble_eq_true rfl) ?_
  intro p e s m below meth c A B hin hI ls hl
  have hl : lv_has ls 4 [(0, .ref (a 0)), (1, .int x1), (2, .int x2)] := hl
  generalize ([.ref (a 0), .int x1, .int x2] : List Value).toArray = args at B ⊢
  have hx := B.1.1
  have hb := B.1.2.1
  have hown : s.vm.findClass RX8 = some m.cls := B.1.2.2.2.1
  have hts := B.1.2.2.2.2
  unfold f_X8_out at h
  refine lv_aload_n hx hb dX8_out_0 rfl (lv_at hl 0 rfl) ?_
  refine gw_get (T := TX8) (k := 1) (v := .ref (a 3)) B hI gc_g0 rfl ly_X8_out_8 (by decide) m_X8_out_19 rfl rfl dX8_out_1 ?_
  refine lv_iload_n hx hb dX8_out_4 rfl (lv_at hl 1 rfl) ?_
  obtain ⟨r1, e2, h⟩ := gw_bdE h
  refine gw_callV (As := [.int x1]) (n := 1) B hI (k_X2_bookingAt x1 S e2) gX8_out_X2_bookingAt rfl rfl rfl nd_X2_bookingAt ⟨Nat.le_of_ble_eq_true rfl, Nat.le_of_ble_eq_true rfl⟩ gc_g3 rfl rfl rfl hl.1 (Nat.zero_le _) dX8_out_5 ⟨Nat.le_of_ble_eq_true rfl, Nat.le_of_ble_eq_true rfl⟩ rfl (fun w' H locs hw hI => ?_)
  subst hw
  refine gw_astore_n (lv' := [(3, va_rf (gw_rf d r1)), (0, .ref (a 0)), (1, .int x1), (2, .int x2)]) B dX8_out_8 rfl hl (by decide) rfl (fun ls hl => ?_)
  refine gw_aload_n B dX8_out_9 rfl (lv_at hl 0 rfl) ?_
  refine gw_ifnull (tgt := 24) B dX8_out_10 (by decide) (fun c3 => ?_) (fun c3 => ?_)
  · replace h := gw_ifT c3 h
    refine lv_iconst (v := -1) hx hb dX8_out_24 (by decide) ?_
    obtain ⟨h1, h2⟩ := Prod.mk.inj (Option.some.inj h)
    rw [h2] at hI
    rw [← h1]
    exact gw_iret (W' := (fun w => w = gw_cw cc a b d zS)) B hI rfl (Nat.zero_le _) (Nat.zero_le _) dX8_out_25
  · replace h := gw_ifF c3 h
    refine lv_iload_n hx hb dX8_out_13 rfl (lv_at hl 3 rfl) ?_
    refine lv_iconst (v := 0) hx hb dX8_out_14 (by decide) ?_
    refine lv_sipush (v := 4095) hx hb dX8_out_15 (by decide) ?_
    obtain ⟨r4, e5, h⟩ := gw_bdE h
    refine gw_callS (As := [.int x2, .int (0 : Int32), .int (4095 : Int32)]) (n := 3) B hI (k_X8_isIn x2 (0 : Int32) (4095 : Int32) S e5) gX8_out_X8_isIn rfl rfl rfl nds_X8_isIn ⟨Nat.le_of_ble_eq_true rfl, Nat.le_of_ble_eq_true rfl⟩ rfl hl.1 (Nat.zero_le _) dX8_out_18 ⟨Nat.le_of_ble_eq_true rfl, Nat.le_of_ble_eq_true rfl⟩ rfl (fun w' H locs hw hI => ?_)
    subst hw
    refine lv_if_ne (tgt := 26) hx hb dX8_out_21 (by decide) (fun c6 => ?_) (fun c6 => ?_)
    · replace h := gw_ifF c6 h
      refine gw_aload_n B dX8_out_26 rfl (lv_at hl 0 rfl) ?_
      rw [gw_rfP c3]
      obtain ⟨g7, h⟩ := gw_gdE h
      refine gw_getN (T := TX0) (k := 8) (v := va_rf (gw_rf b (S (2 * r1.toNatClampNeg + 31) 8))) B hI (gc_gb g7) rfl ly_X8_out_0 (by decide) n_RX8_178 rfl rfl dX8_out_27 ?_
      refine gw_ifnull (tgt := 40) B dX8_out_30 (by decide) (fun c8 => ?_) (fun c8 => ?_)
      · replace h := gw_ifT c8 h
        refine lv_bipush (v := -2) hx hb dX8_out_40 (by decide) ?_
        obtain ⟨h1, h2⟩ := Prod.mk.inj (Option.some.inj h)
        rw [h2] at hI
        rw [← h1]
        exact gw_iret (W' := (fun w => w = gw_cw cc a b d zS)) B hI rfl (Nat.zero_le _) (Nat.zero_le _) dX8_out_42
      · replace h := gw_ifF c8 h
        refine gw_aload_n B dX8_out_33 rfl (lv_at hl 0 rfl) ?_
        rw [gw_rfP c3]
        obtain ⟨r9, e10, h⟩ := gw_bdE h
        refine gw_callV (As := []) (n := 0) B hI (k_X0_wentOut r1 S e10) gX8_out_X0_wentOut rfl rfl rfl nd_X0_wentOut ⟨Nat.le_of_ble_eq_true rfl, Nat.le_of_ble_eq_true rfl⟩ (gc_gb g7) rfl rfl rfl hl.1 (Nat.zero_le _) dX8_out_34 ⟨Nat.le_of_ble_eq_true rfl, Nat.le_of_ble_eq_true rfl⟩ rfl (fun w' H locs hw hI => ?_)
        subst hw
        refine lv_if_eq (tgt := 43) hx hb dX8_out_37 (by decide) (fun c11 => ?_) (fun c11 => ?_)
        · replace h := gw_ifT c11 h
          refine gw_aload_n B dX8_out_43 rfl (lv_at hl 0 rfl) ?_
          refine lv_iload_n hx hb dX8_out_44 rfl (lv_at hl 3 rfl) ?_
          refine lv_aload_n hx hb dX8_out_45 rfl (lv_at hl 1 rfl) ?_
          refine gw_get (T := TX8) (k := 1) (v := .ref (a 3)) B hI gc_g0 rfl ly_X8_out_8 (by decide) m_X8_out_19 rfl rfl dX8_out_46 ?_
          refine gw_aload_n B dX8_out_49 rfl (lv_at hl 0 rfl) ?_
          rw [gw_rfP c3]
          refine gw_getN (T := TX0) (k := 8) (v := va_rf (gw_rf b (S (2 * r1.toNatClampNeg + 31) 8))) B hI (gc_gb g7) rfl ly_X8_out_0 (by decide) n_RX8_178 rfl rfl dX8_out_50 ?_
          obtain ⟨r12, e13, h⟩ := gw_bdE h
          refine gw_callV (As := [va_rf (gw_rf b (S (2 * r1.toNatClampNeg + 31) 8))]) (n := 1) B hI (k_X2_depositOn (S (2 * r1.toNatClampNeg + 31) 8) S e13) gX8_out_X2_depositOn rfl rfl rfl nd_X2_depositOn ⟨Nat.le_of_ble_eq_true rfl, Nat.le_of_ble_eq_true rfl⟩ gc_g3 rfl rfl rfl hl.1 (by simp [gw_catq, gw_cI, gw_cR, gw_cL]) dX8_out_53 ⟨Nat.le_of_ble_eq_true rfl, Nat.le_of_ble_eq_true rfl⟩ rfl (fun w' H locs hw hI => ?_)
          subst hw
          obtain ⟨S14, e15, h⟩ := gw_bdE h
          refine gw_callVv (As := [.int x2, .int r12]) (n := 2) B hI (k_X0_goOut r1 x2 r12 S e15) gX8_out_X0_goOut rfl rfl rfl nd_X0_goOut ⟨Nat.le_of_ble_eq_true rfl, Nat.le_of_ble_eq_true rfl⟩ (gc_gb g7) rfl rfl rfl hl.1 (Nat.zero_le _) dX8_out_56 ⟨Nat.le_of_ble_eq_true rfl, Nat.le_of_ble_eq_true rfl⟩ rfl (fun w' H locs hw hI => ?_)
          subst hw
          refine gw_aload_n B dX8_out_59 rfl (lv_at hl 0 rfl) ?_
          rw [gw_rfP c3]
          obtain ⟨g16, h⟩ := gw_gdE h
          refine gw_getN (T := TX0) (k := 10) (v := .int (S14 (2 * r1.toNatClampNeg + 31) 10)) B hI (gc_gb g16) rfl ly_X8_out_0 (by decide) n_RX8_250 rfl rfl dX8_out_60 ?_
          obtain ⟨h1, h2⟩ := Prod.mk.inj (Option.some.inj h)
          rw [h2] at hI
          rw [← h1]
          exact gw_iret (W' := (fun w => w = gw_cw cc a b d zS)) B hI rfl (Nat.zero_le _) (Nat.zero_le _) dX8_out_63
        · replace h := gw_ifF c11 h
          refine lv_bipush (v := -2) hx hb dX8_out_40 (by decide) ?_
          obtain ⟨h1, h2⟩ := Prod.mk.inj (Option.some.inj h)
          rw [h2] at hI
          rw [← h1]
          exact gw_iret (W' := (fun w => w = gw_cw cc a b d zS)) B hI rfl (Nat.zero_le _) (Nat.zero_le _) dX8_out_42
    · replace h := gw_ifT c6 h
      refine lv_iconst (v := -1) hx hb dX8_out_24 (by decide) ?_
      obtain ⟨h1, h2⟩ := Prod.mk.inj (Option.some.inj h)
      rw [h2] at hI
      rw [← h1]
      exact gw_iret (W' := (fun w => w = gw_cw cc a b d zS)) B hI rfl (Nat.zero_le _) (Nat.zero_le _) dX8_out_25
theorem m_X8_home_19 : Cond.fieldLink RX8 19 "GownLet" "house" "LGownLet$House;" ∈ wsX8_home := by decide +kernel
theorem ly_X8_home_0 : ∀ w ∈ wsX00, w ∈ wsX8_home := fun w h => List.mem_cons_of_mem _ (List.mem_append_left _ (List.mem_append_left _ (List.mem_append_left _ (List.mem_append_right _ h))))
theorem ly_X8_home_4 : ∀ w ∈ wsX40, w ∈ wsX8_home := fun w h => List.mem_cons_of_mem _ (List.mem_append_left _ (List.mem_append_left _ (List.mem_append_right _ h)))
theorem ly_X8_home_8 : ∀ w ∈ wsX80, w ∈ wsX8_home := fun w h => List.mem_cons_of_mem _ (List.mem_append_left _ (List.mem_append_left _ (List.mem_append_left _ (List.mem_append_left _ (List.mem_append_right _ h)))))
set_option maxRecDepth 100000 in
set_option maxHeartbeats 4000000 in
theorem k_X8_home (x1 : Int32) (x2 : Int32) (x3 : Int32) (S : gw_S) {zr : Int32} {zS : gw_S} (h : f_X8_home x1 x2 x3 S = some (zr, zS)) : gw_M l yX8_home wsX8_home rm_X8_home 0 0 D (gw_ty cc) t1 t2 [.ref (a 0), .int x1, .int x2, .int x3] (gw_cw cc a b d S) (fun w => w = gw_cw cc a b d zS) (some (.int zr)) := by
  refine gw_enter (cc := cX8_home) (maxL := 6) (ret := (some .int)) (own := RX8) rfl (by decide) rfl (Nat.le_of_ble_eq_true rfl) ?_
  intro p e s m below meth c A B hin hI ls hl
  have hl : lv_has ls 6 [(0, .ref (a 0)), (1, .int x1), (2, .int x2), (3, .int x3)] := hl
  generalize ([.ref (a 0), .int x1, .int x2, .int x3] : List Value).toArray = args at B ⊢
  have hx := B.1.1
  have hb := B.1.2.1
  have hown : s.vm.findClass RX8 = some m.cls := B.1.2.2.2.1
  have hts := B.1.2.2.2.2
  unfold f_X8_home at h
  refine lv_aload_n hx hb dX8_home_0 rfl (lv_at hl 0 rfl) ?_
  refine gw_get (T := TX8) (k := 1) (v := .ref (a 3)) B hI gc_g0 rfl ly_X8_home_8 (by decide) m_X8_home_19 rfl rfl dX8_home_1 ?_
  refine lv_iload_n hx hb dX8_home_4 rfl (lv_at hl 1 rfl) ?_
  obtain ⟨r1, e2, h⟩ := gw_bdE h
  refine gw_callV (As := [.int x1]) (n := 1) B hI (k_X2_bookingAt x1 S e2) gX8_home_X2_bookingAt rfl rfl rfl nd_X2_bookingAt ⟨Nat.le_of_ble_eq_true rfl, Nat.le_of_ble_eq_true rfl⟩ gc_g3 rfl rfl rfl hl.1 (Nat.zero_le _) dX8_home_5 ⟨Nat.le_of_ble_eq_true rfl, Nat.le_of_ble_eq_true rfl⟩ rfl (fun w' H locs hw hI => ?_)
  subst hw
  refine gw_astore (lv' := [(4, va_rf (gw_rf d r1)), (0, .ref (a 0)), (1, .int x1), (2, .int x2), (3, .int x3)]) B dX8_home_8 hl (by decide) rfl (fun ls hl => ?_)
  refine gw_aload B dX8_home_10 (lv_at hl 0 rfl) ?_
  refine gw_ifnull (tgt := 33) B dX8_home_12 (by decide) (fun c3 => ?_) (fun c3 => ?_)
  · replace h := gw_ifT c3 h
    refine lv_ldc (v := -1000001) hx hb hown (hts (.constant RX8 253 (-1000001)) (by decide +kernel)) dX8_home_33 ?_
    obtain ⟨h1, h2⟩ := Prod.mk.inj (Option.some.inj h)
    rw [h2] at hI
    rw [← h1]
    exact gw_iret (W' := (fun w => w = gw_cw cc a b d zS)) B hI rfl (Nat.zero_le _) (Nat.zero_le _) dX8_home_35
  · replace h := gw_ifF c3 h
    refine lv_iload_n hx hb dX8_home_15 rfl (lv_at hl 3 rfl) ?_
    obtain ⟨r4, e5, h⟩ := gw_bdE h
    refine gw_callS (As := [.int x2]) (n := 1) B hI (k_X8_isDay x2 S e5) gX8_home_X8_isDay rfl rfl rfl nds_X8_isDay ⟨Nat.le_of_ble_eq_true rfl, Nat.le_of_ble_eq_true rfl⟩ rfl hl.1 (Nat.zero_le _) dX8_home_16 ⟨Nat.le_of_ble_eq_true rfl, Nat.le_of_ble_eq_true rfl⟩ rfl (fun w' H locs hw hI => ?_)
    subst hw
    refine lv_if_eq (tgt := 33) hx hb dX8_home_19 (by decide) (fun c6 => ?_) (fun c6 => ?_)
    · replace h := gw_ifT c6 h
      refine lv_ldc (v := -1000001) hx hb hown (hts (.constant RX8 253 (-1000001)) (by decide +kernel)) dX8_home_33 ?_
      obtain ⟨h1, h2⟩ := Prod.mk.inj (Option.some.inj h)
      rw [h2] at hI
      rw [← h1]
      exact gw_iret (W' := (fun w => w = gw_cw cc a b d zS)) B hI rfl (Nat.zero_le _) (Nat.zero_le _) dX8_home_35
    · replace h := gw_ifF c6 h
      refine lv_iload_n hx hb dX8_home_22 rfl (lv_at hl 4 rfl) ?_
      refine lv_iconst (v := -1) hx hb dX8_home_23 (by decide) ?_
      refine lv_sipush (v := 4095) hx hb dX8_home_24 (by decide) ?_
      obtain ⟨r7, e8, h⟩ := gw_bdE h
      refine gw_callS (As := [.int x3, .int (-1 : Int32), .int (4095 : Int32)]) (n := 3) B hI (k_X8_isIn x3 (-1 : Int32) (4095 : Int32) S e8) gX8_home_X8_isIn rfl rfl rfl nds_X8_isIn ⟨Nat.le_of_ble_eq_true rfl, Nat.le_of_ble_eq_true rfl⟩ rfl hl.1 (Nat.zero_le _) dX8_home_27 ⟨Nat.le_of_ble_eq_true rfl, Nat.le_of_ble_eq_true rfl⟩ rfl (fun w' H locs hw hI => ?_)
      subst hw
      refine lv_if_ne (tgt := 36) hx hb dX8_home_30 (by decide) (fun c9 => ?_) (fun c9 => ?_)
      · replace h := gw_ifF c9 h
        refine gw_aload B dX8_home_36 (lv_at hl 0 rfl) ?_
        rw [gw_rfP c3]
        obtain ⟨g10, h⟩ := gw_gdE h
        refine gw_getN (T := TX0) (k := 8) (v := va_rf (gw_rf b (S (2 * r1.toNatClampNeg + 31) 8))) B hI (gc_gb g10) rfl ly_X8_home_0 (by decide) n_RX8_178 rfl rfl dX8_home_38 ?_
        obtain ⟨y11, e12, h⟩ := gw_letE h
        rw [← e12]
        refine gw_astore (i := 5) (lv' := [(5, va_rf (gw_rf b y11)), (4, va_rf (gw_rf d r1)), (0, .ref (a 0)), (1, .int x1), (2, .int x2), (3, .int x3)]) B dX8_home_41 hl (by decide) (by simp [gw_catq, gw_cI, gw_cR, gw_cL]) (fun ls hl => ?_)
        refine gw_aload B dX8_home_43 (lv_at hl 0 rfl) ?_
        refine gw_ifnonnull (tgt := 51) B dX8_home_45 (by decide) (fun c13 => ?_) (fun c13 => ?_)
        · replace h := gw_ifF c13 h
          refine lv_iload_n hx hb dX8_home_51 rfl (lv_at hl 4 rfl) ?_
          refine lv_aload_n hx hb dX8_home_52 rfl (lv_at hl 2 rfl) ?_
          refine gw_get (T := TX8) (k := 1) (v := .ref (a 3)) B hI gc_g0 rfl ly_X8_home_8 (by decide) m_X8_home_19 rfl rfl dX8_home_53 ?_
          refine gw_aload B dX8_home_56 (lv_at hl 0 rfl) ?_
          refine gw_aload B dX8_home_58 (lv_at hl 1 rfl) ?_
          obtain ⟨r14, e15, h⟩ := gw_bdE h
          refine gw_callV (As := [va_rf (gw_rf b y11), va_rf (gw_rf d r1)]) (n := 2) B hI (k_X2_firstAway y11 r1 S e15) gX8_home_X2_firstAway rfl rfl rfl nd_X2_firstAway ⟨Nat.le_of_ble_eq_true rfl, Nat.le_of_ble_eq_true rfl⟩ gc_g3 rfl rfl rfl hl.1 (by simp [gw_catq, gw_cI, gw_cR, gw_cL]) dX8_home_60 ⟨Nat.le_of_ble_eq_true rfl, Nat.le_of_ble_eq_true rfl⟩ rfl (fun w' H locs hw hI => ?_)
          subst hw
          refine lv_icmp_ge (tgt := 69) hx hb dX8_home_63 (by decide) (fun c16 => ?_) (fun c16 => ?_)
          · replace h := gw_ifT c16 h
            refine gw_aload B dX8_home_69 (lv_at hl 1 rfl) ?_
            rw [gw_rfP c3]
            refine gw_getN (T := TX0) (k := 9) (v := .int (S (2 * r1.toNatClampNeg + 31) 9)) B hI (gc_gb g10) rfl ly_X8_home_0 (by decide) n_RX8_255 rfl rfl dX8_home_71 ?_
            refine lv_iconst (v := 1) hx hb dX8_home_74 (by decide) ?_
            refine lv_icmp_eq (tgt := 81) hx hb dX8_home_75 (by decide) (fun c17 => ?_) (fun c17 => ?_)
            · replace h := gw_ifT c17 h
              refine gw_aload B dX8_home_81 (lv_at hl 1 rfl) ?_
              refine lv_iload_n hx hb dX8_home_83 rfl (lv_at hl 4 rfl) ?_
              refine lv_iload_n hx hb dX8_home_84 rfl (lv_at hl 5 rfl) ?_
              rw [gw_rfP c3]
              obtain ⟨S18, e19, h⟩ := gw_bdE h
              refine gw_callVv (As := [.int x2, .int x3]) (n := 2) B hI (k_X0_comeHome r1 x2 x3 S e19) gX8_home_X0_comeHome rfl rfl rfl nd_X0_comeHome ⟨Nat.le_of_ble_eq_true rfl, Nat.le_of_ble_eq_true rfl⟩ (gc_gb g10) rfl rfl rfl hl.1 (Nat.zero_le _) dX8_home_85 ⟨Nat.le_of_ble_eq_true rfl, Nat.le_of_ble_eq_true rfl⟩ rfl (fun w' H locs hw hI => ?_)
              subst hw
              refine gw_aload B dX8_home_88 (lv_at hl 0 rfl) ?_
              refine lv_dup hx hb dX8_home_90 gw_catq ?_
              rw [gw_rfP c13]
              obtain ⟨g20, h⟩ := gw_gdE h
              refine gw_getN (T := TX4) (k := 9) (v := .int (S18 (2 * y11.toNatClampNeg + 30) 9)) B hI (gc_gp g20) rfl ly_X8_home_4 (by decide) n_RX8_261 rfl rfl dX8_home_91 ?_
              refine lv_iconst (v := 1) hx hb dX8_home_94 (by decide) ?_
              refine lv_iadd hx hb dX8_home_95 ?_
              obtain ⟨S21, e22, h⟩ := gw_letE h
              refine gw_putN (T := TX4) (k := 9) (w' := gw_cw cc a b d S21) B hI (gc_gp g20) rfl ly_X8_home_4 tyX4 tyX4_ok nmX4 (by decide) n_RX8_261 rfl rfl rfl rfl (Nat.le_of_ble_eq_true rfl) (gc_sp_9 g20 e22) dX8_home_96 (fun H locs hI => ?_)
              refine lv_aload_n hx hb dX8_home_99 rfl (lv_at hl 2 rfl) ?_
              refine gw_get (T := TX8) (k := 1) (v := .ref (a 3)) B hI gc_g0 rfl ly_X8_home_8 (by decide) m_X8_home_19 rfl rfl dX8_home_100 ?_
              refine gw_aload B dX8_home_103 (lv_at hl 1 rfl) ?_
              obtain ⟨r23, e24, h⟩ := gw_bdE h
              refine gw_callV (As := [va_rf (gw_rf d r1)]) (n := 1) B hI (k_X2_owedFor r1 S21 e24) gX8_home_X2_owedFor rfl rfl rfl nd_X2_owedFor ⟨Nat.le_of_ble_eq_true rfl, Nat.le_of_ble_eq_true rfl⟩ gc_g3 rfl rfl rfl hl.1 (Nat.zero_le _) dX8_home_105 ⟨Nat.le_of_ble_eq_true rfl, Nat.le_of_ble_eq_true rfl⟩ rfl (fun w' H locs hw hI => ?_)
              subst hw
              refine gw_aload B dX8_home_108 (lv_at hl 1 rfl) ?_
              rw [gw_rfP c3]
              obtain ⟨g25, h⟩ := gw_gdE h
              refine gw_getN (T := TX0) (k := 10) (v := .int (S21 (2 * r1.toNatClampNeg + 31) 10)) B hI (gc_gb g25) rfl ly_X8_home_0 (by decide) n_RX8_250 rfl rfl dX8_home_110 ?_
              refine lv_isub hx hb dX8_home_113 ?_
              obtain ⟨h1, h2⟩ := Prod.mk.inj (Option.some.inj h)
              rw [h2] at hI
              rw [← h1]
              exact gw_iret (W' := (fun w => w = gw_cw cc a b d zS)) B hI rfl (Nat.zero_le _) (Nat.zero_le _) dX8_home_114
            · replace h := gw_ifF c17 h
              refine lv_ldc (v := -1000002) hx hb hown (hts (.constant RX8 254 (-1000002)) (by decide +kernel)) dX8_home_78 ?_
              obtain ⟨h1, h2⟩ := Prod.mk.inj (Option.some.inj h)
              rw [h2] at hI
              rw [← h1]
              exact gw_iret (W' := (fun w => w = gw_cw cc a b d zS)) B hI rfl (Nat.zero_le _) (Nat.zero_le _) dX8_home_80
          · replace h := gw_ifF c16 h
            refine lv_ldc (v := -1000001) hx hb hown (hts (.constant RX8 253 (-1000001)) (by decide +kernel)) dX8_home_66 ?_
            obtain ⟨h1, h2⟩ := Prod.mk.inj (Option.some.inj h)
            rw [h2] at hI
            rw [← h1]
            exact gw_iret (W' := (fun w => w = gw_cw cc a b d zS)) B hI rfl (Nat.zero_le _) (Nat.zero_le _) dX8_home_68
        · replace h := gw_ifT c13 h
          refine lv_ldc (v := -1000002) hx hb hown (hts (.constant RX8 254 (-1000002)) (by decide +kernel)) dX8_home_48 ?_
          obtain ⟨h1, h2⟩ := Prod.mk.inj (Option.some.inj h)
          rw [h2] at hI
          rw [← h1]
          exact gw_iret (W' := (fun w => w = gw_cw cc a b d zS)) B hI rfl (Nat.zero_le _) (Nat.zero_le _) dX8_home_50
      · replace h := gw_ifT c9 h
        refine lv_ldc (v := -1000001) hx hb hown (hts (.constant RX8 253 (-1000001)) (by decide +kernel)) dX8_home_33 ?_
        obtain ⟨h1, h2⟩ := Prod.mk.inj (Option.some.inj h)
        rw [h2] at hI
        rw [← h1]
        exact gw_iret (W' := (fun w => w = gw_cw cc a b d zS)) B hI rfl (Nat.zero_le _) (Nat.zero_le _) dX8_home_35
theorem m_X8_about_19 : Cond.fieldLink RX8 19 "GownLet" "house" "LGownLet$House;" ∈ wsX8_about := by decide +kernel
theorem ly_X8_about_0 : ∀ w ∈ wsX00, w ∈ wsX8_about := fun w h => List.mem_cons_of_mem _ (List.mem_append_left _ (List.mem_append_left _ (List.mem_append_left _ (List.mem_append_right _ h))))
theorem ly_X8_about_8 : ∀ w ∈ wsX80, w ∈ wsX8_about := fun w h => List.mem_cons_of_mem _ (List.mem_append_left _ (List.mem_append_left _ (List.mem_append_left _ (List.mem_append_left _ (List.mem_append_right _ h)))))
set_option maxRecDepth 100000 in
set_option maxHeartbeats 4000000 in
theorem k_X8_about (x1 : Int32) (x2 : Int32) (S : gw_S) {zr : Int32} (h : f_X8_about x1 x2 S = some zr) : gw_M l yX8_about wsX8_about rm_X8_about 0 0 D (gw_ty cc) t1 t2 [.ref (a 0), .int x1, .int x2] (gw_cw cc a b d S) (fun w => w = gw_cw cc a b d S) (some (.int zr)) := by
  refine gw_enter (cc := cX8_about) (maxL := 4) (ret := (some .int)) (own := RX8) rfl (by decide) rfl (Nat.le_of_ble_eq_true rfl) ?_
  intro p e s m below meth c A B hin hI ls hl
  have hl : lv_has ls 4 [(0, .ref (a 0)), (1, .int x1), (2, .int x2)] := hl
  generalize ([.ref (a 0), .int x1, .int x2] : List Value).toArray = args at B ⊢
  have hx := B.1.1
  have hb := B.1.2.1
  have hown : s.vm.findClass RX8 = some m.cls := B.1.2.2.2.1
  have hts := B.1.2.2.2.2
  have hb51 :  ∀ (v2 : Int32) (v3 : Int32), f_X8_about_b51 S  v2 v3 = some zr → ∀ (H : Heap) (locs : List Loc) (ls : Array Slot), gw_I D A s.heap (gw_cw cc a b d S) H locs → lv_has ls 4 [(0, .ref (a 0)), (2, .int v2), (3, va_rf (gw_rf d v3))] → W p l e rm_X8_about s m args below meth c H locs 0 0 (MQ below (gw_Q (some (.int zr)) (gw_Pst D A (fun w => w = gw_cw cc a b d S)) A) args s 0 0 A) (F0 m 51 ls []) := by
    intro v2 v3 h H locs ls hI hl
    unfold f_X8_about_b51 at h
    refine lv_iload_n hx hb dX8_about_51 rfl (lv_at hl 1 rfl) ?_
    by_cases c1 : v2 = 0
    · replace h := gw_ifT c1 h
      refine gw_tabIn (k := 0) (off := 32) (tgt := 84) B c1 dX8_about_52 (by decide) (by decide) ?_
      refine gw_aload_n B dX8_about_84 rfl (lv_at hl 2 rfl) ?_
      obtain ⟨g2, h⟩ := gw_gdE h
      rw [gw_rfP g2]
      obtain ⟨g3, h⟩ := gw_gdE h
      refine gw_getN (T := TX0) (k := 9) (v := .int (S (2 * v3.toNatClampNeg + 31) 9)) B hI (gc_gb g3) rfl ly_X8_about_0 (by decide) n_RX8_255 rfl rfl dX8_about_85 ?_
      rw [← Option.some.inj h]
      exact gw_iret (W' := (fun w => w = gw_cw cc a b d S)) B hI rfl (Nat.zero_le _) (Nat.zero_le _) dX8_about_88
    · replace h := gw_ifF c1 h
      by_cases c4 : v2 = 1
      · replace h := gw_ifT c4 h
        refine gw_tabIn (k := 1) (off := 37) (tgt := 89) B c4 dX8_about_52 (by decide) (by decide) ?_
        refine gw_aload_n B dX8_about_89 rfl (lv_at hl 2 rfl) ?_
        obtain ⟨g5, h⟩ := gw_gdE h
        rw [gw_rfP g5]
        obtain ⟨g6, h⟩ := gw_gdE h
        refine gw_getN (T := TX0) (k := 10) (v := .int (S (2 * v3.toNatClampNeg + 31) 10)) B hI (gc_gb g6) rfl ly_X8_about_0 (by decide) n_RX8_250 rfl rfl dX8_about_90 ?_
        rw [← Option.some.inj h]
        exact gw_iret (W' := (fun w => w = gw_cw cc a b d S)) B hI rfl (Nat.zero_le _) (Nat.zero_le _) dX8_about_93
      · replace h := gw_ifF c4 h
        by_cases c7 : v2 = 2
        · replace h := gw_ifT c7 h
          refine gw_tabIn (k := 2) (off := 42) (tgt := 94) B c7 dX8_about_52 (by decide) (by decide) ?_
          refine lv_aload_n hx hb dX8_about_94 rfl (lv_at hl 0 rfl) ?_
          refine gw_get (T := TX8) (k := 1) (v := .ref (a 3)) B hI gc_g0 rfl ly_X8_about_8 (by decide) m_X8_about_19 rfl rfl dX8_about_95 ?_
          refine gw_aload_n B dX8_about_98 rfl (lv_at hl 2 rfl) ?_
          obtain ⟨r8, e9, h⟩ := gw_bdE h
          refine gw_callV (As := [va_rf (gw_rf d v3)]) (n := 1) B hI (k_X2_daysLate v3 S e9) gX8_about_X2_daysLate rfl rfl rfl nd_X2_daysLate ⟨Nat.le_of_ble_eq_true rfl, Nat.le_of_ble_eq_true rfl⟩ gc_g3 rfl rfl rfl hl.1 (Nat.zero_le _) dX8_about_99 ⟨Nat.le_of_ble_eq_true rfl, Nat.le_of_ble_eq_true rfl⟩ rfl (fun w' H locs hw hI => ?_)
          subst hw
          rw [← Option.some.inj h]
          exact gw_iret (W' := (fun w => w = gw_cw cc a b d S)) B hI rfl (Nat.zero_le _) (Nat.zero_le _) dX8_about_102
        · replace h := gw_ifF c7 h
          by_cases c10 : v2 = 3
          · replace h := gw_ifT c10 h
            refine gw_tabIn (k := 3) (off := 51) (tgt := 103) B c10 dX8_about_52 (by decide) (by decide) ?_
            refine lv_aload_n hx hb dX8_about_103 rfl (lv_at hl 0 rfl) ?_
            refine gw_get (T := TX8) (k := 1) (v := .ref (a 3)) B hI gc_g0 rfl ly_X8_about_8 (by decide) m_X8_about_19 rfl rfl dX8_about_104 ?_
            refine gw_aload_n B dX8_about_107 rfl (lv_at hl 2 rfl) ?_
            obtain ⟨r11, e12, h⟩ := gw_bdE h
            refine gw_callV (As := [va_rf (gw_rf d v3)]) (n := 1) B hI (k_X2_harmOf v3 S e12) gX8_about_X2_harmOf rfl rfl rfl nd_X2_harmOf ⟨Nat.le_of_ble_eq_true rfl, Nat.le_of_ble_eq_true rfl⟩ gc_g3 rfl rfl rfl hl.1 (Nat.zero_le _) dX8_about_108 ⟨Nat.le_of_ble_eq_true rfl, Nat.le_of_ble_eq_true rfl⟩ rfl (fun w' H locs hw hI => ?_)
            subst hw
            rw [← Option.some.inj h]
            exact gw_iret (W' := (fun w => w = gw_cw cc a b d S)) B hI rfl (Nat.zero_le _) (Nat.zero_le _) dX8_about_111
          · replace h := gw_ifF c10 h
            refine lv_tableOut (tgt := 112) hx hb dX8_about_52 (gw_out4 c1 c4 c7 c10) (by decide) ?_
            refine lv_aload_n hx hb dX8_about_112 rfl (lv_at hl 0 rfl) ?_
            refine gw_get (T := TX8) (k := 1) (v := .ref (a 3)) B hI gc_g0 rfl ly_X8_about_8 (by decide) m_X8_about_19 rfl rfl dX8_about_113 ?_
            refine gw_aload_n B dX8_about_116 rfl (lv_at hl 2 rfl) ?_
            obtain ⟨r13, e14, h⟩ := gw_bdE h
            refine gw_callV (As := [va_rf (gw_rf d v3)]) (n := 1) B hI (k_X2_owedFor v3 S e14) gX8_about_X2_owedFor rfl rfl rfl nd_X2_owedFor ⟨Nat.le_of_ble_eq_true rfl, Nat.le_of_ble_eq_true rfl⟩ gc_g3 rfl rfl rfl hl.1 (Nat.zero_le _) dX8_about_117 ⟨Nat.le_of_ble_eq_true rfl, Nat.le_of_ble_eq_true rfl⟩ rfl (fun w' H locs hw hI => ?_)
            subst hw
            rw [← Option.some.inj h]
            exact gw_iret (W' := (fun w => w = gw_cw cc a b d S)) B hI rfl (Nat.zero_le _) (Nat.zero_le _) dX8_about_120
  have hb36 :  ∀ (v2 : Int32) (v3 : Int32), f_X8_about_b36 S  v2 v3 = some zr → ∀ (H : Heap) (locs : List Loc) (ls : Array Slot), gw_I D A s.heap (gw_cw cc a b d S) H locs → lv_has ls 4 [(0, .ref (a 0)), (2, .int v2), (3, va_rf (gw_rf d v3))] → W p l e rm_X8_about s m args below meth c H locs 0 0 (MQ below (gw_Q (some (.int zr)) (gw_Pst D A (fun w => w = gw_cw cc a b d S)) A) args s 0 0 A) (F0 m 36 ls []) := by
    intro v2 v3 h H locs ls hI hl
    unfold f_X8_about_b36 at h
    refine lv_iload_n hx hb dX8_about_36 rfl (lv_at hl 1 rfl) ?_
    refine lv_iconst (v := 2) hx hb dX8_about_37 (by decide) ?_
    refine lv_icmp_lt (tgt := 51) hx hb dX8_about_38 (by decide) (fun c15 => ?_) (fun c15 => ?_)
    · replace h := gw_ifT c15 h
      exact hb51  v2 v3 h _ _ _ hI (lv_sub hl [0, 1, 2] rfl)
    · replace h := gw_ifF c15 h
      refine gw_aload_n B dX8_about_41 rfl (lv_at hl 2 rfl) ?_
      obtain ⟨g16, h⟩ := gw_gdE h
      rw [gw_rfP g16]
      obtain ⟨g17, h⟩ := gw_gdE h
      refine gw_getN (T := TX0) (k := 9) (v := .int (S (2 * v3.toNatClampNeg + 31) 9)) B hI (gc_gb g17) rfl ly_X8_about_0 (by decide) n_RX8_255 rfl rfl dX8_about_42 ?_
      refine lv_iconst (v := 2) hx hb dX8_about_45 (by decide) ?_
      refine lv_icmp_eq (tgt := 51) hx hb dX8_about_46 (by decide) (fun c18 => ?_) (fun c18 => ?_)
      · replace h := gw_ifT c18 h
        exact hb51  v2 v3 h _ _ _ hI (lv_sub hl [0, 1, 2] rfl)
      · replace h := gw_ifF c18 h
        refine lv_iconst (v := -1) hx hb dX8_about_49 (by decide) ?_
        rw [← Option.some.inj h]
        exact gw_iret (W' := (fun w => w = gw_cw cc a b d S)) B hI rfl (Nat.zero_le _) (Nat.zero_le _) dX8_about_50
  unfold f_X8_about at h
  refine lv_aload_n hx hb dX8_about_0 rfl (lv_at hl 0 rfl) ?_
  refine gw_get (T := TX8) (k := 1) (v := .ref (a 3)) B hI gc_g0 rfl ly_X8_about_8 (by decide) m_X8_about_19 rfl rfl dX8_about_1 ?_
  refine lv_iload_n hx hb dX8_about_4 rfl (lv_at hl 1 rfl) ?_
  obtain ⟨r19, e20, h⟩ := gw_bdE h
  refine gw_callV (As := [.int x1]) (n := 1) B hI (k_X2_bookingAt x1 S e20) gX8_about_X2_bookingAt rfl rfl rfl nd_X2_bookingAt ⟨Nat.le_of_ble_eq_true rfl, Nat.le_of_ble_eq_true rfl⟩ gc_g3 rfl rfl rfl hl.1 (Nat.zero_le _) dX8_about_5 ⟨Nat.le_of_ble_eq_true rfl, Nat.le_of_ble_eq_true rfl⟩ rfl (fun w' H locs hw hI => ?_)
  subst hw
  refine gw_astore_n (lv' := [(3, va_rf (gw_rf d r19)), (0, .ref (a 0)), (1, .int x1), (2, .int x2)]) B dX8_about_8 rfl hl (by decide) rfl (fun ls hl => ?_)
  refine gw_aload_n B dX8_about_9 rfl (lv_at hl 0 rfl) ?_
  refine gw_ifnull (tgt := 22) B dX8_about_10 (by decide) (fun c21 => ?_) (fun c21 => ?_)
  · replace h := gw_ifT c21 h
    refine lv_iconst (v := -1) hx hb dX8_about_22 (by decide) ?_
    rw [← Option.some.inj h]
    exact gw_iret (W' := (fun w => w = gw_cw cc a b d S)) B hI rfl (Nat.zero_le _) (Nat.zero_le _) dX8_about_23
  · replace h := gw_ifF c21 h
    refine lv_iload_n hx hb dX8_about_13 rfl (lv_at hl 3 rfl) ?_
    refine lv_iconst (v := 0) hx hb dX8_about_14 (by decide) ?_
    refine lv_iconst (v := 4) hx hb dX8_about_15 (by decide) ?_
    obtain ⟨r22, e23, h⟩ := gw_bdE h
    refine gw_callS (As := [.int x2, .int (0 : Int32), .int (4 : Int32)]) (n := 3) B hI (k_X8_isIn x2 (0 : Int32) (4 : Int32) S e23) gX8_about_X8_isIn rfl rfl rfl nds_X8_isIn ⟨Nat.le_of_ble_eq_true rfl, Nat.le_of_ble_eq_true rfl⟩ rfl hl.1 (Nat.zero_le _) dX8_about_16 ⟨Nat.le_of_ble_eq_true rfl, Nat.le_of_ble_eq_true rfl⟩ rfl (fun w' H locs hw hI => ?_)
    subst hw
    refine lv_if_ne (tgt := 24) hx hb dX8_about_19 (by decide) (fun c24 => ?_) (fun c24 => ?_)
    · replace h := gw_ifF c24 h
      refine lv_iload_n hx hb dX8_about_24 rfl (lv_at hl 3 rfl) ?_
      refine lv_iconst (v := 1) hx hb dX8_about_25 (by decide) ?_
      refine lv_icmp_lt (tgt := 36) hx hb dX8_about_26 (by decide) (fun c25 => ?_) (fun c25 => ?_)
      · replace h := gw_ifT c25 h
        exact hb36  x2 r19 h _ _ _ hI (lv_sub hl [1, 3, 0] rfl)
      · replace h := gw_ifF c25 h
        refine gw_aload_n B dX8_about_29 rfl (lv_at hl 0 rfl) ?_
        rw [gw_rfP c21]
        obtain ⟨g26, h⟩ := gw_gdE h
        obtain ⟨r27, e28, h⟩ := gw_bdE h
        refine gw_callV (As := []) (n := 0) B hI (k_X0_wentOut r19 S e28) gX8_about_X0_wentOut rfl rfl rfl nd_X0_wentOut ⟨Nat.le_of_ble_eq_true rfl, Nat.le_of_ble_eq_true rfl⟩ (gc_gb g26) rfl rfl rfl hl.1 (Nat.zero_le _) dX8_about_30 ⟨Nat.le_of_ble_eq_true rfl, Nat.le_of_ble_eq_true rfl⟩ rfl (fun w' H locs hw hI => ?_)
        subst hw
        refine lv_if_eq (tgt := 49) hx hb dX8_about_33 (by decide) (fun c29 => ?_) (fun c29 => ?_)
        · replace h := gw_ifT c29 h
          refine lv_iconst (v := -1) hx hb dX8_about_49 (by decide) ?_
          rw [← Option.some.inj h]
          exact gw_iret (W' := (fun w => w = gw_cw cc a b d S)) B hI rfl (Nat.zero_le _) (Nat.zero_le _) dX8_about_50
        · replace h := gw_ifF c29 h
          exact hb36  x2 r19 h _ _ _ hI (lv_sub hl [1, 3, 0] rfl)
    · replace h := gw_ifT c24 h
      refine lv_iconst (v := -1) hx hb dX8_about_22 (by decide) ?_
      rw [← Option.some.inj h]
      exact gw_iret (W' := (fun w => w = gw_cw cc a b d S)) B hI rfl (Nat.zero_le _) (Nat.zero_le _) dX8_about_23
theorem m_X8_retire_19 : Cond.fieldLink RX8 19 "GownLet" "house" "LGownLet$House;" ∈ wsX8_retire := by decide +kernel
theorem ly_X8_retire_4 : ∀ w ∈ wsX40, w ∈ wsX8_retire := fun w h => List.mem_cons_of_mem _ (List.mem_append_left _ (List.mem_append_right _ h))
theorem ly_X8_retire_8 : ∀ w ∈ wsX80, w ∈ wsX8_retire := fun w h => List.mem_cons_of_mem _ (List.mem_append_left _ (List.mem_append_left _ (List.mem_append_right _ h)))
set_option maxRecDepth 100000 in
set_option maxHeartbeats 4000000 in
theorem k_X8_retire (x1 : Int32) (S : gw_S) {zr : Int32} {zS : gw_S} (h : f_X8_retire x1 S = some (zr, zS)) : gw_M l yX8_retire wsX8_retire rm_X8_retire 0 0 D (gw_ty cc) t1 t2 [.ref (a 0), .int x1] (gw_cw cc a b d S) (fun w => w = gw_cw cc a b d zS) (some (.int zr)) := by
  refine gw_enter (cc := cX8_retire) (maxL := 3) (ret := (some .int)) (own := RX8) rfl (by decide) rfl (Nat.le_of_ble_eq_true rfl) ?_
  intro p e s m below meth c A B hin hI ls hl
  have hl : lv_has ls 3 [(0, .ref (a 0)), (1, .int x1)] := hl
  generalize ([.ref (a 0), .int x1] : List Value).toArray = args at B ⊢
  have hx := B.1.1
  have hb := B.1.2.1
  have hown : s.vm.findClass RX8 = some m.cls := B.1.2.2.2.1
  have hts := B.1.2.2.2.2
  unfold f_X8_retire at h
  refine lv_aload_n hx hb dX8_retire_0 rfl (lv_at hl 0 rfl) ?_
  refine gw_get (T := TX8) (k := 1) (v := .ref (a 3)) B hI gc_g0 rfl ly_X8_retire_8 (by decide) m_X8_retire_19 rfl rfl dX8_retire_1 ?_
  refine lv_iload_n hx hb dX8_retire_4 rfl (lv_at hl 1 rfl) ?_
  obtain ⟨r1, e2, h⟩ := gw_bdE h
  refine gw_callV (As := [.int x1]) (n := 1) B hI (k_X2_pieceAt x1 S e2) gX8_retire_X2_pieceAt rfl rfl rfl nd_X2_pieceAt ⟨Nat.le_of_ble_eq_true rfl, Nat.le_of_ble_eq_true rfl⟩ gc_g3 rfl rfl rfl hl.1 (Nat.zero_le _) dX8_retire_5 ⟨Nat.le_of_ble_eq_true rfl, Nat.le_of_ble_eq_true rfl⟩ rfl (fun w' H locs hw hI => ?_)
  subst hw
  refine gw_astore_n (lv' := [(2, va_rf (gw_rf b r1)), (0, .ref (a 0)), (1, .int x1)]) B dX8_retire_8 rfl hl (by decide) rfl (fun ls hl => ?_)
  refine gw_aload_n B dX8_retire_9 rfl (lv_at hl 0 rfl) ?_
  refine gw_ifnonnull (tgt := 15) B dX8_retire_10 (by decide) (fun c3 => ?_) (fun c3 => ?_)
  · replace h := gw_ifF c3 h
    refine gw_aload_n B dX8_retire_15 rfl (lv_at hl 0 rfl) ?_
    rw [gw_rfP c3]
    obtain ⟨g4, h⟩ := gw_gdE h
    obtain ⟨r5, e6, h⟩ := gw_bdE h
    refine gw_callV (As := []) (n := 0) B hI (k_X4_isRetired r1 S e6) gX8_retire_X4_isRetired rfl rfl rfl nd_X4_isRetired ⟨Nat.le_of_ble_eq_true rfl, Nat.le_of_ble_eq_true rfl⟩ (gc_gp g4) rfl rfl rfl hl.1 (Nat.zero_le _) dX8_retire_16 ⟨Nat.le_of_ble_eq_true rfl, Nat.le_of_ble_eq_true rfl⟩ rfl (fun w' H locs hw hI => ?_)
    subst hw
    refine lv_if_eq (tgt := 25) hx hb dX8_retire_19 (by decide) (fun c7 => ?_) (fun c7 => ?_)
    · replace h := gw_ifT c7 h
      refine gw_aload_n B dX8_retire_25 rfl (lv_at hl 0 rfl) ?_
      refine lv_iconst (v := 1) hx hb dX8_retire_26 (by decide) ?_
      rw [gw_rfP c3]
      obtain ⟨S8, e9, h⟩ := gw_letE h
      refine gw_putN (T := TX4) (k := 11) (w' := gw_cw cc a b d S8) B hI (gc_gp g4) rfl ly_X8_retire_4 tyX4 tyX4_ok nmX4 (by decide) n_RX8_276 rfl rfl rfl rfl (Nat.le_of_ble_eq_true rfl) (gc_sp_11 g4 e9) dX8_retire_27 (fun H locs hI => ?_)
      refine gw_aload_n B dX8_retire_30 rfl (lv_at hl 0 rfl) ?_
      rw [gw_rfP c3]
      obtain ⟨g10, h⟩ := gw_gdE h
      obtain ⟨r11, e12, h⟩ := gw_bdE h
      refine gw_callV (As := []) (n := 0) B hI (k_X4_worth r1 S8 e12) gX8_retire_X4_worth rfl rfl rfl nd_X4_worth ⟨Nat.le_of_ble_eq_true rfl, Nat.le_of_ble_eq_true rfl⟩ (gc_gp g10) rfl rfl rfl hl.1 (Nat.zero_le _) dX8_retire_31 ⟨Nat.le_of_ble_eq_true rfl, Nat.le_of_ble_eq_true rfl⟩ rfl (fun w' H locs hw hI => ?_)
      subst hw
      obtain ⟨h1, h2⟩ := Prod.mk.inj (Option.some.inj h)
      rw [h2] at hI
      rw [← h1]
      exact gw_iret (W' := (fun w => w = gw_cw cc a b d zS)) B hI rfl (Nat.zero_le _) (Nat.zero_le _) dX8_retire_34
    · replace h := gw_ifF c7 h
      refine lv_bipush (v := -2) hx hb dX8_retire_22 (by decide) ?_
      obtain ⟨h1, h2⟩ := Prod.mk.inj (Option.some.inj h)
      rw [h2] at hI
      rw [← h1]
      exact gw_iret (W' := (fun w => w = gw_cw cc a b d zS)) B hI rfl (Nat.zero_le _) (Nat.zero_le _) dX8_retire_24
  · replace h := gw_ifT c3 h
    refine lv_iconst (v := -1) hx hb dX8_retire_13 (by decide) ?_
    obtain ⟨h1, h2⟩ := Prod.mk.inj (Option.some.inj h)
    rw [h2] at hI
    rw [← h1]
    exact gw_iret (W' := (fun w => w = gw_cw cc a b d zS)) B hI rfl (Nat.zero_le _) (Nat.zero_le _) dX8_retire_14
theorem m_X8_count_19 : Cond.fieldLink RX8 19 "GownLet" "house" "LGownLet$House;" ∈ wsX8_count := by decide +kernel
theorem ly_X8_count_2 : ∀ w ∈ wsX20, w ∈ wsX8_count := fun w h => List.mem_cons_of_mem _ (List.mem_append_left _ (List.mem_append_left _ (List.mem_append_left _ (List.mem_append_right _ h))))
theorem ly_X8_count_3 : ∀ w ∈ wsX30, w ∈ wsX8_count := fun w h => List.mem_cons_of_mem _ (List.mem_append_left _ (List.mem_append_left _ (List.mem_append_right _ h)))
theorem ly_X8_count_8 : ∀ w ∈ wsX80, w ∈ wsX8_count := fun w h => List.mem_cons_of_mem _ (List.mem_append_left _ (List.mem_append_left _ (List.mem_append_left _ (List.mem_append_left _ (List.mem_append_right _ h)))))
set_option maxRecDepth 100000 in
set_option maxHeartbeats 4000000 in
theorem k_X8_count (x1 : Int32) (S : gw_S) {zr : Int32} (h : f_X8_count x1 S = some zr) : gw_M l yX8_count wsX8_count rm_X8_count 0 0 D (gw_ty cc) t1 t2 [.ref (a 0), .int x1] (gw_cw cc a b d S) (fun w => w = gw_cw cc a b d S) (some (.int zr)) := by
  refine gw_enter (cc := cX8_count) (maxL := 2) (ret := (some .int)) (own := RX8) rfl (by decide) rfl (Nat.le_of_ble_eq_true rfl) ?_
  intro p e s m below meth c A B hin hI ls hl
  have hl : lv_has ls 2 [(0, .ref (a 0)), (1, .int x1)] := hl
  generalize ([.ref (a 0), .int x1] : List Value).toArray = args at B ⊢
  have hx := B.1.1
  have hb := B.1.2.1
  have hown : s.vm.findClass RX8 = some m.cls := B.1.2.2.2.1
  have hts := B.1.2.2.2.2
  have hb84 :  ∀ (v1 : Int32), f_X8_count_b84 S  v1 = some zr → ∀ (H : Heap) (locs : List Loc) (ls : Array Slot), gw_I D A s.heap (gw_cw cc a b d S) H locs → lv_has ls 2 [(0, .ref (a 0)), (1, .int v1)] → W p l e rm_X8_count s m args below meth c H locs 0 0 (MQ below (gw_Q (some (.int zr)) (gw_Pst D A (fun w => w = gw_cw cc a b d S)) A) args s 0 0 A) (F0 m 84 ls []) := by
    intro v1 h H locs ls hI hl
    unfold f_X8_count_b84 at h
    refine lv_aload_n hx hb dX8_count_84 rfl (lv_at hl 0 rfl) ?_
    refine gw_get (T := TX8) (k := 1) (v := .ref (a 3)) B hI gc_g0 rfl ly_X8_count_8 (by decide) m_X8_count_19 rfl rfl dX8_count_85 ?_
    refine lv_iload_n hx hb dX8_count_88 rfl (lv_at hl 1 rfl) ?_
    obtain ⟨r1, e2, h⟩ := gw_bdE h
    refine gw_callV (As := [.int v1]) (n := 1) B hI (k_X2_tallyBookings v1 S e2) gX8_count_X2_tallyBookings rfl rfl rfl nd_X2_tallyBookings ⟨Nat.le_of_ble_eq_true rfl, Nat.le_of_ble_eq_true rfl⟩ gc_g3 rfl rfl rfl hl.1 (Nat.zero_le _) dX8_count_89 ⟨Nat.le_of_ble_eq_true rfl, Nat.le_of_ble_eq_true rfl⟩ rfl (fun w' H locs hw hI => ?_)
    subst hw
    rw [← Option.some.inj h]
    exact gw_iret (W' := (fun w => w = gw_cw cc a b d S)) B hI rfl (Nat.zero_le _) (Nat.zero_le _) dX8_count_92
  have hb56 :  ∀ (v1 : Int32), f_X8_count_b56 S  v1 = some zr → ∀ (H : Heap) (locs : List Loc) (ls : Array Slot), gw_I D A s.heap (gw_cw cc a b d S) H locs → lv_has ls 2 [(0, .ref (a 0)), (1, .int v1)] → W p l e rm_X8_count s m args below meth c H locs 0 0 (MQ below (gw_Q (some (.int zr)) (gw_Pst D A (fun w => w = gw_cw cc a b d S)) A) args s 0 0 A) (F0 m 56 ls []) := by
    intro v1 h H locs ls hI hl
    unfold f_X8_count_b56 at h
    refine lv_aload_n hx hb dX8_count_56 rfl (lv_at hl 0 rfl) ?_
    refine gw_get (T := TX8) (k := 1) (v := .ref (a 3)) B hI gc_g0 rfl ly_X8_count_8 (by decide) m_X8_count_19 rfl rfl dX8_count_57 ?_
    refine lv_iload_n hx hb dX8_count_60 rfl (lv_at hl 1 rfl) ?_
    obtain ⟨r3, e4, h⟩ := gw_bdE h
    refine gw_callV (As := [.int v1]) (n := 1) B hI (k_X2_tallyPieces v1 S e4) gX8_count_X2_tallyPieces rfl rfl rfl nd_X2_tallyPieces ⟨Nat.le_of_ble_eq_true rfl, Nat.le_of_ble_eq_true rfl⟩ gc_g3 rfl rfl rfl hl.1 (Nat.zero_le _) dX8_count_61 ⟨Nat.le_of_ble_eq_true rfl, Nat.le_of_ble_eq_true rfl⟩ rfl (fun w' H locs hw hI => ?_)
    subst hw
    rw [← Option.some.inj h]
    exact gw_iret (W' := (fun w => w = gw_cw cc a b d S)) B hI rfl (Nat.zero_le _) (Nat.zero_le _) dX8_count_64
  unfold f_X8_count at h
  refine lv_iload_n hx hb dX8_count_0 rfl (lv_at hl 1 rfl) ?_
  by_cases c5 : x1 = 0
  · replace h := gw_ifT c5 h
    refine gw_tabIn (k := 0) (off := 47) (tgt := 48) B c5 dX8_count_1 (by decide) (by decide) ?_
    refine lv_aload_n hx hb dX8_count_48 rfl (lv_at hl 0 rfl) ?_
    refine gw_get (T := TX8) (k := 1) (v := .ref (a 3)) B hI gc_g0 rfl ly_X8_count_8 (by decide) m_X8_count_19 rfl rfl dX8_count_49 ?_
    refine gw_getN (T := TX2) (k := 6) (v := .int (S 3 6)) B hI gc_g3 rfl ly_X8_count_2 (by decide) n_RX8_282 rfl rfl dX8_count_52 ?_
    rw [← Option.some.inj h]
    exact gw_iret (W' := (fun w => w = gw_cw cc a b d S)) B hI rfl (Nat.zero_le _) (Nat.zero_le _) dX8_count_55
  · replace h := gw_ifF c5 h
    by_cases c6 : x1 = 1
    · replace h := gw_ifT c6 h
      refine gw_tabIn (k := 1) (off := 55) (tgt := 56) B c6 dX8_count_1 (by decide) (by decide) ?_
      exact hb56  x1 h _ _ _ hI (lv_sub hl [0, 1] rfl)
    · replace h := gw_ifF c6 h
      by_cases c7 : x1 = 2
      · replace h := gw_ifT c7 h
        refine gw_tabIn (k := 2) (off := 55) (tgt := 56) B c7 dX8_count_1 (by decide) (by decide) ?_
        exact hb56  x1 h _ _ _ hI (lv_sub hl [0, 1] rfl)
      · replace h := gw_ifF c7 h
        by_cases c8 : x1 = 3
        · replace h := gw_ifT c8 h
          refine gw_tabIn (k := 3) (off := 64) (tgt := 65) B c8 dX8_count_1 (by decide) (by decide) ?_
          refine lv_aload_n hx hb dX8_count_65 rfl (lv_at hl 0 rfl) ?_
          refine gw_get (T := TX8) (k := 1) (v := .ref (a 3)) B hI gc_g0 rfl ly_X8_count_8 (by decide) m_X8_count_19 rfl rfl dX8_count_66 ?_
          refine gw_getN (T := TX2) (k := 1) (v := .ref (a 7)) B hI gc_g3 rfl ly_X8_count_2 (by decide) n_RX8_115 rfl rfl dX8_count_69 ?_
          refine gw_getN (T := TX3) (k := 3) (v := .int (S 7 3)) B hI gc_g7 rfl ly_X8_count_3 (by decide) n_RX8_119 rfl rfl dX8_count_72 ?_
          rw [← Option.some.inj h]
          exact gw_iret (W' := (fun w => w = gw_cw cc a b d S)) B hI rfl (Nat.zero_le _) (Nat.zero_le _) dX8_count_75
        · replace h := gw_ifF c8 h
          by_cases c9 : x1 = 4
          · replace h := gw_ifT c9 h
            refine gw_tabIn (k := 4) (off := 75) (tgt := 76) B c9 dX8_count_1 (by decide) (by decide) ?_
            refine lv_aload_n hx hb dX8_count_76 rfl (lv_at hl 0 rfl) ?_
            refine gw_get (T := TX8) (k := 1) (v := .ref (a 3)) B hI gc_g0 rfl ly_X8_count_8 (by decide) m_X8_count_19 rfl rfl dX8_count_77 ?_
            refine gw_getN (T := TX2) (k := 7) (v := .int (S 3 7)) B hI gc_g3 rfl ly_X8_count_2 (by decide) n_RX8_153 rfl rfl dX8_count_80 ?_
            rw [← Option.some.inj h]
            exact gw_iret (W' := (fun w => w = gw_cw cc a b d S)) B hI rfl (Nat.zero_le _) (Nat.zero_le _) dX8_count_83
          · replace h := gw_ifF c9 h
            by_cases c10 : x1 = 5
            · replace h := gw_ifT c10 h
              refine gw_tabIn (k := 5) (off := 83) (tgt := 84) B c10 dX8_count_1 (by decide) (by decide) ?_
              exact hb84  x1 h _ _ _ hI (lv_sub hl [0, 1] rfl)
            · replace h := gw_ifF c10 h
              by_cases c11 : x1 = 6
              · replace h := gw_ifT c11 h
                refine gw_tabIn (k := 6) (off := 83) (tgt := 84) B c11 dX8_count_1 (by decide) (by decide) ?_
                exact hb84  x1 h _ _ _ hI (lv_sub hl [0, 1] rfl)
              · replace h := gw_ifF c11 h
                by_cases c12 : x1 = 7
                · replace h := gw_ifT c12 h
                  refine gw_tabIn (k := 7) (off := 55) (tgt := 56) B c12 dX8_count_1 (by decide) (by decide) ?_
                  exact hb56  x1 h _ _ _ hI (lv_sub hl [0, 1] rfl)
                · replace h := gw_ifF c12 h
                  refine lv_tableOut (tgt := 93) hx hb dX8_count_1 (gw_out8 c5 c6 c7 c8 c9 c10 c11 c12) (by decide) ?_
                  refine lv_iconst (v := -1) hx hb dX8_count_93 (by decide) ?_
                  rw [← Option.some.inj h]
                  exact gw_iret (W' := (fun w => w = gw_cw cc a b d S)) B hI rfl (Nat.zero_le _) (Nat.zero_le _) dX8_count_94
set_option maxRecDepth 100000 in
set_option maxHeartbeats 4000000 in
theorem k_X8_isSheet (x0 : Int32) (S : gw_S) {zr : Int32} (h : f_X8_isSheet x0 S = some zr) : gw_M l yX8_isSheet wsX8_isSheet rm_X8_isSheet 0 0 D (gw_ty cc) t1 t2 [.int x0] (gw_cw cc a b d S) (fun w => w = gw_cw cc a b d S) (some (.int zr)) := by
  refine gw_enter (cc := cX8_isSheet) (maxL := 1) (ret := (some .boolean)) (own := RX8) rfl (by decide) rfl (Nat.le_of_ble_eq_true rfl) ?_
  intro p e s m below meth c A B hin hI ls hl
  have hl : lv_has ls 1 [(0, .int x0)] := hl
  generalize ([.int x0] : List Value).toArray = args at B ⊢
  have hx := B.1.1
  have hb := B.1.2.1
  have hown : s.vm.findClass RX8 = some m.cls := B.1.2.2.2.1
  have hts := B.1.2.2.2.2
  unfold f_X8_isSheet at h
  refine lv_iload_n hx hb dX8_isSheet_0 rfl (lv_at hl 0 rfl) ?_
  refine lv_iconst (v := 0) hx hb dX8_isSheet_1 (by decide) ?_
  refine lv_iconst (v := 3) hx hb dX8_isSheet_2 (by decide) ?_
  obtain ⟨r1, e2, h⟩ := gw_bdE h
  refine gw_callS (As := [.int x0, .int (0 : Int32), .int (3 : Int32)]) (n := 3) B hI (k_X8_isIn x0 (0 : Int32) (3 : Int32) S e2) gX8_isSheet_X8_isIn rfl rfl rfl nds_X8_isIn ⟨Nat.le_of_ble_eq_true rfl, Nat.le_of_ble_eq_true rfl⟩ rfl hl.1 (Nat.zero_le _) dX8_isSheet_3 ⟨Nat.le_of_ble_eq_true rfl, Nat.le_of_ble_eq_true rfl⟩ rfl (fun w' H locs hw hI => ?_)
  subst hw
  obtain ⟨g3, h⟩ := gw_gdE h
  rw [← Option.some.inj h]
  exact gw_zret (W' := (fun w => w = gw_cw cc a b d S)) B hI rfl g3 (Nat.zero_le _) (Nat.zero_le _) dX8_isSheet_6
set_option maxRecDepth 100000 in
set_option maxHeartbeats 4000000 in
theorem k_X8_isLane (x0 : Int32) (S : gw_S) {zr : Int32} (h : f_X8_isLane x0 S = some zr) : gw_M l yX8_isLane wsX8_isLane rm_X8_isLane 0 0 D (gw_ty cc) t1 t2 [.int x0] (gw_cw cc a b d S) (fun w => w = gw_cw cc a b d S) (some (.int zr)) := by
  refine gw_enter (cc := cX8_isLane) (maxL := 1) (ret := (some .boolean)) (own := RX8) rfl (by decide) rfl (Nat.le_of_ble_eq_true rfl) ?_
  intro p e s m below meth c A B hin hI ls hl
  have hl : lv_has ls 1 [(0, .int x0)] := hl
  generalize ([.int x0] : List Value).toArray = args at B ⊢
  have hx := B.1.1
  have hb := B.1.2.1
  have hown : s.vm.findClass RX8 = some m.cls := B.1.2.2.2.1
  have hts := B.1.2.2.2.2
  unfold f_X8_isLane at h
  refine lv_iload_n hx hb dX8_isLane_0 rfl (lv_at hl 0 rfl) ?_
  refine lv_iconst (v := 0) hx hb dX8_isLane_1 (by decide) ?_
  refine lv_iconst (v := 2) hx hb dX8_isLane_2 (by decide) ?_
  obtain ⟨r1, e2, h⟩ := gw_bdE h
  refine gw_callS (As := [.int x0, .int (0 : Int32), .int (2 : Int32)]) (n := 3) B hI (k_X8_isIn x0 (0 : Int32) (2 : Int32) S e2) gX8_isLane_X8_isIn rfl rfl rfl nds_X8_isIn ⟨Nat.le_of_ble_eq_true rfl, Nat.le_of_ble_eq_true rfl⟩ rfl hl.1 (Nat.zero_le _) dX8_isLane_3 ⟨Nat.le_of_ble_eq_true rfl, Nat.le_of_ble_eq_true rfl⟩ rfl (fun w' H locs hw hI => ?_)
  subst hw
  obtain ⟨g3, h⟩ := gw_gdE h
  rw [← Option.some.inj h]
  exact gw_zret (W' := (fun w => w = gw_cw cc a b d S)) B hI rfl g3 (Nat.zero_le _) (Nat.zero_le _) dX8_isLane_6
theorem m_X8_sheet_35 : Cond.fieldLink RX8 35 "GownLet" "sheets" "[LGownLet$Sheet;" ∈ wsX8_sheet := by decide +kernel
theorem ly_X8_sheet_8 : ∀ w ∈ wsX80, w ∈ wsX8_sheet := fun w h => List.mem_cons_of_mem _ (List.mem_append_left _ (List.mem_append_right _ h))
set_option maxRecDepth 100000 in
set_option maxHeartbeats 4000000 in
theorem k_X8_sheet (x1 : Int32) (x2 : Int32) (x3 : Int32) (S : gw_S) {zr : Int32} {zS : gw_S} (h : f_X8_sheet x1 x2 x3 S = some (zr, zS)) : gw_M l yX8_sheet wsX8_sheet rm_X8_sheet 0 0 D (gw_ty cc) t1 t2 [.ref (a 0), .int x1, .int x2, .int x3] (gw_cw cc a b d S) (fun w => w = gw_cw cc a b d zS) (some (.int zr)) := by
  refine gw_enter (cc := cX8_sheet) (maxL := 4) (ret := (some .int)) (own := RX8) rfl (by decide) rfl (Nat.le_of_ble_eq_true rfl) ?_
  intro p e s m below meth c A B hin hI ls hl
  have hl : lv_has ls 4 [(0, .ref (a 0)), (1, .int x1), (2, .int x2), (3, .int x3)] := hl
  generalize ([.ref (a 0), .int x1, .int x2, .int x3] : List Value).toArray = args at B ⊢
  have hx := B.1.1
  have hb := B.1.2.1
  have hown : s.vm.findClass RX8 = some m.cls := B.1.2.2.2.1
  have hts := B.1.2.2.2.2
  unfold f_X8_sheet at h
  refine lv_iload_n hx hb dX8_sheet_0 rfl (lv_at hl 1 rfl) ?_
  obtain ⟨r1, e2, h⟩ := gw_bdE h
  refine gw_callS (As := [.int x1]) (n := 1) B hI (k_X8_isSheet x1 S e2) gX8_sheet_X8_isSheet rfl rfl rfl nds_X8_isSheet ⟨Nat.le_of_ble_eq_true rfl, Nat.le_of_ble_eq_true rfl⟩ rfl hl.1 (Nat.zero_le _) dX8_sheet_1 ⟨Nat.le_of_ble_eq_true rfl, Nat.le_of_ble_eq_true rfl⟩ rfl (fun w' H locs hw hI => ?_)
  subst hw
  refine lv_if_eq (tgt := 20) hx hb dX8_sheet_4 (by decide) (fun c3 => ?_) (fun c3 => ?_)
  · replace h := gw_ifT c3 h
    refine lv_iconst (v := -1) hx hb dX8_sheet_20 (by decide) ?_
    obtain ⟨h1, h2⟩ := Prod.mk.inj (Option.some.inj h)
    rw [h2] at hI
    rw [← h1]
    exact gw_iret (W' := (fun w => w = gw_cw cc a b d zS)) B hI rfl (Nat.zero_le _) (Nat.zero_le _) dX8_sheet_21
  · replace h := gw_ifF c3 h
    refine lv_iload_n hx hb dX8_sheet_7 rfl (lv_at hl 2 rfl) ?_
    obtain ⟨r4, e5, h⟩ := gw_bdE h
    refine gw_callS (As := [.int x2]) (n := 1) B hI (k_X8_isLane x2 S e5) gX8_sheet_X8_isLane rfl rfl rfl nds_X8_isLane ⟨Nat.le_of_ble_eq_true rfl, Nat.le_of_ble_eq_true rfl⟩ rfl hl.1 (Nat.zero_le _) dX8_sheet_8 ⟨Nat.le_of_ble_eq_true rfl, Nat.le_of_ble_eq_true rfl⟩ rfl (fun w' H locs hw hI => ?_)
    subst hw
    refine lv_if_eq (tgt := 20) hx hb dX8_sheet_11 (by decide) (fun c6 => ?_) (fun c6 => ?_)
    · replace h := gw_ifT c6 h
      refine lv_iconst (v := -1) hx hb dX8_sheet_20 (by decide) ?_
      obtain ⟨h1, h2⟩ := Prod.mk.inj (Option.some.inj h)
      rw [h2] at hI
      rw [← h1]
      exact gw_iret (W' := (fun w => w = gw_cw cc a b d zS)) B hI rfl (Nat.zero_le _) (Nat.zero_le _) dX8_sheet_21
    · replace h := gw_ifF c6 h
      refine lv_iload_n hx hb dX8_sheet_14 rfl (lv_at hl 3 rfl) ?_
      refine lv_bipush (v := 36) hx hb dX8_sheet_15 (by decide) ?_
      refine lv_icmp_le (tgt := 22) hx hb dX8_sheet_17 (by decide) (fun c7 => ?_) (fun c7 => ?_)
      · replace h := gw_ifT c7 h
        refine lv_iload_n hx hb dX8_sheet_22 rfl (lv_at hl 3 rfl) ?_
        refine lv_if_ge (tgt := 29) hx hb dX8_sheet_23 (by decide) (fun c8 => ?_) (fun c8 => ?_)
        · replace h := gw_ifT c8 h
          refine lv_aload_n hx hb dX8_sheet_29 rfl (lv_at hl 0 rfl) ?_
          refine gw_get (T := TX8) (k := 3) (v := .ref (a 20)) B hI gc_g0 rfl ly_X8_sheet_8 (by decide) m_X8_sheet_35 rfl rfl dX8_sheet_30 ?_
          refine lv_iload_n hx hb dX8_sheet_33 rfl (lv_at hl 1 rfl) ?_
          obtain ⟨g9, h⟩ := gw_gdE h
          obtain ⟨g10, h⟩ := gw_gdE h
          refine gw_aald (t0 := 5) (v := .ref (a (21 + x1.toNatClampNeg))) B hI gc_g20 rfl g9 (gw_shv g10) dX8_sheet_34 ?_
          refine lv_iload_n hx hb dX8_sheet_35 rfl (lv_at hl 2 rfl) ?_
          refine lv_iload_n hx hb dX8_sheet_36 rfl (lv_at hl 3 rfl) ?_
          obtain ⟨S11, e12, h⟩ := gw_bdE h
          refine gw_callVv (As := [.int x2, .int x3]) (n := 2) B hI (k_X5_begin x1 x2 x3 S e12) gX8_sheet_X5_begin rfl rfl rfl nd_X5_begin ⟨Nat.le_of_ble_eq_true rfl, Nat.le_of_ble_eq_true rfl⟩ (gc_gsh g10) rfl rfl rfl hl.1 (Nat.zero_le _) dX8_sheet_37 ⟨Nat.le_of_ble_eq_true rfl, Nat.le_of_ble_eq_true rfl⟩ rfl (fun w' H locs hw hI => ?_)
          subst hw
          refine lv_iload_n hx hb dX8_sheet_40 rfl (lv_at hl 3 rfl) ?_
          obtain ⟨h1, h2⟩ := Prod.mk.inj (Option.some.inj h)
          rw [h2] at hI
          rw [← h1]
          exact gw_iret (W' := (fun w => w = gw_cw cc a b d zS)) B hI rfl (Nat.zero_le _) (Nat.zero_le _) dX8_sheet_41
        · replace h := gw_ifF c8 h
          refine lv_bipush (v := -14) hx hb dX8_sheet_26 (by decide) ?_
          obtain ⟨h1, h2⟩ := Prod.mk.inj (Option.some.inj h)
          rw [h2] at hI
          rw [← h1]
          exact gw_iret (W' := (fun w => w = gw_cw cc a b d zS)) B hI rfl (Nat.zero_le _) (Nat.zero_le _) dX8_sheet_28
      · replace h := gw_ifF c7 h
        refine lv_iconst (v := -1) hx hb dX8_sheet_20 (by decide) ?_
        obtain ⟨h1, h2⟩ := Prod.mk.inj (Option.some.inj h)
        rw [h2] at hI
        rw [← h1]
        exact gw_iret (W' := (fun w => w = gw_cw cc a b d zS)) B hI rfl (Nat.zero_le _) (Nat.zero_le _) dX8_sheet_21
end
end
section
/-! contracts: printed by wip/gen -/
section
variable {l : Launch} {D : va_G} {t1 t2 : Nat} {cc : Nat → ClassId} {a b d : Nat → Nat}
theorem m_X8_drop_35 : Cond.fieldLink RX8 35 "GownLet" "sheets" "[LGownLet$Sheet;" ∈ wsX8_drop := by decide +kernel
theorem ly_X8_drop_5 : ∀ w ∈ wsX50, w ∈ wsX8_drop := fun w h => List.mem_cons_of_mem _ (List.mem_append_right _ h)
theorem ly_X8_drop_8 : ∀ w ∈ wsX80, w ∈ wsX8_drop := fun w h => List.mem_cons_of_mem _ (List.mem_append_left _ (List.mem_append_right _ h))
set_option maxRecDepth 100000 in
set_option maxHeartbeats 4000000 in
theorem k_X8_drop (x1 : Int32) (S : gw_S) {zr : Int32} {zS : gw_S} (h : f_X8_drop x1 S = some (zr, zS)) : gw_M l yX8_drop wsX8_drop rm_X8_drop 0 0 D (gw_ty cc) t1 t2 [.ref (a 0), .int x1] (gw_cw cc a b d S) (fun w => w = gw_cw cc a b d zS) (some (.int zr)) := by
  refine gw_enter (cc := cX8_drop) (maxL := 3) (ret := (some .int)) (own := RX8) rfl (by decide) rfl (Nat.le_of_ble_eq_true rfl) ?_
  intro p e s m below meth c A B hin hI ls hl
  have hl : lv_has ls 3 [(0, .ref (a 0)), (1, .int x1)] := hl
  generalize ([.ref (a 0), .int x1] : List Value).toArray = args at B ⊢
  have hx := B.1.1
  have hb := B.1.2.1
  have hown : s.vm.findClass RX8 = some m.cls := B.1.2.2.2.1
  have hts := B.1.2.2.2.2
  unfold f_X8_drop at h
  refine lv_iload_n hx hb dX8_drop_0 rfl (lv_at hl 1 rfl) ?_
  obtain ⟨r1, e2, h⟩ := gw_bdE h
  refine gw_callS (As := [.int x1]) (n := 1) B hI (k_X8_isSheet x1 S e2) gX8_drop_X8_isSheet rfl rfl rfl nds_X8_isSheet ⟨Nat.le_of_ble_eq_true rfl, Nat.le_of_ble_eq_true rfl⟩ rfl hl.1 (Nat.zero_le _) dX8_drop_1 ⟨Nat.le_of_ble_eq_true rfl, Nat.le_of_ble_eq_true rfl⟩ rfl (fun w' H locs hw hI => ?_)
  subst hw
  refine lv_if_ne (tgt := 9) hx hb dX8_drop_4 (by decide) (fun c3 => ?_) (fun c3 => ?_)
  · replace h := gw_ifF c3 h
    refine lv_aload_n hx hb dX8_drop_9 rfl (lv_at hl 0 rfl) ?_
    refine gw_get (T := TX8) (k := 3) (v := .ref (a 20)) B hI gc_g0 rfl ly_X8_drop_8 (by decide) m_X8_drop_35 rfl rfl dX8_drop_10 ?_
    refine lv_iload_n hx hb dX8_drop_13 rfl (lv_at hl 1 rfl) ?_
    obtain ⟨g4, h⟩ := gw_gdE h
    obtain ⟨g5, h⟩ := gw_gdE h
    refine gw_aald (t0 := 5) (v := .ref (a (21 + x1.toNatClampNeg))) B hI gc_g20 rfl g4 (gw_shv g5) dX8_drop_14 ?_
    refine lv_astore_n (lv' := [(2, .ref (a (21 + x1.toNatClampNeg))), (0, .ref (a 0)), (1, .int x1)]) hx hb dX8_drop_15 rfl hl (by decide) rfl (fun ls hl => ?_)
    refine lv_aload_n hx hb dX8_drop_16 rfl (lv_at hl 0 rfl) ?_
    refine gw_getN (T := TX5) (k := 1) (v := .int (S (21 + x1.toNatClampNeg) 1)) B hI (gc_gsh g5) rfl ly_X8_drop_5 (by decide) n_RX8_300 rfl rfl dX8_drop_17 ?_
    refine lv_if_ne (tgt := 26) hx hb dX8_drop_20 (by decide) (fun c6 => ?_) (fun c6 => ?_)
    · replace h := gw_ifF c6 h
      refine lv_aload_n hx hb dX8_drop_26 rfl (lv_at hl 0 rfl) ?_
      refine lv_iconst (v := 0) hx hb dX8_drop_27 (by decide) ?_
      obtain ⟨S7, e8, h⟩ := gw_letE h
      refine gw_putN (T := TX5) (k := 1) (w' := gw_cw cc a b d S7) B hI (gc_gsh g5) rfl ly_X8_drop_5 tyX5 tyX5_ok nmX5 (by decide) n_RX8_300 rfl rfl rfl rfl (Nat.le_of_ble_eq_true rfl) (gc_ssh_1 g5 e8) dX8_drop_28 (fun H locs hI => ?_)
      refine lv_aload_n hx hb dX8_drop_31 rfl (lv_at hl 0 rfl) ?_
      refine gw_getN (T := TX5) (k := 3) (v := .int (S7 (21 + x1.toNatClampNeg) 3)) B hI (gc_gsh g5) rfl ly_X8_drop_5 (by decide) n_RX8_303 rfl rfl dX8_drop_32 ?_
      obtain ⟨h1, h2⟩ := Prod.mk.inj (Option.some.inj h)
      rw [h2] at hI
      rw [← h1]
      exact gw_iret (W' := (fun w => w = gw_cw cc a b d zS)) B hI rfl (Nat.zero_le _) (Nat.zero_le _) dX8_drop_35
    · replace h := gw_ifT c6 h
      refine lv_bipush (v := -11) hx hb dX8_drop_23 (by decide) ?_
      obtain ⟨h1, h2⟩ := Prod.mk.inj (Option.some.inj h)
      rw [h2] at hI
      rw [← h1]
      exact gw_iret (W' := (fun w => w = gw_cw cc a b d zS)) B hI rfl (Nat.zero_le _) (Nat.zero_le _) dX8_drop_25
  · replace h := gw_ifT c3 h
    refine lv_iconst (v := -1) hx hb dX8_drop_7 (by decide) ?_
    obtain ⟨h1, h2⟩ := Prod.mk.inj (Option.some.inj h)
    rw [h2] at hI
    rw [← h1]
    exact gw_iret (W' := (fun w => w = gw_cw cc a b d zS)) B hI rfl (Nat.zero_le _) (Nat.zero_le _) dX8_drop_8
theorem m_X8_item_35 : Cond.fieldLink RX8 35 "GownLet" "sheets" "[LGownLet$Sheet;" ∈ wsX8_item := by decide +kernel
theorem ly_X8_item_8 : ∀ w ∈ wsX80, w ∈ wsX8_item := fun w h => List.mem_cons_of_mem _ (List.mem_append_left _ (List.mem_append_right _ h))
set_option maxRecDepth 100000 in
set_option maxHeartbeats 4000000 in
theorem k_X8_item (x1 : Int32) (x2 : Int32) (x3 : Int32) (x4 : Int32) (S : gw_S) {zr : Int32} {zS : gw_S} (h : f_X8_item x1 x2 x3 x4 S = some (zr, zS)) : gw_M l yX8_item wsX8_item rm_X8_item 0 0 D (gw_ty cc) t1 t2 [.ref (a 0), .int x1, .int x2, .int x3, .int x4] (gw_cw cc a b d S) (fun w => w = gw_cw cc a b d zS) (some (.int zr)) := by
  refine gw_enter (cc := cX8_item) (maxL := 7) (ret := (some .int)) (own := RX8) rfl (by decide) rfl (Nat.le_of_ble_eq_true rfl) ?_
  intro p e s m below meth c A B hin hI ls hl
  have hl : lv_has ls 7 [(0, .ref (a 0)), (1, .int x1), (2, .int x2), (3, .int x3), (4, .int x4)] := hl
  generalize ([.ref (a 0), .int x1, .int x2, .int x3, .int x4] : List Value).toArray = args at B ⊢
  have hx := B.1.1
  have hb := B.1.2.1
  have hown : s.vm.findClass RX8 = some m.cls := B.1.2.2.2.1
  have hts := B.1.2.2.2.2
  unfold f_X8_item at h
  refine lv_iload_n hx hb dX8_item_0 rfl (lv_at hl 1 rfl) ?_
  obtain ⟨r1, e2, h⟩ := gw_bdE h
  refine gw_callS (As := [.int x1]) (n := 1) B hI (k_X8_isSheet x1 S e2) gX8_item_X8_isSheet rfl rfl rfl nds_X8_isSheet ⟨Nat.le_of_ble_eq_true rfl, Nat.le_of_ble_eq_true rfl⟩ rfl hl.1 (Nat.zero_le _) dX8_item_1 ⟨Nat.le_of_ble_eq_true rfl, Nat.le_of_ble_eq_true rfl⟩ rfl (fun w' H locs hw hI => ?_)
  subst hw
  refine lv_if_eq (tgt := 14) hx hb dX8_item_4 (by decide) (fun c3 => ?_) (fun c3 => ?_)
  · replace h := gw_ifT c3 h
    refine lv_iconst (v := -1) hx hb dX8_item_14 (by decide) ?_
    obtain ⟨h1, h2⟩ := Prod.mk.inj (Option.some.inj h)
    rw [h2] at hI
    rw [← h1]
    exact gw_iret (W' := (fun w => w = gw_cw cc a b d zS)) B hI rfl (Nat.zero_le _) (Nat.zero_le _) dX8_item_15
  · replace h := gw_ifF c3 h
    refine lv_iload_n hx hb dX8_item_7 rfl (lv_at hl 2 rfl) ?_
    obtain ⟨r4, e5, h⟩ := gw_bdE h
    refine gw_callS (As := [.int x2]) (n := 1) B hI (k_X8_isLane x2 S e5) gX8_item_X8_isLane rfl rfl rfl nds_X8_isLane ⟨Nat.le_of_ble_eq_true rfl, Nat.le_of_ble_eq_true rfl⟩ rfl hl.1 (Nat.zero_le _) dX8_item_8 ⟨Nat.le_of_ble_eq_true rfl, Nat.le_of_ble_eq_true rfl⟩ rfl (fun w' H locs hw hI => ?_)
    subst hw
    refine lv_if_ne (tgt := 16) hx hb dX8_item_11 (by decide) (fun c6 => ?_) (fun c6 => ?_)
    · replace h := gw_ifF c6 h
      refine lv_aload_n hx hb dX8_item_16 rfl (lv_at hl 0 rfl) ?_
      refine gw_get (T := TX8) (k := 3) (v := .ref (a 20)) B hI gc_g0 rfl ly_X8_item_8 (by decide) m_X8_item_35 rfl rfl dX8_item_17 ?_
      refine lv_iload_n hx hb dX8_item_20 rfl (lv_at hl 1 rfl) ?_
      obtain ⟨g7, h⟩ := gw_gdE h
      obtain ⟨g8, h⟩ := gw_gdE h
      refine gw_aald (t0 := 5) (v := .ref (a (21 + x1.toNatClampNeg))) B hI gc_g20 rfl g7 (gw_shv g8) dX8_item_21 ?_
      refine lv_astore (lv' := [(5, .ref (a (21 + x1.toNatClampNeg))), (0, .ref (a 0)), (1, .int x1), (2, .int x2), (3, .int x3), (4, .int x4)]) hx hb dX8_item_22 hl (by decide) rfl (fun ls hl => ?_)
      refine lv_aload hx hb dX8_item_24 (lv_at hl 0 rfl) ?_
      refine lv_iload_n hx hb dX8_item_26 rfl (lv_at hl 3 rfl) ?_
      obtain ⟨r9, e10, h⟩ := gw_bdE h
      refine gw_callV (As := [.int x2]) (n := 1) B hI (k_X5_refusalAs x1 x2 S e10) gX8_item_X5_refusalAs rfl rfl rfl nd_X5_refusalAs ⟨Nat.le_of_ble_eq_true rfl, Nat.le_of_ble_eq_true rfl⟩ (gc_gsh g8) rfl rfl rfl hl.1 (Nat.zero_le _) dX8_item_27 ⟨Nat.le_of_ble_eq_true rfl, Nat.le_of_ble_eq_true rfl⟩ rfl (fun w' H locs hw hI => ?_)
      subst hw
      refine lv_istore (lv' := [(6, .int r9), (5, .ref (a (21 + x1.toNatClampNeg))), (0, .ref (a 0)), (1, .int x1), (2, .int x2), (3, .int x3), (4, .int x4)]) hx hb dX8_item_30 hl (by decide) rfl (fun ls hl => ?_)
      refine lv_iload hx hb dX8_item_32 (lv_at hl 0 rfl) ?_
      refine lv_if_eq (tgt := 40) hx hb dX8_item_34 (by decide) (fun c11 => ?_) (fun c11 => ?_)
      · replace h := gw_ifT c11 h
        refine lv_aload hx hb dX8_item_40 (lv_at hl 1 rfl) ?_
        refine lv_iload_n hx hb dX8_item_42 rfl (lv_at hl 5 rfl) ?_
        refine lv_iconst (v := 1) hx hb dX8_item_43 (by decide) ?_
        obtain ⟨r12, e13, h⟩ := gw_bdE h
        refine gw_callV (As := [.int x3, .int (1 : Int32)]) (n := 2) B hI (k_X5_hasItems x1 x3 (1 : Int32) S e13) gX8_item_X5_hasItems rfl rfl rfl nd_X5_hasItems ⟨Nat.le_of_ble_eq_true rfl, Nat.le_of_ble_eq_true rfl⟩ (gc_gsh g8) rfl rfl rfl hl.1 (Nat.zero_le _) dX8_item_44 ⟨Nat.le_of_ble_eq_true rfl, Nat.le_of_ble_eq_true rfl⟩ rfl (fun w' H locs hw hI => ?_)
        subst hw
        refine lv_if_ne (tgt := 53) hx hb dX8_item_47 (by decide) (fun c14 => ?_) (fun c14 => ?_)
        · replace h := gw_ifF c14 h
          refine lv_aload hx hb dX8_item_53 (lv_at hl 1 rfl) ?_
          refine lv_iload_n hx hb dX8_item_55 rfl (lv_at hl 5 rfl) ?_
          refine lv_iload hx hb dX8_item_56 (lv_at hl 6 rfl) ?_
          obtain ⟨S15, e16, h⟩ := gw_bdE h
          refine gw_callVv (As := [.int x3, .int x4]) (n := 2) B hI (k_X5_put x1 x3 x4 S e16) gX8_item_X5_put rfl rfl rfl nd_X5_put ⟨Nat.le_of_ble_eq_true rfl, Nat.le_of_ble_eq_true rfl⟩ (gc_gsh g8) rfl rfl rfl hl.1 (Nat.zero_le _) dX8_item_58 ⟨Nat.le_of_ble_eq_true rfl, Nat.le_of_ble_eq_true rfl⟩ rfl (fun w' H locs hw hI => ?_)
          subst hw
          refine lv_iconst (v := 1) hx hb dX8_item_61 (by decide) ?_
          obtain ⟨h1, h2⟩ := Prod.mk.inj (Option.some.inj h)
          rw [h2] at hI
          rw [← h1]
          exact gw_iret (W' := (fun w => w = gw_cw cc a b d zS)) B hI rfl (Nat.zero_le _) (Nat.zero_le _) dX8_item_62
        · replace h := gw_ifT c14 h
          refine lv_bipush (v := -13) hx hb dX8_item_50 (by decide) ?_
          obtain ⟨h1, h2⟩ := Prod.mk.inj (Option.some.inj h)
          rw [h2] at hI
          rw [← h1]
          exact gw_iret (W' := (fun w => w = gw_cw cc a b d zS)) B hI rfl (Nat.zero_le _) (Nat.zero_le _) dX8_item_52
      · replace h := gw_ifF c11 h
        refine lv_iload hx hb dX8_item_37 (lv_at hl 0 rfl) ?_
        obtain ⟨h1, h2⟩ := Prod.mk.inj (Option.some.inj h)
        rw [h2] at hI
        rw [← h1]
        exact gw_iret (W' := (fun w => w = gw_cw cc a b d zS)) B hI rfl (Nat.zero_le _) (Nat.zero_le _) dX8_item_39
    · replace h := gw_ifT c6 h
      refine lv_iconst (v := -1) hx hb dX8_item_14 (by decide) ?_
      obtain ⟨h1, h2⟩ := Prod.mk.inj (Option.some.inj h)
      rw [h2] at hI
      rw [← h1]
      exact gw_iret (W' := (fun w => w = gw_cw cc a b d zS)) B hI rfl (Nat.zero_le _) (Nat.zero_le _) dX8_item_15
set_option maxRecDepth 100000 in
set_option maxHeartbeats 4000000 in
theorem k_X8_isBookingOnSheet (x0 : Int32) (x1 : Int32) (S : gw_S) {zr : Int32} (h : f_X8_isBookingOnSheet x0 x1 S = some zr) : gw_M l yX8_isBookingOnSheet wsX8_isBookingOnSheet rm_X8_isBookingOnSheet 0 0 D (gw_ty cc) t1 t2 [.ref (a (21 + x0.toNatClampNeg)), .int x1] (gw_cw cc a b d S) (fun w => w = gw_cw cc a b d S) (some (.int zr)) := by
  refine gw_enter (cc := cX8_isBookingOnSheet) (maxL := 2) (ret := (some .boolean)) (own := RX8) rfl (by decide) rfl (Nat.le_of_ble_eq_true rfl) ?_
  intro p e s m below meth c A B hin hI ls hl
  have hl : lv_has ls 2 [(0, .ref (a (21 + x0.toNatClampNeg))), (1, .int x1)] := hl
  generalize ([.ref (a (21 + x0.toNatClampNeg)), .int x1] : List Value).toArray = args at B ⊢
  have hx := B.1.1
  have hb := B.1.2.1
  have hown : s.vm.findClass RX8 = some m.cls := B.1.2.2.2.1
  have hts := B.1.2.2.2.2
  unfold f_X8_isBookingOnSheet at h
  refine lv_aload_n hx hb dX8_isBookingOnSheet_0 rfl (lv_at hl 0 rfl) ?_
  refine lv_iload_n hx hb dX8_isBookingOnSheet_1 rfl (lv_at hl 1 rfl) ?_
  obtain ⟨g1, h⟩ := gw_gdE h
  obtain ⟨r2, e3, h⟩ := gw_bdE h
  refine gw_callV (As := [.int x1]) (n := 1) B hI (k_X5_get x0 x1 S e3) gX8_isBookingOnSheet_X5_get rfl rfl rfl nd_X5_get ⟨Nat.le_of_ble_eq_true rfl, Nat.le_of_ble_eq_true rfl⟩ (gc_gsh g1) rfl rfl rfl hl.1 (Nat.zero_le _) dX8_isBookingOnSheet_2 ⟨Nat.le_of_ble_eq_true rfl, Nat.le_of_ble_eq_true rfl⟩ rfl (fun w' H locs hw hI => ?_)
  subst hw
  refine lv_aload_n hx hb dX8_isBookingOnSheet_5 rfl (lv_at hl 0 rfl) ?_
  refine lv_iload_n hx hb dX8_isBookingOnSheet_6 rfl (lv_at hl 1 rfl) ?_
  refine lv_iconst (v := 1) hx hb dX8_isBookingOnSheet_7 (by decide) ?_
  refine lv_iadd hx hb dX8_isBookingOnSheet_8 ?_
  obtain ⟨r4, e5, h⟩ := gw_bdE h
  refine gw_callV (As := [.int (x1 + (1 : Int32))]) (n := 1) B hI (k_X5_get x0 (x1 + (1 : Int32)) S e5) gX8_isBookingOnSheet_X5_get rfl rfl rfl nd_X5_get ⟨Nat.le_of_ble_eq_true rfl, Nat.le_of_ble_eq_true rfl⟩ (gc_gsh g1) rfl rfl rfl hl.1 (by simp [gw_catq, gw_cI, gw_cR, gw_cL]) dX8_isBookingOnSheet_9 ⟨Nat.le_of_ble_eq_true rfl, Nat.le_of_ble_eq_true rfl⟩ rfl (fun w' H locs hw hI => ?_)
  subst hw
  refine lv_aload_n hx hb dX8_isBookingOnSheet_12 rfl (lv_at hl 0 rfl) ?_
  refine lv_iload_n hx hb dX8_isBookingOnSheet_13 rfl (lv_at hl 1 rfl) ?_
  refine lv_iconst (v := 2) hx hb dX8_isBookingOnSheet_14 (by decide) ?_
  refine lv_iadd hx hb dX8_isBookingOnSheet_15 ?_
  obtain ⟨r6, e7, h⟩ := gw_bdE h
  refine gw_callV (As := [.int (x1 + (2 : Int32))]) (n := 1) B hI (k_X5_get x0 (x1 + (2 : Int32)) S e7) gX8_isBookingOnSheet_X5_get rfl rfl rfl nd_X5_get ⟨Nat.le_of_ble_eq_true rfl, Nat.le_of_ble_eq_true rfl⟩ (gc_gsh g1) rfl rfl rfl hl.1 (by simp [gw_catq, gw_cI, gw_cR, gw_cL]) dX8_isBookingOnSheet_16 ⟨Nat.le_of_ble_eq_true rfl, Nat.le_of_ble_eq_true rfl⟩ rfl (fun w' H locs hw hI => ?_)
  subst hw
  refine lv_aload_n hx hb dX8_isBookingOnSheet_19 rfl (lv_at hl 0 rfl) ?_
  refine lv_iload_n hx hb dX8_isBookingOnSheet_20 rfl (lv_at hl 1 rfl) ?_
  refine lv_iconst (v := 3) hx hb dX8_isBookingOnSheet_21 (by decide) ?_
  refine lv_iadd hx hb dX8_isBookingOnSheet_22 ?_
  obtain ⟨r8, e9, h⟩ := gw_bdE h
  refine gw_callV (As := [.int (x1 + (3 : Int32))]) (n := 1) B hI (k_X5_get x0 (x1 + (3 : Int32)) S e9) gX8_isBookingOnSheet_X5_get rfl rfl rfl nd_X5_get ⟨Nat.le_of_ble_eq_true rfl, Nat.le_of_ble_eq_true rfl⟩ (gc_gsh g1) rfl rfl rfl hl.1 (by simp [gw_catq, gw_cI, gw_cR, gw_cL]) dX8_isBookingOnSheet_23 ⟨Nat.le_of_ble_eq_true rfl, Nat.le_of_ble_eq_true rfl⟩ rfl (fun w' H locs hw hI => ?_)
  subst hw
  refine lv_aload_n hx hb dX8_isBookingOnSheet_26 rfl (lv_at hl 0 rfl) ?_
  refine lv_iload_n hx hb dX8_isBookingOnSheet_27 rfl (lv_at hl 1 rfl) ?_
  refine lv_iconst (v := 4) hx hb dX8_isBookingOnSheet_28 (by decide) ?_
  refine lv_iadd hx hb dX8_isBookingOnSheet_29 ?_
  obtain ⟨r10, e11, h⟩ := gw_bdE h
  refine gw_callV (As := [.int (x1 + (4 : Int32))]) (n := 1) B hI (k_X5_get x0 (x1 + (4 : Int32)) S e11) gX8_isBookingOnSheet_X5_get rfl rfl rfl nd_X5_get ⟨Nat.le_of_ble_eq_true rfl, Nat.le_of_ble_eq_true rfl⟩ (gc_gsh g1) rfl rfl rfl hl.1 (by simp [gw_catq, gw_cI, gw_cR, gw_cL]) dX8_isBookingOnSheet_30 ⟨Nat.le_of_ble_eq_true rfl, Nat.le_of_ble_eq_true rfl⟩ rfl (fun w' H locs hw hI => ?_)
  subst hw
  refine lv_aload_n hx hb dX8_isBookingOnSheet_33 rfl (lv_at hl 0 rfl) ?_
  refine lv_iload_n hx hb dX8_isBookingOnSheet_34 rfl (lv_at hl 1 rfl) ?_
  refine lv_iconst (v := 5) hx hb dX8_isBookingOnSheet_35 (by decide) ?_
  refine lv_iadd hx hb dX8_isBookingOnSheet_36 ?_
  obtain ⟨r12, e13, h⟩ := gw_bdE h
  refine gw_callV (As := [.int (x1 + (5 : Int32))]) (n := 1) B hI (k_X5_get x0 (x1 + (5 : Int32)) S e13) gX8_isBookingOnSheet_X5_get rfl rfl rfl nd_X5_get ⟨Nat.le_of_ble_eq_true rfl, Nat.le_of_ble_eq_true rfl⟩ (gc_gsh g1) rfl rfl rfl hl.1 (by simp [gw_catq, gw_cI, gw_cR, gw_cL]) dX8_isBookingOnSheet_37 ⟨Nat.le_of_ble_eq_true rfl, Nat.le_of_ble_eq_true rfl⟩ rfl (fun w' H locs hw hI => ?_)
  subst hw
  obtain ⟨r14, e15, h⟩ := gw_bdE h
  refine gw_callS (As := [.int r2, .int r4, .int r6, .int r8, .int r10, .int r12]) (n := 6) B hI (k_X8_isBookingAsTold r2 r4 r6 r8 r10 r12 S e15) gX8_isBookingOnSheet_X8_isBookingAsTold rfl rfl rfl nds_X8_isBookingAsTold ⟨Nat.le_of_ble_eq_true rfl, Nat.le_of_ble_eq_true rfl⟩ rfl hl.1 (Nat.zero_le _) dX8_isBookingOnSheet_40 ⟨Nat.le_of_ble_eq_true rfl, Nat.le_of_ble_eq_true rfl⟩ rfl (fun w' H locs hw hI => ?_)
  subst hw
  obtain ⟨g16, h⟩ := gw_gdE h
  rw [← Option.some.inj h]
  exact gw_zret (W' := (fun w => w = gw_cw cc a b d S)) B hI rfl g16 (Nat.zero_le _) (Nat.zero_le _) dX8_isBookingOnSheet_43
set_option maxRecDepth 100000 in
set_option maxHeartbeats 4000000 in
theorem k_X9_in (x0 : Int64) (x2 : Int64) (x4 : Int64) (S : gw_S) {zr : Int32} (h : f_X9_in x0 x2 x4 S = some zr) : gw_M l yX9_in wsX9_in rm_X9_in 0 0 D (gw_ty cc) t1 t2 [.long x0, .long x2, .long x4] (gw_mw cc a S) (fun w => w = gw_mw cc a S) (some (.int zr)) := by
  refine gw_enter (cc := cX9_in) (maxL := 6) (ret := (some .boolean)) (own := RX9) rfl (by decide) rfl (Nat.le_of_ble_eq_true rfl) ?_
  intro p e s m below meth c A B hin hI ls hl
  have hl : lv_has ls 6 [(0, .long x0), (2, .long x2), (4, .long x4)] := hl
  generalize ([.long x0, .long x2, .long x4] : List Value).toArray = args at B ⊢
  have hx := B.1.1
  have hb := B.1.2.1
  have hown : s.vm.findClass RX9 = some m.cls := B.1.2.2.2.1
  have hts := B.1.2.2.2.2
  unfold f_X9_in at h
  refine lv_lload_n hx hb dX9_in_0 rfl (lv_at hl 0 rfl) ?_
  refine lv_lload_n hx hb dX9_in_1 rfl (lv_at hl 1 rfl) ?_
  refine W.lcmp hx hb dX9_in_2 ?_
  refine lv_if_lt (tgt := 17) hx hb dX9_in_3 (by decide) (fun c1 => ?_) (fun c1 => ?_)
  · replace h := gw_ifT c1 h
    refine lv_iconst (v := 0) hx hb dX9_in_17 (by decide) ?_
    rw [← Option.some.inj h]
    exact gw_zret (W' := (fun w => w = gw_mw cc a S)) B hI rfl (Or.inl rfl) (Nat.zero_le _) (Nat.zero_le _) dX9_in_18
  · replace h := gw_ifF c1 h
    refine lv_lload_n hx hb dX9_in_6 rfl (lv_at hl 0 rfl) ?_
    refine lv_lload hx hb dX9_in_7 (lv_at hl 2 rfl) ?_
    refine W.lcmp hx hb dX9_in_9 ?_
    refine lv_if_gt (tgt := 17) hx hb dX9_in_10 (by decide) (fun c2 => ?_) (fun c2 => ?_)
    · replace h := gw_ifT c2 h
      refine lv_iconst (v := 0) hx hb dX9_in_17 (by decide) ?_
      rw [← Option.some.inj h]
      exact gw_zret (W' := (fun w => w = gw_mw cc a S)) B hI rfl (Or.inl rfl) (Nat.zero_le _) (Nat.zero_le _) dX9_in_18
    · replace h := gw_ifF c2 h
      refine lv_iconst (v := 1) hx hb dX9_in_13 (by decide) ?_
      refine lv_goto (tgt := 18) hx hb dX9_in_14 (by decide) ?_
      rw [← Option.some.inj h]
      exact gw_zret (W' := (fun w => w = gw_mw cc a S)) B hI rfl (Or.inr rfl) (Nat.zero_le _) (Nat.zero_le _) dX9_in_18
theorem m_X9_type_158 : Cond.fieldLink RX9 158 "GownLetModel" "taped" "I" ∈ wsX9_type := by decide +kernel
theorem m_X9_type_22 : Cond.fieldLink RX9 22 "GownLetModel" "tape" "[I" ∈ wsX9_type := by decide +kernel
theorem ly_X9_type_9 : ∀ w ∈ wsX90, w ∈ wsX9_type := fun w h => List.mem_cons_of_mem _ (List.mem_append_right _ h)
set_option maxRecDepth 100000 in
set_option maxHeartbeats 4000000 in
theorem k_X9_type (x1 : Int64) (x3 : Int32) (S : gw_S) {zr : Int32} {zS : gw_S} (h : f_X9_type x1 x3 S = some (zr, zS)) : gw_M l yX9_type wsX9_type rm_X9_type 0 0 D (gw_ty cc) t1 t2 [.ref (a 0), .long x1, .int x3] (gw_mw cc a S) (fun w => w = gw_mw cc a zS) (some (.int zr)) := by
  refine gw_enter (cc := cX9_type) (maxL := 5) (ret := (some .int)) (own := RX9) rfl (by decide) rfl (Nat.le_of_ble_eq_true rfl) ?_
  intro p e s m below meth c A B hin hI ls hl
  have hl : lv_has ls 5 [(0, .ref (a 0)), (1, .long x1), (3, .int x3)] := hl
  generalize ([.ref (a 0), .long x1, .int x3] : List Value).toArray = args at B ⊢
  have hx := B.1.1
  have hb := B.1.2.1
  have hown : s.vm.findClass RX9 = some m.cls := B.1.2.2.2.1
  have hts := B.1.2.2.2.2
  have hb74 :  ∀ (n : Nat), ∀ (v1 : Int64) (v4 : Int32) (S : gw_S), f_X9_type_b74  n v1 v4 S = some (zr, zS) → ∀ (H : Heap) (locs : List Loc) (ls : Array Slot), gw_I D A s.heap (gw_mw cc a S) H locs → lv_has ls 5 [(0, .ref (a 0)), (1, .long v1), (4, .int v4)] → W p l e rm_X9_type s m args below meth c H locs 0 0 (MQ below (gw_Q (some (.int zr)) (gw_Pst D A (fun w => w = gw_mw cc a zS)) A) args s 0 0 A) (F0 m 74 ls []) := by
    intro n
    induction n with
    | zero =>
      intro v1 v4 S h
      cases h
    | succ n ih =>
      intro v1 v4 S h H locs ls hI hl
      unfold f_X9_type_b74 at h
      refine lv_iload hx hb dX9_type_74 (lv_at hl 2 rfl) ?_
      refine lv_if_lt (tgt := 116) hx hb dX9_type_76 (by decide) (fun c1 => ?_) (fun c1 => ?_)
      · replace h := gw_ifT c1 h
        refine lv_aload_n hx hb dX9_type_116 rfl (lv_at hl 0 rfl) ?_
        refine gw_get (T := TX9) (k := 5) (v := .int (S 0 5)) B hI gm_g0 rfl ly_X9_type_9 (by decide) m_X9_type_158 rfl rfl dX9_type_117 ?_
        obtain ⟨h1, h2⟩ := Prod.mk.inj (Option.some.inj h)
        rw [h2] at hI
        rw [← h1]
        exact gw_iret (W' := (fun w => w = gw_mw cc a zS)) B hI rfl (Nat.zero_le _) (Nat.zero_le _) dX9_type_120
      · replace h := gw_ifF c1 h
        refine lv_aload_n hx hb dX9_type_79 rfl (lv_at hl 0 rfl) ?_
        refine gw_get (T := TX9) (k := 4) (v := .ref (a 5)) B hI gm_g0 rfl ly_X9_type_9 (by decide) m_X9_type_22 rfl rfl dX9_type_80 ?_
        refine lv_aload_n hx hb dX9_type_83 rfl (lv_at hl 0 rfl) ?_
        refine gw_get (T := TX9) (k := 5) (v := .int (S 0 5)) B hI gm_g0 rfl ly_X9_type_9 (by decide) m_X9_type_158 rfl rfl dX9_type_84 ?_
        refine lv_lload_n hx hb dX9_type_87 rfl (lv_at hl 1 rfl) ?_
        refine lv_bipush (v := 8) hx hb dX9_type_88 (by decide) ?_
        refine lv_iload hx hb dX9_type_90 (lv_at hl 2 rfl) ?_
        refine lv_imul hx hb dX9_type_92 ?_
        refine lv_lshr hx hb dX9_type_93 rfl ?_
        refine lv_ldc2 (v := 255) hx hb hown (hts (.constantLong RX9 152 (255)) (by decide +kernel)) dX9_type_94 ?_
        refine lv_land hx hb dX9_type_97 ?_
        refine lv_l2i hx hb dX9_type_98 rfl ?_
        obtain ⟨g2, h⟩ := gw_gdE h
        obtain ⟨S3, e4, h⟩ := gw_letE h
        refine gw_iast (t0 := 0) (w' := gw_mw cc a S3) B hI gm_g5 rfl g2 (gm_s5 e4) dX9_type_99 (fun H locs hI => ?_)
        refine lv_aload_n hx hb dX9_type_100 rfl (lv_at hl 0 rfl) ?_
        refine lv_dup hx hb dX9_type_101 rfl ?_
        refine gw_get (T := TX9) (k := 5) (v := .int (S3 0 5)) B hI gm_g0 rfl ly_X9_type_9 (by decide) m_X9_type_158 rfl rfl dX9_type_102 ?_
        refine lv_iconst (v := 1) hx hb dX9_type_105 (by decide) ?_
        refine lv_iadd hx hb dX9_type_106 ?_
        obtain ⟨S5, e6, h⟩ := gw_letE h
        refine gw_put (T := TX9) (k := 5) (w' := gw_mw cc a S5) B hI gm_g0 rfl ly_X9_type_9 tyX9 tyX9_ok nmX9 (by decide) m_X9_type_158 rfl rfl rfl rfl (Nat.le_of_ble_eq_true rfl) (gm_s0_5 e6) dX9_type_107 (fun H locs hI => ?_)
        obtain ⟨y7, e8, h⟩ := gw_letE h
        refine lv_iinc (v := y7) (lv' := [(4, .int y7), (0, .ref (a 0)), (1, .long v1)]) hx hb dX9_type_110 hl (k := 2) rfl (by rw [e8]; rfl) (by decide) rfl (fun ls hl => ?_)
        refine lv_goto (tgt := 74) hx hb dX9_type_113 (by decide) ?_
        exact ih v1 y7 S5 h _ _ _ hI (lv_sub hl [1, 2, 0] rfl)
  have hb19 :  ∀ (n : Nat), ∀ (v1 : Int64) (v3 : Int32) (v4 : Int32) (S : gw_S), f_X9_type_b19  n v1 v3 v4 S = some (zr, zS) → ∀ (H : Heap) (locs : List Loc) (ls : Array Slot), gw_I D A s.heap (gw_mw cc a S) H locs → lv_has ls 5 [(0, .ref (a 0)), (1, .long v1), (3, .int v3), (4, .int v4)] → W p l e rm_X9_type s m args below meth c H locs 0 0 (MQ below (gw_Q (some (.int zr)) (gw_Pst D A (fun w => w = gw_mw cc a zS)) A) args s 0 0 A) (F0 m 19 ls []) := by
    intro n
    induction n with
    | zero =>
      intro v1 v3 v4 S h
      cases h
    | succ n ih =>
      intro v1 v3 v4 S h H locs ls hI hl
      unfold f_X9_type_b19 at h
      refine lv_iload hx hb dX9_type_19 (lv_at hl 3 rfl) ?_
      refine lv_if_lt (tgt := 55) hx hb dX9_type_21 (by decide) (fun c9 => ?_) (fun c9 => ?_)
      · replace h := gw_ifT c9 h
        refine lv_aload_n hx hb dX9_type_55 rfl (lv_at hl 0 rfl) ?_
        refine gw_get (T := TX9) (k := 5) (v := .int (S 0 5)) B hI gm_g0 rfl ly_X9_type_9 (by decide) m_X9_type_158 rfl rfl dX9_type_56 ?_
        refine lv_iload_n hx hb dX9_type_59 rfl (lv_at hl 2 rfl) ?_
        refine lv_iadd hx hb dX9_type_60 ?_
        refine lv_bipush (v := 60) hx hb dX9_type_61 (by decide) ?_
        refine lv_icmp_le (tgt := 69) hx hb dX9_type_63 (by decide) (fun c10 => ?_) (fun c10 => ?_)
        · replace h := gw_ifT c10 h
          refine lv_iload_n hx hb dX9_type_69 rfl (lv_at hl 2 rfl) ?_
          refine lv_iconst (v := 1) hx hb dX9_type_70 (by decide) ?_
          refine lv_isub hx hb dX9_type_71 ?_
          obtain ⟨y11, e12, h⟩ := gw_letE h
          rw [← e12]
          refine lv_istore (lv' := [(4, .int y11), (0, .ref (a 0)), (1, .long v1), (3, .int v3)]) hx hb dX9_type_72 hl (by decide) rfl (fun ls hl => ?_)
          exact hb74  gw_F v1 y11 S h _ _ _ hI (lv_sub hl [1, 2, 0] rfl)
        · replace h := gw_ifF c10 h
          refine lv_bipush (v := -3) hx hb dX9_type_66 (by decide) ?_
          obtain ⟨h1, h2⟩ := Prod.mk.inj (Option.some.inj h)
          rw [h2] at hI
          rw [← h1]
          exact gw_iret (W' := (fun w => w = gw_mw cc a zS)) B hI rfl (Nat.zero_le _) (Nat.zero_le _) dX9_type_68
      · replace h := gw_ifF c9 h
        refine lv_lload_n hx hb dX9_type_24 rfl (lv_at hl 1 rfl) ?_
        refine lv_bipush (v := 8) hx hb dX9_type_25 (by decide) ?_
        refine lv_iload hx hb dX9_type_27 (lv_at hl 3 rfl) ?_
        refine lv_imul hx hb dX9_type_29 ?_
        refine lv_lshr hx hb dX9_type_30 rfl ?_
        refine lv_ldc2 (v := 255) hx hb hown (hts (.constantLong RX9 152 (255)) (by decide +kernel)) dX9_type_31 ?_
        refine lv_land hx hb dX9_type_34 ?_
        refine lv_ldc2 (v := 32) hx hb hown (hts (.constantLong RX9 154 (32)) (by decide +kernel)) dX9_type_35 ?_
        refine lv_ldc2 (v := 126) hx hb hown (hts (.constantLong RX9 156 (126)) (by decide +kernel)) dX9_type_38 ?_
        obtain ⟨r13, e14, h⟩ := gw_bdE h
        refine gw_callS (As := [.long ((v1 >>> (((8 : Int32) * v4).toInt64 &&& 63)) &&& (255 : Int64)), .long (32 : Int64), .long (126 : Int64)]) (n := 3) B hI (k_X9_in ((v1 >>> (((8 : Int32) * v4).toInt64 &&& 63)) &&& (255 : Int64)) (32 : Int64) (126 : Int64) S e14) gX9_type_X9_in rfl rfl rfl nds_X9_in ⟨Nat.le_of_ble_eq_true rfl, Nat.le_of_ble_eq_true rfl⟩ rfl hl.1 (Nat.zero_le _) dX9_type_41 ⟨Nat.le_of_ble_eq_true rfl, Nat.le_of_ble_eq_true rfl⟩ rfl (fun w' H locs hw hI => ?_)
        subst hw
        refine lv_if_ne (tgt := 49) hx hb dX9_type_44 (by decide) (fun c15 => ?_) (fun c15 => ?_)
        · replace h := gw_ifF c15 h
          obtain ⟨y16, e17, h⟩ := gw_letE h
          refine lv_iinc (v := y16) (lv' := [(4, .int y16), (0, .ref (a 0)), (1, .long v1), (3, .int v3)]) hx hb dX9_type_49 hl (k := 3) rfl (by rw [e17]; rfl) (by decide) rfl (fun ls hl => ?_)
          refine lv_goto (tgt := 19) hx hb dX9_type_52 (by decide) ?_
          exact ih v1 v3 y16 S h _ _ _ hI (lv_sub hl [1, 2, 3, 0] rfl)
        · replace h := gw_ifT c15 h
          refine lv_iconst (v := -1) hx hb dX9_type_47 (by decide) ?_
          obtain ⟨h1, h2⟩ := Prod.mk.inj (Option.some.inj h)
          rw [h2] at hI
          rw [← h1]
          exact gw_iret (W' := (fun w => w = gw_mw cc a zS)) B hI rfl (Nat.zero_le _) (Nat.zero_le _) dX9_type_48
  unfold f_X9_type at h
  refine lv_iload_n hx hb dX9_type_0 rfl (lv_at hl 2 rfl) ?_
  refine lv_i2l hx hb dX9_type_1 rfl ?_
  refine lv_lconst (v := 1) hx hb dX9_type_2 (by decide) ?_
  refine lv_ldc2 (v := 8) hx hb hown (hts (.constantLong RX9 146 (8)) (by decide +kernel)) dX9_type_3 ?_
  obtain ⟨r18, e19, h⟩ := gw_bdE h
  refine gw_callS (As := [.long (x3.toInt64), .long (1 : Int64), .long (8 : Int64)]) (n := 3) B hI (k_X9_in (x3.toInt64) (1 : Int64) (8 : Int64) S e19) gX9_type_X9_in rfl rfl rfl nds_X9_in ⟨Nat.le_of_ble_eq_true rfl, Nat.le_of_ble_eq_true rfl⟩ rfl hl.1 (Nat.zero_le _) dX9_type_6 ⟨Nat.le_of_ble_eq_true rfl, Nat.le_of_ble_eq_true rfl⟩ rfl (fun w' H locs hw hI => ?_)
  subst hw
  refine lv_if_ne (tgt := 14) hx hb dX9_type_9 (by decide) (fun c20 => ?_) (fun c20 => ?_)
  · replace h := gw_ifF c20 h
    refine lv_iload_n hx hb dX9_type_14 rfl (lv_at hl 2 rfl) ?_
    refine lv_iconst (v := 1) hx hb dX9_type_15 (by decide) ?_
    refine lv_isub hx hb dX9_type_16 ?_
    obtain ⟨y21, e22, h⟩ := gw_letE h
    rw [← e22]
    refine lv_istore (lv' := [(4, .int y21), (0, .ref (a 0)), (1, .long x1), (3, .int x3)]) hx hb dX9_type_17 hl (by decide) rfl (fun ls hl => ?_)
    exact hb19  gw_F x1 x3 y21 S h _ _ _ hI (lv_sub hl [1, 2, 3, 0] rfl)
  · replace h := gw_ifT c20 h
    refine lv_iconst (v := -1) hx hb dX9_type_12 (by decide) ?_
    obtain ⟨h1, h2⟩ := Prod.mk.inj (Option.some.inj h)
    rw [h2] at hI
    rw [← h1]
    exact gw_iret (W' := (fun w => w = gw_mw cc a zS)) B hI rfl (Nat.zero_le _) (Nat.zero_le _) dX9_type_13
theorem m_X9_next_158 : Cond.fieldLink RX9 158 "GownLetModel" "taped" "I" ∈ wsX9_next := by decide +kernel
theorem m_X9_next_162 : Cond.fieldLink RX9 162 "GownLetModel" "at" "I" ∈ wsX9_next := by decide +kernel
theorem m_X9_next_22 : Cond.fieldLink RX9 22 "GownLetModel" "tape" "[I" ∈ wsX9_next := by decide +kernel
theorem ly_X9_next_9 : ∀ w ∈ wsX90, w ∈ wsX9_next := fun w h => List.mem_cons_of_mem _ (List.mem_append_right _ h)
set_option maxRecDepth 100000 in
set_option maxHeartbeats 4000000 in
theorem k_X9_next  (S : gw_S) {zr : Int32} {zS : gw_S} (h : f_X9_next  S = some (zr, zS)) : gw_M l yX9_next wsX9_next rm_X9_next 0 0 D (gw_ty cc) t1 t2 [.ref (a 0)] (gw_mw cc a S) (fun w => w = gw_mw cc a zS) (some (.int zr)) := by
  refine gw_enter (cc := cX9_next) (maxL := 1) (ret := (some .int)) (own := RX9) rfl (by decide) rfl (Nat.le_of_ble_eq_true rfl) ?_
  intro p e s m below meth c A B hin hI ls hl
  have hl : lv_has ls 1 [(0, .ref (a 0))] := hl
  generalize ([.ref (a 0)] : List Value).toArray = args at B ⊢
  have hx := B.1.1
  have hb := B.1.2.1
  have hown : s.vm.findClass RX9 = some m.cls := B.1.2.2.2.1
  have hts := B.1.2.2.2.2
  have hb38 :  ∀  (S : gw_S), f_X9_next_b38   S = some (zr, zS) → ∀ (H : Heap) (locs : List Loc) (ls : Array Slot), gw_I D A s.heap (gw_mw cc a S) H locs → lv_has ls 1 [(0, .ref (a 0))] → W p l e rm_X9_next s m args below meth c H locs 0 0 (MQ below (gw_Q (some (.int zr)) (gw_Pst D A (fun w => w = gw_mw cc a zS)) A) args s 0 0 A) (F0 m 38 ls []) := by
    intro  S h H locs ls hI hl
    unfold f_X9_next_b38 at h
    refine lv_aload_n hx hb dX9_next_38 rfl (lv_at hl 0 rfl) ?_
    refine gw_get (T := TX9) (k := 6) (v := .int (S 0 6)) B hI gm_g0 rfl ly_X9_next_9 (by decide) m_X9_next_162 rfl rfl dX9_next_39 ?_
    refine lv_aload_n hx hb dX9_next_42 rfl (lv_at hl 0 rfl) ?_
    refine gw_get (T := TX9) (k := 5) (v := .int (S 0 5)) B hI gm_g0 rfl ly_X9_next_9 (by decide) m_X9_next_158 rfl rfl dX9_next_43 ?_
    refine lv_icmp_ge (tgt := 61) hx hb dX9_next_46 (by decide) (fun c1 => ?_) (fun c1 => ?_)
    · replace h := gw_ifT c1 h
      refine lv_iconst (v := -1) hx hb dX9_next_61 (by decide) ?_
      obtain ⟨h1, h2⟩ := Prod.mk.inj (Option.some.inj h)
      rw [h2] at hI
      rw [← h1]
      exact gw_iret (W' := (fun w => w = gw_mw cc a zS)) B hI rfl (Nat.zero_le _) (Nat.zero_le _) dX9_next_62
    · replace h := gw_ifF c1 h
      refine lv_aload_n hx hb dX9_next_49 rfl (lv_at hl 0 rfl) ?_
      refine gw_get (T := TX9) (k := 4) (v := .ref (a 5)) B hI gm_g0 rfl ly_X9_next_9 (by decide) m_X9_next_22 rfl rfl dX9_next_50 ?_
      refine lv_aload_n hx hb dX9_next_53 rfl (lv_at hl 0 rfl) ?_
      refine gw_get (T := TX9) (k := 6) (v := .int (S 0 6)) B hI gm_g0 rfl ly_X9_next_9 (by decide) m_X9_next_162 rfl rfl dX9_next_54 ?_
      obtain ⟨g2, h⟩ := gw_gdE h
      refine gw_iald (t0 := 0) B hI gm_g5 rfl g2 dX9_next_57 ?_
      refine lv_goto (tgt := 62) hx hb dX9_next_58 (by decide) ?_
      obtain ⟨h1, h2⟩ := Prod.mk.inj (Option.some.inj h)
      rw [h2] at hI
      rw [← h1]
      exact gw_iret (W' := (fun w => w = gw_mw cc a zS)) B hI rfl (Nat.zero_le _) (Nat.zero_le _) dX9_next_62
  have hb0 :  ∀ (n : Nat), ∀  (S : gw_S), f_X9_next_b0  n  S = some (zr, zS) → ∀ (H : Heap) (locs : List Loc) (ls : Array Slot), gw_I D A s.heap (gw_mw cc a S) H locs → lv_has ls 1 [(0, .ref (a 0))] → W p l e rm_X9_next s m args below meth c H locs 0 0 (MQ below (gw_Q (some (.int zr)) (gw_Pst D A (fun w => w = gw_mw cc a zS)) A) args s 0 0 A) (F0 m 0 ls []) := by
    intro n
    induction n with
    | zero =>
      intro  S h
      cases h
    | succ n ih =>
      intro  S h H locs ls hI hl
      unfold f_X9_next_b0 at h
      refine lv_aload_n hx hb dX9_next_0 rfl (lv_at hl 0 rfl) ?_
      refine gw_get (T := TX9) (k := 6) (v := .int (S 0 6)) B hI gm_g0 rfl ly_X9_next_9 (by decide) m_X9_next_162 rfl rfl dX9_next_1 ?_
      refine lv_aload_n hx hb dX9_next_4 rfl (lv_at hl 0 rfl) ?_
      refine gw_get (T := TX9) (k := 5) (v := .int (S 0 5)) B hI gm_g0 rfl ly_X9_next_9 (by decide) m_X9_next_158 rfl rfl dX9_next_5 ?_
      refine lv_icmp_ge (tgt := 38) hx hb dX9_next_8 (by decide) (fun c3 => ?_) (fun c3 => ?_)
      · replace h := gw_ifT c3 h
        exact hb38   S h _ _ _ hI (lv_sub hl [0] rfl)
      · replace h := gw_ifF c3 h
        refine lv_aload_n hx hb dX9_next_11 rfl (lv_at hl 0 rfl) ?_
        refine gw_get (T := TX9) (k := 4) (v := .ref (a 5)) B hI gm_g0 rfl ly_X9_next_9 (by decide) m_X9_next_22 rfl rfl dX9_next_12 ?_
        refine lv_aload_n hx hb dX9_next_15 rfl (lv_at hl 0 rfl) ?_
        refine gw_get (T := TX9) (k := 6) (v := .int (S 0 6)) B hI gm_g0 rfl ly_X9_next_9 (by decide) m_X9_next_162 rfl rfl dX9_next_16 ?_
        obtain ⟨g4, h⟩ := gw_gdE h
        refine gw_iald (t0 := 0) B hI gm_g5 rfl g4 dX9_next_19 ?_
        refine lv_bipush (v := 32) hx hb dX9_next_20 (by decide) ?_
        refine lv_icmp_ne (tgt := 38) hx hb dX9_next_22 (by decide) (fun c5 => ?_) (fun c5 => ?_)
        · replace h := gw_ifF c5 h
          exact hb38   S h _ _ _ hI (lv_sub hl [0] rfl)
        · replace h := gw_ifT c5 h
          refine lv_aload_n hx hb dX9_next_25 rfl (lv_at hl 0 rfl) ?_
          refine lv_dup hx hb dX9_next_26 rfl ?_
          refine gw_get (T := TX9) (k := 6) (v := .int (S 0 6)) B hI gm_g0 rfl ly_X9_next_9 (by decide) m_X9_next_162 rfl rfl dX9_next_27 ?_
          refine lv_iconst (v := 1) hx hb dX9_next_30 (by decide) ?_
          refine lv_iadd hx hb dX9_next_31 ?_
          obtain ⟨S6, e7, h⟩ := gw_letE h
          refine gw_put (T := TX9) (k := 6) (w' := gw_mw cc a S6) B hI gm_g0 rfl ly_X9_next_9 tyX9 tyX9_ok nmX9 (by decide) m_X9_next_162 rfl rfl rfl rfl (Nat.le_of_ble_eq_true rfl) (gm_s0_6 e7) dX9_next_32 (fun H locs hI => ?_)
          refine lv_goto (tgt := 0) hx hb dX9_next_35 (by decide) ?_
          exact ih  S6 h _ _ _ hI (lv_sub hl [0] rfl)
  unfold f_X9_next at h
  exact hb0  gw_F  S h _ _ _ hI (lv_sub hl [0] rfl)
theorem m_X9_termOf_7 : Cond.fieldLink RX9 7 "GownLetModel" "letters" "[I" ∈ wsX9_termOf := by decide +kernel
theorem ly_X9_termOf_9 : ∀ w ∈ wsX90, w ∈ wsX9_termOf := fun w h => List.mem_cons_of_mem _ (List.mem_append_right _ h)
set_option maxRecDepth 100000 in
set_option maxHeartbeats 4000000 in
theorem k_X9_termOf (x1 : Int32) (S : gw_S) {zr : Int32} (h : f_X9_termOf x1 S = some zr) : gw_M l yX9_termOf wsX9_termOf rm_X9_termOf 0 0 D (gw_ty cc) t1 t2 [.ref (a 0), .int x1] (gw_mw cc a S) (fun w => w = gw_mw cc a S) (some (.int zr)) := by
  refine gw_enter (cc := cX9_termOf) (maxL := 3) (ret := (some .int)) (own := RX9) rfl (by decide) rfl (Nat.le_of_ble_eq_true rfl) ?_
  intro p e s m below meth c A B hin hI ls hl
  have hl : lv_has ls 3 [(0, .ref (a 0)), (1, .int x1)] := hl
  generalize ([.ref (a 0), .int x1] : List Value).toArray = args at B ⊢
  have hx := B.1.1
  have hb := B.1.2.1
  have hown : s.vm.findClass RX9 = some m.cls := B.1.2.2.2.1
  have hts := B.1.2.2.2.2
  have hb2 :  ∀ (n : Nat), ∀ (v1 : Int32) (v2 : Int32), f_X9_termOf_b2 S  n v1 v2 = some zr → ∀ (H : Heap) (locs : List Loc) (ls : Array Slot), gw_I D A s.heap (gw_mw cc a S) H locs → lv_has ls 3 [(0, .ref (a 0)), (1, .int v1), (2, .int v2)] → W p l e rm_X9_termOf s m args below meth c H locs 0 0 (MQ below (gw_Q (some (.int zr)) (gw_Pst D A (fun w => w = gw_mw cc a S)) A) args s 0 0 A) (F0 m 2 ls []) := by
    intro n
    induction n with
    | zero =>
      intro v1 v2 h
      cases h
    | succ n ih =>
      intro v1 v2 h H locs ls hI hl
      unfold f_X9_termOf_b2 at h
      refine lv_iload_n hx hb dX9_termOf_2 rfl (lv_at hl 2 rfl) ?_
      refine lv_bipush (v := 8) hx hb dX9_termOf_3 (by decide) ?_
      refine lv_icmp_ge (tgt := 26) hx hb dX9_termOf_5 (by decide) (fun c1 => ?_) (fun c1 => ?_)
      · replace h := gw_ifT c1 h
        refine lv_iconst (v := -1) hx hb dX9_termOf_26 (by decide) ?_
        rw [← Option.some.inj h]
        exact gw_iret (W' := (fun w => w = gw_mw cc a S)) B hI rfl (Nat.zero_le _) (Nat.zero_le _) dX9_termOf_27
      · replace h := gw_ifF c1 h
        refine lv_aload_n hx hb dX9_termOf_8 rfl (lv_at hl 0 rfl) ?_
        refine gw_get (T := TX9) (k := 0) (v := .ref (a 1)) B hI gm_g0 rfl ly_X9_termOf_9 (by decide) m_X9_termOf_7 rfl rfl dX9_termOf_9 ?_
        refine lv_iload_n hx hb dX9_termOf_12 rfl (lv_at hl 2 rfl) ?_
        obtain ⟨g2, h⟩ := gw_gdE h
        refine gw_iald (t0 := 0) B hI gm_g1 rfl g2 dX9_termOf_13 ?_
        refine lv_iload_n hx hb dX9_termOf_14 rfl (lv_at hl 1 rfl) ?_
        refine lv_icmp_ne (tgt := 20) hx hb dX9_termOf_15 (by decide) (fun c3 => ?_) (fun c3 => ?_)
        · replace h := gw_ifF c3 h
          obtain ⟨y4, e5, h⟩ := gw_letE h
          refine lv_iinc (v := y4) (lv' := [(2, .int y4), (0, .ref (a 0)), (1, .int v1)]) hx hb dX9_termOf_20 hl (k := 2) rfl (by rw [e5]; rfl) (by decide) rfl (fun ls hl => ?_)
          refine lv_goto (tgt := 2) hx hb dX9_termOf_23 (by decide) ?_
          exact ih v1 y4 h _ _ _ hI (lv_sub hl [1, 2, 0] rfl)
        · replace h := gw_ifT c3 h
          refine lv_iload_n hx hb dX9_termOf_18 rfl (lv_at hl 2 rfl) ?_
          rw [← Option.some.inj h]
          exact gw_iret (W' := (fun w => w = gw_mw cc a S)) B hI rfl (Nat.zero_le _) (Nat.zero_le _) dX9_termOf_19
  unfold f_X9_termOf at h
  refine lv_iconst (v := 0) hx hb dX9_termOf_0 (by decide) ?_
  refine lv_istore_n (lv' := [(2, .int (0 : Int32)), (0, .ref (a 0)), (1, .int x1)]) hx hb dX9_termOf_1 rfl hl (by decide) rfl (fun ls hl => ?_)
  exact hb2  gw_F x1 (0 : Int32) h _ _ _ hI (lv_sub hl [1, 2, 0] rfl)
theorem m_X9_number_158 : Cond.fieldLink RX9 158 "GownLetModel" "taped" "I" ∈ wsX9_number := by decide +kernel
theorem m_X9_number_162 : Cond.fieldLink RX9 162 "GownLetModel" "at" "I" ∈ wsX9_number := by decide +kernel
theorem m_X9_number_22 : Cond.fieldLink RX9 22 "GownLetModel" "tape" "[I" ∈ wsX9_number := by decide +kernel
theorem ly_X9_number_9 : ∀ w ∈ wsX90, w ∈ wsX9_number := fun w h => List.mem_cons_of_mem _ (List.mem_append_right _ h)
set_option maxRecDepth 100000 in
set_option maxHeartbeats 4000000 in
theorem k_X9_number (x1 : Int32) (S : gw_S) {zr : Int32} {zS : gw_S} (h : f_X9_number x1 S = some (zr, zS)) : gw_M l yX9_number wsX9_number rm_X9_number 0 0 D (gw_ty cc) t1 t2 [.ref (a 0), .int x1] (gw_mw cc a S) (fun w => w = gw_mw cc a zS) (some (.int zr)) := by
  refine gw_enter (cc := cX9_number) (maxL := 5) (ret := (some .int)) (own := RX9) rfl (by decide) rfl (Nat.le_of_ble_eq_true rfl) ?_
  intro p e s m below meth c A B hin hI ls hl
  have hl : lv_has ls 5 [(0, .ref (a 0)), (1, .int x1)] := hl
  generalize ([.ref (a 0), .int x1] : List Value).toArray = args at B ⊢
  have hx := B.1.1
  have hb := B.1.2.1
  have hown : s.vm.findClass RX9 = some m.cls := B.1.2.2.2.1
  have hts := B.1.2.2.2.2
  have hb108 :  ∀ (v3 : Int32) (S : gw_S), f_X9_number_b108  v3 S = some (zr, zS) → ∀ (H : Heap) (locs : List Loc) (ls : Array Slot), gw_I D A s.heap (gw_mw cc a S) H locs → lv_has ls 5 [(0, .ref (a 0)), (3, .int v3)] → W p l e rm_X9_number s m args below meth c H locs 0 0 (MQ below (gw_Q (some (.int zr)) (gw_Pst D A (fun w => w = gw_mw cc a zS)) A) args s 0 0 A) (F0 m 108 ls []) := by
    intro v3 S h H locs ls hI hl
    unfold f_X9_number_b108 at h
    refine lv_aload_n hx hb dX9_number_108 rfl (lv_at hl 0 rfl) ?_
    refine lv_iload_n hx hb dX9_number_109 rfl (lv_at hl 1 rfl) ?_
    obtain ⟨S1, e2, h⟩ := gw_letE h
    refine gw_put (T := TX9) (k := 6) (w' := gw_mw cc a S1) B hI gm_g0 rfl ly_X9_number_9 tyX9 tyX9_ok nmX9 (by decide) m_X9_number_162 rfl rfl rfl rfl (Nat.le_of_ble_eq_true rfl) (gm_s0_6 e2) dX9_number_110 (fun H locs hI => ?_)
    refine lv_iconst (v := -1) hx hb dX9_number_113 (by decide) ?_
    obtain ⟨h1, h2⟩ := Prod.mk.inj (Option.some.inj h)
    rw [h2] at hI
    rw [← h1]
    exact gw_iret (W' := (fun w => w = gw_mw cc a zS)) B hI rfl (Nat.zero_le _) (Nat.zero_le _) dX9_number_114
  have hb90 :  ∀ (v1 : Int32) (v2 : Int32) (v3 : Int32) (v4 : Int32) (S : gw_S), f_X9_number_b90  v1 v2 v3 v4 S = some (zr, zS) → ∀ (H : Heap) (locs : List Loc) (ls : Array Slot), gw_I D A s.heap (gw_mw cc a S) H locs → lv_has ls 5 [(0, .ref (a 0)), (1, .int v1), (2, .int v2), (3, .int v3), (4, .int v4)] → W p l e rm_X9_number s m args below meth c H locs 0 0 (MQ below (gw_Q (some (.int zr)) (gw_Pst D A (fun w => w = gw_mw cc a zS)) A) args s 0 0 A) (F0 m 90 ls []) := by
    intro v1 v2 v3 v4 S h H locs ls hI hl
    unfold f_X9_number_b90 at h
    refine lv_iload_n hx hb dX9_number_90 rfl (lv_at hl 2 rfl) ?_
    refine lv_if_lt (tgt := 108) hx hb dX9_number_91 (by decide) (fun c3 => ?_) (fun c3 => ?_)
    · replace h := gw_ifT c3 h
      exact hb108  v3 S h _ _ _ hI (lv_sub hl [0, 3] rfl)
    · replace h := gw_ifF c3 h
      refine lv_aload_n hx hb dX9_number_94 rfl (lv_at hl 0 rfl) ?_
      refine gw_get (T := TX9) (k := 6) (v := .int (S 0 6)) B hI gm_g0 rfl ly_X9_number_9 (by decide) m_X9_number_162 rfl rfl dX9_number_95 ?_
      refine lv_iload_n hx hb dX9_number_98 rfl (lv_at hl 3 rfl) ?_
      refine lv_icmp_eq (tgt := 108) hx hb dX9_number_99 (by decide) (fun c4 => ?_) (fun c4 => ?_)
      · replace h := gw_ifT c4 h
        exact hb108  v3 S h _ _ _ hI (lv_sub hl [0, 3] rfl)
      · replace h := gw_ifF c4 h
        refine lv_iload hx hb dX9_number_102 (lv_at hl 4 rfl) ?_
        refine lv_iload_n hx hb dX9_number_104 rfl (lv_at hl 1 rfl) ?_
        refine lv_icmp_le (tgt := 115) hx hb dX9_number_105 (by decide) (fun c5 => ?_) (fun c5 => ?_)
        · replace h := gw_ifT c5 h
          refine lv_iload hx hb dX9_number_115 (lv_at hl 4 rfl) ?_
          obtain ⟨h1, h2⟩ := Prod.mk.inj (Option.some.inj h)
          rw [h2] at hI
          rw [← h1]
          exact gw_iret (W' := (fun w => w = gw_mw cc a zS)) B hI rfl (Nat.zero_le _) (Nat.zero_le _) dX9_number_117
        · replace h := gw_ifF c5 h
          exact hb108  v3 S h _ _ _ hI (lv_sub hl [0, 3] rfl)
  have hb75 : ∀ (K13 : Int32 → Int32 → Int32 → Int32 → gw_S → Option (Int32 × gw_S)) (_ : ∀ (v1 : Int32) (v2 : Int32) (v3 : Int32) (v4 : Int32) (S : gw_S), K13 v1 v2 v3 v4 S = some (zr, zS) → ∀ (H : Heap) (locs : List Loc) (ls : Array Slot), gw_I D A s.heap (gw_mw cc a S) H locs → lv_has ls 5 [(0, .ref (a 0)), (1, .int v1), (2, .int v2), (3, .int v3), (4, .int v4)] → W p l e rm_X9_number s m args below meth c H locs 0 0 (MQ below (gw_Q (some (.int zr)) (gw_Pst D A (fun w => w = gw_mw cc a zS)) A) args s 0 0 A) (F0 m 13 ls [])), ∀ (v1 : Int32) (v2 : Int32) (v3 : Int32) (t0_ : Int32) (S : gw_S), f_X9_number_b75 K13 v1 v2 v3 t0_ S = some (zr, zS) → ∀ (H : Heap) (locs : List Loc) (ls : Array Slot), gw_I D A s.heap (gw_mw cc a S) H locs → lv_has ls 5 [(0, .ref (a 0)), (1, .int v1), (2, .int v2), (3, .int v3)] → W p l e rm_X9_number s m args below meth c H locs 0 0 (MQ below (gw_Q (some (.int zr)) (gw_Pst D A (fun w => w = gw_mw cc a zS)) A) args s 0 0 A) (F0 m 75 ls [.int t0_]) := by
    intro K13 hK13
    intro v1 v2 v3 t0_ S h H locs ls hI hl
    unfold f_X9_number_b75 at h
    refine lv_istore (lv' := [(4, .int t0_), (0, .ref (a 0)), (1, .int v1), (2, .int v2), (3, .int v3)]) hx hb dX9_number_75 hl (by decide) rfl (fun ls hl => ?_)
    refine lv_aload_n hx hb dX9_number_77 rfl (lv_at hl 1 rfl) ?_
    refine lv_dup hx hb dX9_number_78 rfl ?_
    refine gw_get (T := TX9) (k := 6) (v := .int (S 0 6)) B hI gm_g0 rfl ly_X9_number_9 (by decide) m_X9_number_162 rfl rfl dX9_number_79 ?_
    refine lv_iconst (v := 1) hx hb dX9_number_82 (by decide) ?_
    refine lv_iadd hx hb dX9_number_83 ?_
    obtain ⟨S6, e7, h⟩ := gw_letE h
    refine gw_put (T := TX9) (k := 6) (w' := gw_mw cc a S6) B hI gm_g0 rfl ly_X9_number_9 tyX9 tyX9_ok nmX9 (by decide) m_X9_number_162 rfl rfl rfl rfl (Nat.le_of_ble_eq_true rfl) (gm_s0_6 e7) dX9_number_84 (fun H locs hI => ?_)
    refine lv_goto (tgt := 13) hx hb dX9_number_87 (by decide) ?_
    exact hK13 v1 v2 v3 t0_ S6 h _ _ _ hI (lv_sub hl [1, 2, 3, 4, 0] rfl)
  have hb13 :  ∀ (n : Nat), ∀ (v1 : Int32) (v2 : Int32) (v3 : Int32) (v4 : Int32) (S : gw_S), f_X9_number_b13  n v1 v2 v3 v4 S = some (zr, zS) → ∀ (H : Heap) (locs : List Loc) (ls : Array Slot), gw_I D A s.heap (gw_mw cc a S) H locs → lv_has ls 5 [(0, .ref (a 0)), (1, .int v1), (2, .int v2), (3, .int v3), (4, .int v4)] → W p l e rm_X9_number s m args below meth c H locs 0 0 (MQ below (gw_Q (some (.int zr)) (gw_Pst D A (fun w => w = gw_mw cc a zS)) A) args s 0 0 A) (F0 m 13 ls []) := by
    intro n
    induction n with
    | zero =>
      intro v1 v2 v3 v4 S h
      cases h
    | succ n ih =>
      intro v1 v2 v3 v4 S h H locs ls hI hl
      unfold f_X9_number_b13 at h
      refine lv_aload_n hx hb dX9_number_13 rfl (lv_at hl 0 rfl) ?_
      refine gw_get (T := TX9) (k := 6) (v := .int (S 0 6)) B hI gm_g0 rfl ly_X9_number_9 (by decide) m_X9_number_162 rfl rfl dX9_number_14 ?_
      refine lv_aload_n hx hb dX9_number_17 rfl (lv_at hl 0 rfl) ?_
      refine gw_get (T := TX9) (k := 5) (v := .int (S 0 5)) B hI gm_g0 rfl ly_X9_number_9 (by decide) m_X9_number_158 rfl rfl dX9_number_18 ?_
      refine lv_icmp_ge (tgt := 90) hx hb dX9_number_21 (by decide) (fun c8 => ?_) (fun c8 => ?_)
      · replace h := gw_ifT c8 h
        exact hb90  v1 v2 v3 v4 S h _ _ _ hI (lv_sub hl [0, 1, 2, 3, 4] rfl)
      · replace h := gw_ifF c8 h
        refine lv_aload_n hx hb dX9_number_24 rfl (lv_at hl 0 rfl) ?_
        refine gw_get (T := TX9) (k := 4) (v := .ref (a 5)) B hI gm_g0 rfl ly_X9_number_9 (by decide) m_X9_number_22 rfl rfl dX9_number_25 ?_
        refine lv_aload_n hx hb dX9_number_28 rfl (lv_at hl 0 rfl) ?_
        refine gw_get (T := TX9) (k := 6) (v := .int (S 0 6)) B hI gm_g0 rfl ly_X9_number_9 (by decide) m_X9_number_162 rfl rfl dX9_number_29 ?_
        obtain ⟨g9, h⟩ := gw_gdE h
        refine gw_iald (t0 := 0) B hI gm_g5 rfl g9 dX9_number_32 ?_
        refine lv_i2l hx hb dX9_number_33 rfl ?_
        refine lv_ldc2 (v := 48) hx hb hown (hts (.constantLong RX9 169 (48)) (by decide +kernel)) dX9_number_34 ?_
        refine lv_ldc2 (v := 57) hx hb hown (hts (.constantLong RX9 171 (57)) (by decide +kernel)) dX9_number_37 ?_
        obtain ⟨r10, e11, h⟩ := gw_bdE h
        refine gw_callS (As := [.long ((S 5 (S 0 6).toNatClampNeg).toInt64), .long (48 : Int64), .long (57 : Int64)]) (n := 3) B hI (k_X9_in ((S 5 (S 0 6).toNatClampNeg).toInt64) (48 : Int64) (57 : Int64) S e11) gX9_number_X9_in rfl rfl rfl nds_X9_in ⟨Nat.le_of_ble_eq_true rfl, Nat.le_of_ble_eq_true rfl⟩ rfl hl.1 (Nat.zero_le _) dX9_number_40 ⟨Nat.le_of_ble_eq_true rfl, Nat.le_of_ble_eq_true rfl⟩ rfl (fun w' H locs hw hI => ?_)
        subst hw
        refine lv_if_eq (tgt := 90) hx hb dX9_number_43 (by decide) (fun c12 => ?_) (fun c12 => ?_)
        · replace h := gw_ifT c12 h
          exact hb90  v1 v2 v3 v4 S h _ _ _ hI (lv_sub hl [0, 1, 2, 3, 4] rfl)
        · replace h := gw_ifF c12 h
          refine lv_iload hx hb dX9_number_46 (lv_at hl 4 rfl) ?_
          refine lv_iload_n hx hb dX9_number_48 rfl (lv_at hl 1 rfl) ?_
          refine lv_icmp_le (tgt := 57) hx hb dX9_number_49 (by decide) (fun c13 => ?_) (fun c13 => ?_)
          · replace h := gw_ifT c13 h
            refine lv_bipush (v := 10) hx hb dX9_number_57 (by decide) ?_
            refine lv_iload hx hb dX9_number_59 (lv_at hl 4 rfl) ?_
            refine lv_imul hx hb dX9_number_61 ?_
            refine lv_aload_n hx hb dX9_number_62 rfl (lv_at hl 0 rfl) ?_
            refine gw_get (T := TX9) (k := 4) (v := .ref (a 5)) B hI gm_g0 rfl ly_X9_number_9 (by decide) m_X9_number_22 rfl rfl dX9_number_63 ?_
            refine lv_aload_n hx hb dX9_number_66 rfl (lv_at hl 0 rfl) ?_
            refine gw_get (T := TX9) (k := 6) (v := .int (S 0 6)) B hI gm_g0 rfl ly_X9_number_9 (by decide) m_X9_number_162 rfl rfl dX9_number_67 ?_
            refine gw_iald (t0 := 0) B hI gm_g5 rfl g9 dX9_number_70 ?_
            refine lv_iadd hx hb dX9_number_71 ?_
            refine lv_bipush (v := 48) hx hb dX9_number_72 (by decide) ?_
            refine lv_isub hx hb dX9_number_74 ?_
            exact hb75 (f_X9_number_b13  n) ih v1 v2 v3 ((((10 : Int32) * v4) + (S 5 (S 0 6).toNatClampNeg)) - (48 : Int32)) S h _ _ _ hI (lv_sub hl [0, 1, 2, 3] rfl)
          · replace h := gw_ifF c13 h
            refine lv_iload hx hb dX9_number_52 (lv_at hl 4 rfl) ?_
            refine lv_goto (tgt := 75) hx hb dX9_number_54 (by decide) ?_
            exact hb75 (f_X9_number_b13  n) ih v1 v2 v3 v4 S h _ _ _ hI (lv_sub hl [0, 1, 2, 3] rfl)
  unfold f_X9_number at h
  refine lv_aload_n hx hb dX9_number_0 rfl (lv_at hl 0 rfl) ?_
  obtain ⟨r14, S15, e16, h⟩ := gw_b2E h
  refine gw_callV (As := []) (n := 0) B hI (k_X9_next  S e16) gX9_number_X9_next rfl rfl rfl nd_X9_next ⟨Nat.le_of_ble_eq_true rfl, Nat.le_of_ble_eq_true rfl⟩ gm_g0 rfl rfl rfl hl.1 (Nat.zero_le _) dX9_number_1 ⟨Nat.le_of_ble_eq_true rfl, Nat.le_of_ble_eq_true rfl⟩ rfl (fun w' H locs hw hI => ?_)
  subst hw
  refine lv_istore_n (lv' := [(2, .int r14), (0, .ref (a 0)), (1, .int x1)]) hx hb dX9_number_4 rfl hl (by decide) rfl (fun ls hl => ?_)
  refine lv_aload_n hx hb dX9_number_5 rfl (lv_at hl 1 rfl) ?_
  refine gw_get (T := TX9) (k := 6) (v := .int (S15 0 6)) B hI gm_g0 rfl ly_X9_number_9 (by decide) m_X9_number_162 rfl rfl dX9_number_6 ?_
  obtain ⟨y17, e18, h⟩ := gw_letE h
  rw [← e18]
  refine lv_istore_n (lv' := [(3, .int y17), (2, .int r14), (0, .ref (a 0)), (1, .int x1)]) hx hb dX9_number_9 rfl hl (by decide) rfl (fun ls hl => ?_)
  refine lv_iconst (v := 0) hx hb dX9_number_10 (by decide) ?_
  refine lv_istore (lv' := [(4, .int (0 : Int32)), (3, .int y17), (2, .int r14), (0, .ref (a 0)), (1, .int x1)]) hx hb dX9_number_11 hl (by decide) rfl (fun ls hl => ?_)
  exact hb13  gw_F x1 r14 y17 (0 : Int32) S15 h _ _ _ hI (lv_sub hl [3, 4, 2, 1, 0] rfl)
theorem m_X9_readAll_13 : Cond.fieldLink RX9 13 "GownLetModel" "limits" "[I" ∈ wsX9_readAll := by decide +kernel
theorem m_X9_readAll_16 : Cond.fieldLink RX9 16 "GownLetModel" "terms" "[I" ∈ wsX9_readAll := by decide +kernel
theorem m_X9_readAll_162 : Cond.fieldLink RX9 162 "GownLetModel" "at" "I" ∈ wsX9_readAll := by decide +kernel
theorem m_X9_readAll_19 : Cond.fieldLink RX9 19 "GownLetModel" "readTerms" "[I" ∈ wsX9_readAll := by decide +kernel
theorem ly_X9_readAll_9 : ∀ w ∈ wsX90, w ∈ wsX9_readAll := fun w h => List.mem_cons_of_mem _ (List.mem_append_right _ h)
set_option maxRecDepth 100000 in
set_option maxHeartbeats 4000000 in
theorem k_X9_readAll  (S : gw_S) {zr : Int32} {zS : gw_S} (h : f_X9_readAll  S = some (zr, zS)) : gw_M l yX9_readAll wsX9_readAll rm_X9_readAll 0 0 D (gw_ty cc) t1 t2 [.ref (a 0)] (gw_mw cc a S) (fun w => w = gw_mw cc a zS) (some (.int zr)) := by
  refine gw_enter (cc := cX9_readAll) (maxL := 6) (ret := (some .int)) (own := RX9) rfl (by decide) rfl (Nat.le_of_ble_eq_true rfl) ?_
  intro p e s m below meth c A B hin hI ls hl
  have hl : lv_has ls 6 [(0, .ref (a 0))] := hl
  generalize ([.ref (a 0)] : List Value).toArray = args at B ⊢
  have hx := B.1.1
  have hb := B.1.2.1
  have hown : s.vm.findClass RX9 = some m.cls := B.1.2.2.2.1
  have hts := B.1.2.2.2.2
  have hb145 : ∀ (K35 : Int32 → Int32 → gw_S → Option (Int32 × gw_S)) (_ : ∀ (v1 : Int32) (v2 : Int32) (S : gw_S), K35 v1 v2 S = some (zr, zS) → ∀ (H : Heap) (locs : List Loc) (ls : Array Slot), gw_I D A s.heap (gw_mw cc a S) H locs → lv_has ls 6 [(0, .ref (a 0)), (1, .int v1), (2, .int v2)] → W p l e rm_X9_readAll s m args below meth c H locs 0 0 (MQ below (gw_Q (some (.int zr)) (gw_Pst D A (fun w => w = gw_mw cc a zS)) A) args s 0 0 A) (F0 m 35 ls [])), ∀ (v1 : Int32) (v2 : Int32) (t0_ : Int32) (t1_ : Int32) (S : gw_S), f_X9_readAll_b145 K35 v1 v2 t0_ t1_ S = some (zr, zS) → ∀ (H : Heap) (locs : List Loc) (ls : Array Slot), gw_I D A s.heap (gw_mw cc a S) H locs → lv_has ls 6 [(0, .ref (a 0)), (1, .int v1), (2, .int v2)] → W p l e rm_X9_readAll s m args below meth c H locs 0 0 (MQ below (gw_Q (some (.int zr)) (gw_Pst D A (fun w => w = gw_mw cc a zS)) A) args s 0 0 A) (F0 m 145 ls [.int t0_, .int t1_, .ref (a 0)]) := by
    intro K35 hK35
    intro v1 v2 t0_ t1_ S h H locs ls hI hl
    unfold f_X9_readAll_b145 at h
    refine lv_iadd hx hb dX9_readAll_145 ?_
    obtain ⟨S1, e2, h⟩ := gw_letE h
    refine gw_put (T := TX9) (k := 6) (w' := gw_mw cc a S1) B hI gm_g0 rfl ly_X9_readAll_9 tyX9 tyX9_ok nmX9 (by decide) m_X9_readAll_162 rfl rfl rfl rfl (Nat.le_of_ble_eq_true rfl) (gm_s0_6 e2) dX9_readAll_146 (fun H locs hI => ?_)
    refine lv_goto (tgt := 35) hx hb dX9_readAll_149 (by decide) ?_
    exact hK35 v1 v2 S1 h _ _ _ hI (lv_sub hl [0, 1, 2] rfl)
  have hb130 : ∀ (K35 : Int32 → Int32 → gw_S → Option (Int32 × gw_S)) (_ : ∀ (v1 : Int32) (v2 : Int32) (S : gw_S), K35 v1 v2 S = some (zr, zS) → ∀ (H : Heap) (locs : List Loc) (ls : Array Slot), gw_I D A s.heap (gw_mw cc a S) H locs → lv_has ls 6 [(0, .ref (a 0)), (1, .int v1), (2, .int v2)] → W p l e rm_X9_readAll s m args below meth c H locs 0 0 (MQ below (gw_Q (some (.int zr)) (gw_Pst D A (fun w => w = gw_mw cc a zS)) A) args s 0 0 A) (F0 m 35 ls [])), ∀ (v1 : Int32) (t0_ : Int32) (S : gw_S), f_X9_readAll_b130 K35 v1 t0_ S = some (zr, zS) → ∀ (H : Heap) (locs : List Loc) (ls : Array Slot), gw_I D A s.heap (gw_mw cc a S) H locs → lv_has ls 6 [(0, .ref (a 0)), (1, .int v1)] → W p l e rm_X9_readAll s m args below meth c H locs 0 0 (MQ below (gw_Q (some (.int zr)) (gw_Pst D A (fun w => w = gw_mw cc a zS)) A) args s 0 0 A) (F0 m 130 ls [.int t0_]) := by
    intro K35 hK35
    intro v1 t0_ S h H locs ls hI hl
    unfold f_X9_readAll_b130 at h
    refine lv_istore_n (lv' := [(2, .int t0_), (0, .ref (a 0)), (1, .int v1)]) hx hb dX9_readAll_130 rfl hl (by decide) rfl (fun ls hl => ?_)
    refine lv_aload_n hx hb dX9_readAll_131 rfl (lv_at hl 1 rfl) ?_
    refine lv_dup hx hb dX9_readAll_132 rfl ?_
    refine gw_get (T := TX9) (k := 6) (v := .int (S 0 6)) B hI gm_g0 rfl ly_X9_readAll_9 (by decide) m_X9_readAll_162 rfl rfl dX9_readAll_133 ?_
    refine lv_iload_n hx hb dX9_readAll_136 rfl (lv_at hl 0 rfl) ?_
    refine lv_if_eq (tgt := 144) hx hb dX9_readAll_137 (by decide) (fun c3 => ?_) (fun c3 => ?_)
    · replace h := gw_ifT c3 h
      refine lv_iconst (v := 0) hx hb dX9_readAll_144 (by decide) ?_
      exact hb145 K35 hK35 v1 t0_ (0 : Int32) (S 0 6) S h _ _ _ hI (lv_sub hl [1, 2, 0] rfl)
    · replace h := gw_ifF c3 h
      refine lv_iconst (v := 1) hx hb dX9_readAll_140 (by decide) ?_
      refine lv_goto (tgt := 145) hx hb dX9_readAll_141 (by decide) ?_
      exact hb145 K35 hK35 v1 t0_ (1 : Int32) (S 0 6) S h _ _ _ hI (lv_sub hl [1, 2, 0] rfl)
  have hb120 : ∀ (K35 : Int32 → Int32 → gw_S → Option (Int32 × gw_S)) (_ : ∀ (v1 : Int32) (v2 : Int32) (S : gw_S), K35 v1 v2 S = some (zr, zS) → ∀ (H : Heap) (locs : List Loc) (ls : Array Slot), gw_I D A s.heap (gw_mw cc a S) H locs → lv_has ls 6 [(0, .ref (a 0)), (1, .int v1), (2, .int v2)] → W p l e rm_X9_readAll s m args below meth c H locs 0 0 (MQ below (gw_Q (some (.int zr)) (gw_Pst D A (fun w => w = gw_mw cc a zS)) A) args s 0 0 A) (F0 m 35 ls [])), ∀ (v1 : Int32) (v5 : Int32) (S : gw_S), f_X9_readAll_b120 K35 v1 v5 S = some (zr, zS) → ∀ (H : Heap) (locs : List Loc) (ls : Array Slot), gw_I D A s.heap (gw_mw cc a S) H locs → lv_has ls 6 [(0, .ref (a 0)), (1, .int v1), (5, .int v5)] → W p l e rm_X9_readAll s m args below meth c H locs 0 0 (MQ below (gw_Q (some (.int zr)) (gw_Pst D A (fun w => w = gw_mw cc a zS)) A) args s 0 0 A) (F0 m 120 ls []) := by
    intro K35 hK35
    intro v1 v5 S h H locs ls hI hl
    unfold f_X9_readAll_b120 at h
    refine lv_iload hx hb dX9_readAll_120 (lv_at hl 2 rfl) ?_
    refine lv_if_lt (tgt := 129) hx hb dX9_readAll_122 (by decide) (fun c4 => ?_) (fun c4 => ?_)
    · replace h := gw_ifT c4 h
      refine lv_iconst (v := 0) hx hb dX9_readAll_129 (by decide) ?_
      exact hb130 K35 hK35 v1 (0 : Int32) S h _ _ _ hI (lv_sub hl [0, 1] rfl)
    · replace h := gw_ifF c4 h
      refine lv_iconst (v := 1) hx hb dX9_readAll_125 (by decide) ?_
      refine lv_goto (tgt := 130) hx hb dX9_readAll_126 (by decide) ?_
      exact hb130 K35 hK35 v1 (1 : Int32) S h _ _ _ hI (lv_sub hl [0, 1] rfl)
  have hb35 :  ∀ (n : Nat), ∀ (v1 : Int32) (v2 : Int32) (S : gw_S), f_X9_readAll_b35  n v1 v2 S = some (zr, zS) → ∀ (H : Heap) (locs : List Loc) (ls : Array Slot), gw_I D A s.heap (gw_mw cc a S) H locs → lv_has ls 6 [(0, .ref (a 0)), (1, .int v1), (2, .int v2)] → W p l e rm_X9_readAll s m args below meth c H locs 0 0 (MQ below (gw_Q (some (.int zr)) (gw_Pst D A (fun w => w = gw_mw cc a zS)) A) args s 0 0 A) (F0 m 35 ls []) := by
    intro n
    induction n with
    | zero =>
      intro v1 v2 S h
      cases h
    | succ n ih =>
      intro v1 v2 S h H locs ls hI hl
      unfold f_X9_readAll_b35 at h
      refine lv_iload_n hx hb dX9_readAll_35 rfl (lv_at hl 2 rfl) ?_
      refine lv_if_eq (tgt := 152) hx hb dX9_readAll_36 (by decide) (fun c5 => ?_) (fun c5 => ?_)
      · replace h := gw_ifT c5 h
        refine lv_iload_n hx hb dX9_readAll_152 rfl (lv_at hl 1 rfl) ?_
        obtain ⟨h1, h2⟩ := Prod.mk.inj (Option.some.inj h)
        rw [h2] at hI
        rw [← h1]
        exact gw_iret (W' := (fun w => w = gw_mw cc a zS)) B hI rfl (Nat.zero_le _) (Nat.zero_le _) dX9_readAll_153
      · replace h := gw_ifF c5 h
        refine lv_aload_n hx hb dX9_readAll_39 rfl (lv_at hl 0 rfl) ?_
        refine lv_aload_n hx hb dX9_readAll_40 rfl (lv_at hl 0 rfl) ?_
        obtain ⟨r6, S7, e8, h⟩ := gw_b2E h
        refine gw_callV (As := []) (n := 0) B hI (k_X9_next  S e8) gX9_readAll_X9_next rfl rfl rfl nd_X9_next ⟨Nat.le_of_ble_eq_true rfl, Nat.le_of_ble_eq_true rfl⟩ gm_g0 rfl rfl rfl hl.1 (by simp [gw_catq, gw_cI, gw_cR, gw_cL]) dX9_readAll_41 ⟨Nat.le_of_ble_eq_true rfl, Nat.le_of_ble_eq_true rfl⟩ rfl (fun w' H locs hw hI => ?_)
        subst hw
        obtain ⟨r9, e10, h⟩ := gw_bdE h
        refine gw_callV (As := [.int r6]) (n := 1) B hI (k_X9_termOf r6 S7 e10) gX9_readAll_X9_termOf rfl rfl rfl nd_X9_termOf ⟨Nat.le_of_ble_eq_true rfl, Nat.le_of_ble_eq_true rfl⟩ gm_g0 rfl rfl rfl hl.1 (Nat.zero_le _) dX9_readAll_44 ⟨Nat.le_of_ble_eq_true rfl, Nat.le_of_ble_eq_true rfl⟩ rfl (fun w' H locs hw hI => ?_)
        subst hw
        refine lv_istore_n (lv' := [(3, .int r9), (0, .ref (a 0)), (1, .int v1), (2, .int v2)]) hx hb dX9_readAll_47 rfl hl (by decide) rfl (fun ls hl => ?_)
        refine lv_iload_n hx hb dX9_readAll_48 rfl (lv_at hl 0 rfl) ?_
        refine lv_if_ge (tgt := 54) hx hb dX9_readAll_49 (by decide) (fun c11 => ?_) (fun c11 => ?_)
        · replace h := gw_ifT c11 h
          refine lv_aload_n hx hb dX9_readAll_54 rfl (lv_at hl 1 rfl) ?_
          refine lv_dup hx hb dX9_readAll_55 rfl ?_
          refine gw_get (T := TX9) (k := 6) (v := .int (S7 0 6)) B hI gm_g0 rfl ly_X9_readAll_9 (by decide) m_X9_readAll_162 rfl rfl dX9_readAll_56 ?_
          refine lv_iconst (v := 1) hx hb dX9_readAll_59 (by decide) ?_
          refine lv_iadd hx hb dX9_readAll_60 ?_
          obtain ⟨S12, e13, h⟩ := gw_letE h
          refine gw_put (T := TX9) (k := 6) (w' := gw_mw cc a S12) B hI gm_g0 rfl ly_X9_readAll_9 tyX9 tyX9_ok nmX9 (by decide) m_X9_readAll_162 rfl rfl rfl rfl (Nat.le_of_ble_eq_true rfl) (gm_s0_6 e13) dX9_readAll_61 (fun H locs hI => ?_)
          refine lv_aload_n hx hb dX9_readAll_64 rfl (lv_at hl 1 rfl) ?_
          refine lv_aload_n hx hb dX9_readAll_65 rfl (lv_at hl 1 rfl) ?_
          refine gw_get (T := TX9) (k := 1) (v := .ref (a 2)) B hI gm_g0 rfl ly_X9_readAll_9 (by decide) m_X9_readAll_13 rfl rfl dX9_readAll_66 ?_
          refine lv_iload_n hx hb dX9_readAll_69 rfl (lv_at hl 0 rfl) ?_
          obtain ⟨g14, h⟩ := gw_gdE h
          refine gw_iald (t0 := 0) B hI gm_g2 rfl g14 dX9_readAll_70 ?_
          obtain ⟨r15, S16, e17, h⟩ := gw_b2E h
          refine gw_callV (As := [.int (S12 2 r9.toNatClampNeg)]) (n := 1) B hI (k_X9_number (S12 2 r9.toNatClampNeg) S12 e17) gX9_readAll_X9_number rfl rfl rfl nd_X9_number ⟨Nat.le_of_ble_eq_true rfl, Nat.le_of_ble_eq_true rfl⟩ gm_g0 rfl rfl rfl hl.1 (Nat.zero_le _) dX9_readAll_71 ⟨Nat.le_of_ble_eq_true rfl, Nat.le_of_ble_eq_true rfl⟩ rfl (fun w' H locs hw hI => ?_)
          subst hw
          refine lv_istore (lv' := [(4, .int r15), (3, .int r9), (0, .ref (a 0)), (1, .int v1), (2, .int v2)]) hx hb dX9_readAll_74 hl (by decide) rfl (fun ls hl => ?_)
          refine lv_iload hx hb dX9_readAll_76 (lv_at hl 0 rfl) ?_
          refine lv_if_ge (tgt := 83) hx hb dX9_readAll_78 (by decide) (fun c18 => ?_) (fun c18 => ?_)
          · replace h := gw_ifT c18 h
            refine lv_aload_n hx hb dX9_readAll_83 rfl (lv_at hl 2 rfl) ?_
            refine gw_get (T := TX9) (k := 3) (v := .ref (a 4)) B hI gm_g0 rfl ly_X9_readAll_9 (by decide) m_X9_readAll_19 rfl rfl dX9_readAll_84 ?_
            refine lv_iload_n hx hb dX9_readAll_87 rfl (lv_at hl 1 rfl) ?_
            refine lv_iload hx hb dX9_readAll_88 (lv_at hl 0 rfl) ?_
            obtain ⟨S19, e20, h⟩ := gw_letE h
            refine gw_iast (t0 := 0) (w' := gw_mw cc a S19) B hI gm_g4 rfl g14 (gm_s4 e20) dX9_readAll_90 (fun H locs hI => ?_)
            obtain ⟨y21, e22, h⟩ := gw_letE h
            refine lv_iinc (v := y21) (lv' := [(1, .int y21), (4, .int r15), (3, .int r9), (0, .ref (a 0)), (2, .int v2)]) hx hb dX9_readAll_91 hl (k := 3) rfl (by rw [e22]; rfl) (by decide) rfl (fun ls hl => ?_)
            refine lv_aload_n hx hb dX9_readAll_94 rfl (lv_at hl 3 rfl) ?_
            obtain ⟨r23, S24, e25, h⟩ := gw_b2E h
            refine gw_callV (As := []) (n := 0) B hI (k_X9_next  S19 e25) gX9_readAll_X9_next rfl rfl rfl nd_X9_next ⟨Nat.le_of_ble_eq_true rfl, Nat.le_of_ble_eq_true rfl⟩ gm_g0 rfl rfl rfl hl.1 (Nat.zero_le _) dX9_readAll_95 ⟨Nat.le_of_ble_eq_true rfl, Nat.le_of_ble_eq_true rfl⟩ rfl (fun w' H locs hw hI => ?_)
            subst hw
            refine lv_istore (lv' := [(5, .int r23), (1, .int y21), (4, .int r15), (3, .int r9), (0, .ref (a 0)), (2, .int v2)]) hx hb dX9_readAll_98 hl (by decide) rfl (fun ls hl => ?_)
            refine lv_iload hx hb dX9_readAll_100 (lv_at hl 0 rfl) ?_
            refine lv_if_lt (tgt := 120) hx hb dX9_readAll_102 (by decide) (fun c26 => ?_) (fun c26 => ?_)
            · replace h := gw_ifT c26 h
              exact hb120 (f_X9_readAll_b35  n) ih y21 r23 S24 h _ _ _ hI (lv_sub hl [4, 1, 0] rfl)
            · replace h := gw_ifF c26 h
              refine lv_iload hx hb dX9_readAll_105 (lv_at hl 0 rfl) ?_
              refine lv_bipush (v := 59) hx hb dX9_readAll_107 (by decide) ?_
              refine lv_icmp_ne (tgt := 118) hx hb dX9_readAll_109 (by decide) (fun c27 => ?_) (fun c27 => ?_)
              · replace h := gw_ifF c27 h
                refine lv_iconst (v := -1) hx hb dX9_readAll_118 (by decide) ?_
                obtain ⟨h1, h2⟩ := Prod.mk.inj (Option.some.inj h)
                rw [h2] at hI
                rw [← h1]
                exact gw_iret (W' := (fun w => w = gw_mw cc a zS)) B hI rfl (Nat.zero_le _) (Nat.zero_le _) dX9_readAll_119
              · replace h := gw_ifT c27 h
                refine lv_iload_n hx hb dX9_readAll_112 rfl (lv_at hl 1 rfl) ?_
                refine lv_bipush (v := 8) hx hb dX9_readAll_113 (by decide) ?_
                refine lv_icmp_ne (tgt := 120) hx hb dX9_readAll_115 (by decide) (fun c28 => ?_) (fun c28 => ?_)
                · replace h := gw_ifF c28 h
                  exact hb120 (f_X9_readAll_b35  n) ih y21 r23 S24 h _ _ _ hI (lv_sub hl [4, 1, 0] rfl)
                · replace h := gw_ifT c28 h
                  refine lv_iconst (v := -1) hx hb dX9_readAll_118 (by decide) ?_
                  obtain ⟨h1, h2⟩ := Prod.mk.inj (Option.some.inj h)
                  rw [h2] at hI
                  rw [← h1]
                  exact gw_iret (W' := (fun w => w = gw_mw cc a zS)) B hI rfl (Nat.zero_le _) (Nat.zero_le _) dX9_readAll_119
          · replace h := gw_ifF c18 h
            refine lv_iconst (v := -1) hx hb dX9_readAll_81 (by decide) ?_
            obtain ⟨h1, h2⟩ := Prod.mk.inj (Option.some.inj h)
            rw [h2] at hI
            rw [← h1]
            exact gw_iret (W' := (fun w => w = gw_mw cc a zS)) B hI rfl (Nat.zero_le _) (Nat.zero_le _) dX9_readAll_82
        · replace h := gw_ifF c11 h
          refine lv_iconst (v := -1) hx hb dX9_readAll_52 (by decide) ?_
          obtain ⟨h1, h2⟩ := Prod.mk.inj (Option.some.inj h)
          rw [h2] at hI
          rw [← h1]
          exact gw_iret (W' := (fun w => w = gw_mw cc a zS)) B hI rfl (Nat.zero_le _) (Nat.zero_le _) dX9_readAll_53
  have hb9 :  ∀ (n : Nat), ∀ (v1 : Int32) (v2 : Int32) (S : gw_S), f_X9_readAll_b9  n v1 v2 S = some (zr, zS) → ∀ (H : Heap) (locs : List Loc) (ls : Array Slot), gw_I D A s.heap (gw_mw cc a S) H locs → lv_has ls 6 [(0, .ref (a 0)), (1, .int v1), (2, .int v2)] → W p l e rm_X9_readAll s m args below meth c H locs 0 0 (MQ below (gw_Q (some (.int zr)) (gw_Pst D A (fun w => w = gw_mw cc a zS)) A) args s 0 0 A) (F0 m 9 ls []) := by
    intro n
    induction n with
    | zero =>
      intro v1 v2 S h
      cases h
    | succ n ih =>
      intro v1 v2 S h H locs ls hI hl
      unfold f_X9_readAll_b9 at h
      refine lv_iload_n hx hb dX9_readAll_9 rfl (lv_at hl 2 rfl) ?_
      refine lv_bipush (v := 8) hx hb dX9_readAll_10 (by decide) ?_
      refine lv_icmp_ge (tgt := 33) hx hb dX9_readAll_12 (by decide) (fun c29 => ?_) (fun c29 => ?_)
      · replace h := gw_ifT c29 h
        refine lv_iconst (v := 1) hx hb dX9_readAll_33 (by decide) ?_
        refine lv_istore_n (lv' := [(2, .int (1 : Int32)), (0, .ref (a 0)), (1, .int v1)]) hx hb dX9_readAll_34 rfl hl (by decide) rfl (fun ls hl => ?_)
        exact hb35  gw_F v1 (1 : Int32) S h _ _ _ hI (lv_sub hl [1, 2, 0] rfl)
      · replace h := gw_ifF c29 h
        refine lv_aload_n hx hb dX9_readAll_15 rfl (lv_at hl 0 rfl) ?_
        refine gw_get (T := TX9) (k := 3) (v := .ref (a 4)) B hI gm_g0 rfl ly_X9_readAll_9 (by decide) m_X9_readAll_19 rfl rfl dX9_readAll_16 ?_
        refine lv_iload_n hx hb dX9_readAll_19 rfl (lv_at hl 2 rfl) ?_
        refine lv_aload_n hx hb dX9_readAll_20 rfl (lv_at hl 0 rfl) ?_
        refine gw_get (T := TX9) (k := 2) (v := .ref (a 3)) B hI gm_g0 rfl ly_X9_readAll_9 (by decide) m_X9_readAll_16 rfl rfl dX9_readAll_21 ?_
        refine lv_iload_n hx hb dX9_readAll_24 rfl (lv_at hl 2 rfl) ?_
        obtain ⟨g30, h⟩ := gw_gdE h
        refine gw_iald (t0 := 0) B hI gm_g3 rfl g30 dX9_readAll_25 ?_
        obtain ⟨S31, e32, h⟩ := gw_letE h
        refine gw_iast (t0 := 0) (w' := gw_mw cc a S31) B hI gm_g4 rfl g30 (gm_s4 e32) dX9_readAll_26 (fun H locs hI => ?_)
        obtain ⟨y33, e34, h⟩ := gw_letE h
        refine lv_iinc (v := y33) (lv' := [(2, .int y33), (0, .ref (a 0)), (1, .int v1)]) hx hb dX9_readAll_27 hl (k := 2) rfl (by rw [e34]; rfl) (by decide) rfl (fun ls hl => ?_)
        refine lv_goto (tgt := 9) hx hb dX9_readAll_30 (by decide) ?_
        exact ih v1 y33 S31 h _ _ _ hI (lv_sub hl [1, 2, 0] rfl)
  unfold f_X9_readAll at h
  refine lv_aload_n hx hb dX9_readAll_0 rfl (lv_at hl 0 rfl) ?_
  refine lv_iconst (v := 0) hx hb dX9_readAll_1 (by decide) ?_
  obtain ⟨S35, e36, h⟩ := gw_letE h
  refine gw_put (T := TX9) (k := 6) (w' := gw_mw cc a S35) B hI gm_g0 rfl ly_X9_readAll_9 tyX9 tyX9_ok nmX9 (by decide) m_X9_readAll_162 rfl rfl rfl rfl (Nat.le_of_ble_eq_true rfl) (gm_s0_6 e36) dX9_readAll_2 (fun H locs hI => ?_)
  refine lv_iconst (v := 0) hx hb dX9_readAll_5 (by decide) ?_
  refine lv_istore_n (lv' := [(1, .int (0 : Int32)), (0, .ref (a 0))]) hx hb dX9_readAll_6 rfl hl (by decide) rfl (fun ls hl => ?_)
  refine lv_iconst (v := 0) hx hb dX9_readAll_7 (by decide) ?_
  refine lv_istore_n (lv' := [(2, .int (0 : Int32)), (1, .int (0 : Int32)), (0, .ref (a 0))]) hx hb dX9_readAll_8 rfl hl (by decide) rfl (fun ls hl => ?_)
  exact hb9  gw_F (0 : Int32) (0 : Int32) S35 h _ _ _ hI (lv_sub hl [2, 1, 0] rfl)
theorem m_X9_terms_158 : Cond.fieldLink RX9 158 "GownLetModel" "taped" "I" ∈ wsX9_terms := by decide +kernel
theorem m_X9_terms_16 : Cond.fieldLink RX9 16 "GownLetModel" "terms" "[I" ∈ wsX9_terms := by decide +kernel
theorem m_X9_terms_162 : Cond.fieldLink RX9 162 "GownLetModel" "at" "I" ∈ wsX9_terms := by decide +kernel
theorem m_X9_terms_19 : Cond.fieldLink RX9 19 "GownLetModel" "readTerms" "[I" ∈ wsX9_terms := by decide +kernel
theorem ly_X9_terms_9 : ∀ w ∈ wsX90, w ∈ wsX9_terms := fun w h => List.mem_cons_of_mem _ (List.mem_append_right _ h)
set_option maxRecDepth 100000 in
set_option maxHeartbeats 4000000 in
theorem k_X9_terms  (S : gw_S) {zr : Int32} {zS : gw_S} (h : f_X9_terms  S = some (zr, zS)) : gw_M l yX9_terms wsX9_terms rm_X9_terms 0 0 D (gw_ty cc) t1 t2 [.ref (a 0)] (gw_mw cc a S) (fun w => w = gw_mw cc a zS) (some (.int zr)) := by
  refine gw_enter (cc := cX9_terms) (maxL := 3) (ret := (some .int)) (own := RX9) rfl (by decide) rfl (Nat.le_of_ble_eq_true rfl) ?_
  intro p e s m below meth c A B hin hI ls hl
  have hl : lv_has ls 3 [(0, .ref (a 0))] := hl
  generalize ([.ref (a 0)] : List Value).toArray = args at B ⊢
  have hx := B.1.1
  have hb := B.1.2.1
  have hown : s.vm.findClass RX9 = some m.cls := B.1.2.2.2.1
  have hts := B.1.2.2.2.2
  have hb24 :  ∀ (n : Nat), ∀ (v1 : Int32) (v2 : Int32) (S : gw_S), f_X9_terms_b24  n v1 v2 S = some (zr, zS) → ∀ (H : Heap) (locs : List Loc) (ls : Array Slot), gw_I D A s.heap (gw_mw cc a S) H locs → lv_has ls 3 [(0, .ref (a 0)), (1, .int v1), (2, .int v2)] → W p l e rm_X9_terms s m args below meth c H locs 0 0 (MQ below (gw_Q (some (.int zr)) (gw_Pst D A (fun w => w = gw_mw cc a zS)) A) args s 0 0 A) (F0 m 24 ls []) := by
    intro n
    induction n with
    | zero =>
      intro v1 v2 S h
      cases h
    | succ n ih =>
      intro v1 v2 S h H locs ls hI hl
      unfold f_X9_terms_b24 at h
      refine lv_iload_n hx hb dX9_terms_24 rfl (lv_at hl 2 rfl) ?_
      refine lv_bipush (v := 8) hx hb dX9_terms_25 (by decide) ?_
      refine lv_icmp_ge (tgt := 48) hx hb dX9_terms_27 (by decide) (fun c1 => ?_) (fun c1 => ?_)
      · replace h := gw_ifT c1 h
        refine lv_iload_n hx hb dX9_terms_48 rfl (lv_at hl 1 rfl) ?_
        obtain ⟨h1, h2⟩ := Prod.mk.inj (Option.some.inj h)
        rw [h2] at hI
        rw [← h1]
        exact gw_iret (W' := (fun w => w = gw_mw cc a zS)) B hI rfl (Nat.zero_le _) (Nat.zero_le _) dX9_terms_49
      · replace h := gw_ifF c1 h
        refine lv_aload_n hx hb dX9_terms_30 rfl (lv_at hl 0 rfl) ?_
        refine gw_get (T := TX9) (k := 2) (v := .ref (a 3)) B hI gm_g0 rfl ly_X9_terms_9 (by decide) m_X9_terms_16 rfl rfl dX9_terms_31 ?_
        refine lv_iload_n hx hb dX9_terms_34 rfl (lv_at hl 2 rfl) ?_
        refine lv_aload_n hx hb dX9_terms_35 rfl (lv_at hl 0 rfl) ?_
        refine gw_get (T := TX9) (k := 3) (v := .ref (a 4)) B hI gm_g0 rfl ly_X9_terms_9 (by decide) m_X9_terms_19 rfl rfl dX9_terms_36 ?_
        refine lv_iload_n hx hb dX9_terms_39 rfl (lv_at hl 2 rfl) ?_
        obtain ⟨g2, h⟩ := gw_gdE h
        refine gw_iald (t0 := 0) B hI gm_g4 rfl g2 dX9_terms_40 ?_
        obtain ⟨S3, e4, h⟩ := gw_letE h
        refine gw_iast (t0 := 0) (w' := gw_mw cc a S3) B hI gm_g3 rfl g2 (gm_s3 e4) dX9_terms_41 (fun H locs hI => ?_)
        obtain ⟨y5, e6, h⟩ := gw_letE h
        refine lv_iinc (v := y5) (lv' := [(2, .int y5), (0, .ref (a 0)), (1, .int v1)]) hx hb dX9_terms_42 hl (k := 2) rfl (by rw [e6]; rfl) (by decide) rfl (fun ls hl => ?_)
        refine lv_goto (tgt := 24) hx hb dX9_terms_45 (by decide) ?_
        exact ih v1 y5 S3 h _ _ _ hI (lv_sub hl [1, 2, 0] rfl)
  unfold f_X9_terms at h
  refine lv_aload_n hx hb dX9_terms_0 rfl (lv_at hl 0 rfl) ?_
  obtain ⟨r7, S8, e9, h⟩ := gw_b2E h
  refine gw_callV (As := []) (n := 0) B hI (k_X9_readAll  S e9) gX9_terms_X9_readAll rfl rfl rfl nd_X9_readAll ⟨Nat.le_of_ble_eq_true rfl, Nat.le_of_ble_eq_true rfl⟩ gm_g0 rfl rfl rfl hl.1 (Nat.zero_le _) dX9_terms_1 ⟨Nat.le_of_ble_eq_true rfl, Nat.le_of_ble_eq_true rfl⟩ rfl (fun w' H locs hw hI => ?_)
  subst hw
  refine lv_istore_n (lv' := [(1, .int r7), (0, .ref (a 0))]) hx hb dX9_terms_4 rfl hl (by decide) rfl (fun ls hl => ?_)
  refine lv_aload_n hx hb dX9_terms_5 rfl (lv_at hl 1 rfl) ?_
  refine lv_iconst (v := 0) hx hb dX9_terms_6 (by decide) ?_
  obtain ⟨S10, e11, h⟩ := gw_letE h
  refine gw_put (T := TX9) (k := 5) (w' := gw_mw cc a S10) B hI gm_g0 rfl ly_X9_terms_9 tyX9 tyX9_ok nmX9 (by decide) m_X9_terms_158 rfl rfl rfl rfl (Nat.le_of_ble_eq_true rfl) (gm_s0_5 e11) dX9_terms_7 (fun H locs hI => ?_)
  refine lv_iload_n hx hb dX9_terms_10 rfl (lv_at hl 0 rfl) ?_
  refine lv_if_ge (tgt := 22) hx hb dX9_terms_11 (by decide) (fun c12 => ?_) (fun c12 => ?_)
  · replace h := gw_ifT c12 h
    refine lv_iconst (v := 0) hx hb dX9_terms_22 (by decide) ?_
    refine lv_istore_n (lv' := [(2, .int (0 : Int32)), (1, .int r7), (0, .ref (a 0))]) hx hb dX9_terms_23 rfl hl (by decide) rfl (fun ls hl => ?_)
    exact hb24  gw_F r7 (0 : Int32) S10 h _ _ _ hI (lv_sub hl [2, 1, 0] rfl)
  · replace h := gw_ifF c12 h
    refine lv_bipush (v := -20) hx hb dX9_terms_14 (by decide) ?_
    refine lv_aload_n hx hb dX9_terms_16 rfl (lv_at hl 1 rfl) ?_
    refine gw_get (T := TX9) (k := 6) (v := .int (S10 0 6)) B hI gm_g0 rfl ly_X9_terms_9 (by decide) m_X9_terms_162 rfl rfl dX9_terms_17 ?_
    refine lv_isub hx hb dX9_terms_20 ?_
    obtain ⟨h1, h2⟩ := Prod.mk.inj (Option.some.inj h)
    rw [h2] at hI
    rw [← h1]
    exact gw_iret (W' := (fun w => w = gw_mw cc a zS)) B hI rfl (Nat.zero_le _) (Nat.zero_le _) dX9_terms_21
theorem m_X9_term_16 : Cond.fieldLink RX9 16 "GownLetModel" "terms" "[I" ∈ wsX9_term := by decide +kernel
theorem ly_X9_term_9 : ∀ w ∈ wsX90, w ∈ wsX9_term := fun w h => List.mem_cons_of_mem _ (List.mem_append_right _ h)
set_option maxRecDepth 100000 in
set_option maxHeartbeats 4000000 in
theorem k_X9_term (x1 : Int32) (S : gw_S) {zr : Int32} (h : f_X9_term x1 S = some zr) : gw_M l yX9_term wsX9_term rm_X9_term 0 0 D (gw_ty cc) t1 t2 [.ref (a 0), .int x1] (gw_mw cc a S) (fun w => w = gw_mw cc a S) (some (.int zr)) := by
  refine gw_enter (cc := cX9_term) (maxL := 3) (ret := (some .int)) (own := RX9) rfl (by decide) rfl (Nat.le_of_ble_eq_true rfl) ?_
  intro p e s m below meth c A B hin hI ls hl
  have hl : lv_has ls 3 [(0, .ref (a 0)), (1, .int x1)] := hl
  generalize ([.ref (a 0), .int x1] : List Value).toArray = args at B ⊢
  have hx := B.1.1
  have hb := B.1.2.1
  have hown : s.vm.findClass RX9 = some m.cls := B.1.2.2.2.1
  have hts := B.1.2.2.2.2
  unfold f_X9_term at h
  refine lv_aload_n hx hb dX9_term_0 rfl (lv_at hl 0 rfl) ?_
  refine lv_iload_n hx hb dX9_term_1 rfl (lv_at hl 1 rfl) ?_
  obtain ⟨r1, e2, h⟩ := gw_bdE h
  refine gw_callV (As := [.int x1]) (n := 1) B hI (k_X9_termOf x1 S e2) gX9_term_X9_termOf rfl rfl rfl nd_X9_termOf ⟨Nat.le_of_ble_eq_true rfl, Nat.le_of_ble_eq_true rfl⟩ gm_g0 rfl rfl rfl hl.1 (Nat.zero_le _) dX9_term_2 ⟨Nat.le_of_ble_eq_true rfl, Nat.le_of_ble_eq_true rfl⟩ rfl (fun w' H locs hw hI => ?_)
  subst hw
  refine lv_istore_n (lv' := [(2, .int r1), (0, .ref (a 0)), (1, .int x1)]) hx hb dX9_term_5 rfl hl (by decide) rfl (fun ls hl => ?_)
  refine lv_iload_n hx hb dX9_term_6 rfl (lv_at hl 0 rfl) ?_
  refine lv_if_ge (tgt := 14) hx hb dX9_term_7 (by decide) (fun c3 => ?_) (fun c3 => ?_)
  · replace h := gw_ifT c3 h
    refine lv_aload_n hx hb dX9_term_14 rfl (lv_at hl 1 rfl) ?_
    refine gw_get (T := TX9) (k := 2) (v := .ref (a 3)) B hI gm_g0 rfl ly_X9_term_9 (by decide) m_X9_term_16 rfl rfl dX9_term_15 ?_
    refine lv_iload_n hx hb dX9_term_18 rfl (lv_at hl 0 rfl) ?_
    obtain ⟨g4, h⟩ := gw_gdE h
    refine gw_iald (t0 := 0) B hI gm_g3 rfl g4 dX9_term_19 ?_
    rw [← Option.some.inj h]
    exact gw_iret (W' := (fun w => w = gw_mw cc a S)) B hI rfl (Nat.zero_le _) (Nat.zero_le _) dX9_term_20
  · replace h := gw_ifF c3 h
    refine lv_iconst (v := -1) hx hb dX9_term_10 (by decide) ?_
    refine lv_goto (tgt := 20) hx hb dX9_term_11 (by decide) ?_
    rw [← Option.some.inj h]
    exact gw_iret (W' := (fun w => w = gw_mw cc a S)) B hI rfl (Nat.zero_le _) (Nat.zero_le _) dX9_term_20
set_option maxRecDepth 100000 in
set_option maxHeartbeats 4000000 in
theorem k_X9_isTown (x0 : Int32) (S : gw_S) {zr : Int32} (h : f_X9_isTown x0 S = some zr) : gw_M l yX9_isTown wsX9_isTown rm_X9_isTown 0 0 D (gw_ty cc) t1 t2 [.int x0] (gw_mw cc a S) (fun w => w = gw_mw cc a S) (some (.int zr)) := by
  refine gw_enter (cc := cX9_isTown) (maxL := 1) (ret := (some .boolean)) (own := RX9) rfl (by decide) rfl (Nat.le_of_ble_eq_true rfl) ?_
  intro p e s m below meth c A B hin hI ls hl
  have hl : lv_has ls 1 [(0, .int x0)] := hl
  generalize ([.int x0] : List Value).toArray = args at B ⊢
  have hx := B.1.1
  have hb := B.1.2.1
  have hown : s.vm.findClass RX9 = some m.cls := B.1.2.2.2.1
  have hts := B.1.2.2.2.2
  unfold f_X9_isTown at h
  refine lv_iload_n hx hb dX9_isTown_0 rfl (lv_at hl 0 rfl) ?_
  refine lv_i2l hx hb dX9_isTown_1 rfl ?_
  refine lv_lconst (v := 0) hx hb dX9_isTown_2 (by decide) ?_
  refine lv_ldc2 (v := 8) hx hb hown (hts (.constantLong RX9 146 (8)) (by decide +kernel)) dX9_isTown_3 ?_
  obtain ⟨r1, e2, h⟩ := gw_bdE h
  refine gw_callS (As := [.long (x0.toInt64), .long (0 : Int64), .long (8 : Int64)]) (n := 3) B hI (k_X9_in (x0.toInt64) (0 : Int64) (8 : Int64) S e2) gX9_isTown_X9_in rfl rfl rfl nds_X9_in ⟨Nat.le_of_ble_eq_true rfl, Nat.le_of_ble_eq_true rfl⟩ rfl hl.1 (Nat.zero_le _) dX9_isTown_6 ⟨Nat.le_of_ble_eq_true rfl, Nat.le_of_ble_eq_true rfl⟩ rfl (fun w' H locs hw hI => ?_)
  subst hw
  obtain ⟨g3, h⟩ := gw_gdE h
  rw [← Option.some.inj h]
  exact gw_zret (W' := (fun w => w = gw_mw cc a S)) B hI rfl g3 (Nat.zero_le _) (Nat.zero_le _) dX9_isTown_9
theorem m_X9_post_25 : Cond.fieldLink RX9 25 "GownLetModel" "posts" "[I" ∈ wsX9_post := by decide +kernel
theorem ly_X9_post_9 : ∀ w ∈ wsX90, w ∈ wsX9_post := fun w h => List.mem_cons_of_mem _ (List.mem_append_right _ h)
set_option maxRecDepth 100000 in
set_option maxHeartbeats 4000000 in
theorem k_X9_post (x1 : Int32) (x2 : Int32) (x3 : Int32) (S : gw_S) {zr : Int32} {zS : gw_S} (h : f_X9_post x1 x2 x3 S = some (zr, zS)) : gw_M l yX9_post wsX9_post rm_X9_post 0 0 D (gw_ty cc) t1 t2 [.ref (a 0), .int x1, .int x2, .int x3] (gw_mw cc a S) (fun w => w = gw_mw cc a zS) (some (.int zr)) := by
  refine gw_enter (cc := cX9_post) (maxL := 5) (ret := (some .int)) (own := RX9) rfl (by decide) rfl (Nat.le_of_ble_eq_true rfl) ?_
  intro p e s m below meth c A B hin hI ls hl
  have hl : lv_has ls 5 [(0, .ref (a 0)), (1, .int x1), (2, .int x2), (3, .int x3)] := hl
  generalize ([.ref (a 0), .int x1, .int x2, .int x3] : List Value).toArray = args at B ⊢
  have hx := B.1.1
  have hb := B.1.2.1
  have hown : s.vm.findClass RX9 = some m.cls := B.1.2.2.2.1
  have hts := B.1.2.2.2.2
  unfold f_X9_post at h
  refine lv_iload_n hx hb dX9_post_0 rfl (lv_at hl 1 rfl) ?_
  obtain ⟨r1, e2, h⟩ := gw_bdE h
  refine gw_callS (As := [.int x1]) (n := 1) B hI (k_X9_isTown x1 S e2) gX9_post_X9_isTown rfl rfl rfl nds_X9_isTown ⟨Nat.le_of_ble_eq_true rfl, Nat.le_of_ble_eq_true rfl⟩ rfl hl.1 (Nat.zero_le _) dX9_post_1 ⟨Nat.le_of_ble_eq_true rfl, Nat.le_of_ble_eq_true rfl⟩ rfl (fun w' H locs hw hI => ?_)
  subst hw
  refine lv_if_eq (tgt := 31) hx hb dX9_post_4 (by decide) (fun c3 => ?_) (fun c3 => ?_)
  · replace h := gw_ifT c3 h
    refine lv_iconst (v := -1) hx hb dX9_post_31 (by decide) ?_
    obtain ⟨h1, h2⟩ := Prod.mk.inj (Option.some.inj h)
    rw [h2] at hI
    rw [← h1]
    exact gw_iret (W' := (fun w => w = gw_mw cc a zS)) B hI rfl (Nat.zero_le _) (Nat.zero_le _) dX9_post_32
  · replace h := gw_ifF c3 h
    refine lv_iload_n hx hb dX9_post_7 rfl (lv_at hl 2 rfl) ?_
    obtain ⟨r4, e5, h⟩ := gw_bdE h
    refine gw_callS (As := [.int x2]) (n := 1) B hI (k_X9_isTown x2 S e5) gX9_post_X9_isTown rfl rfl rfl nds_X9_isTown ⟨Nat.le_of_ble_eq_true rfl, Nat.le_of_ble_eq_true rfl⟩ rfl hl.1 (Nat.zero_le _) dX9_post_8 ⟨Nat.le_of_ble_eq_true rfl, Nat.le_of_ble_eq_true rfl⟩ rfl (fun w' H locs hw hI => ?_)
    subst hw
    refine lv_if_eq (tgt := 31) hx hb dX9_post_11 (by decide) (fun c6 => ?_) (fun c6 => ?_)
    · replace h := gw_ifT c6 h
      refine lv_iconst (v := -1) hx hb dX9_post_31 (by decide) ?_
      obtain ⟨h1, h2⟩ := Prod.mk.inj (Option.some.inj h)
      rw [h2] at hI
      rw [← h1]
      exact gw_iret (W' := (fun w => w = gw_mw cc a zS)) B hI rfl (Nat.zero_le _) (Nat.zero_le _) dX9_post_32
    · replace h := gw_ifF c6 h
      refine lv_iload_n hx hb dX9_post_14 rfl (lv_at hl 1 rfl) ?_
      refine lv_iload_n hx hb dX9_post_15 rfl (lv_at hl 2 rfl) ?_
      refine lv_icmp_eq (tgt := 31) hx hb dX9_post_16 (by decide) (fun c7 => ?_) (fun c7 => ?_)
      · replace h := gw_ifT c7 h
        refine lv_iconst (v := -1) hx hb dX9_post_31 (by decide) ?_
        obtain ⟨h1, h2⟩ := Prod.mk.inj (Option.some.inj h)
        rw [h2] at hI
        rw [← h1]
        exact gw_iret (W' := (fun w => w = gw_mw cc a zS)) B hI rfl (Nat.zero_le _) (Nat.zero_le _) dX9_post_32
      · replace h := gw_ifF c7 h
        refine lv_iload_n hx hb dX9_post_19 rfl (lv_at hl 3 rfl) ?_
        refine lv_i2l hx hb dX9_post_20 rfl ?_
        refine lv_lconst (v := 0) hx hb dX9_post_21 (by decide) ?_
        refine lv_ldc2 (v := 9) hx hb hown (hts (.constantLong RX9 187 (9)) (by decide +kernel)) dX9_post_22 ?_
        obtain ⟨r8, e9, h⟩ := gw_bdE h
        refine gw_callS (As := [.long (x3.toInt64), .long (0 : Int64), .long (9 : Int64)]) (n := 3) B hI (k_X9_in (x3.toInt64) (0 : Int64) (9 : Int64) S e9) gX9_post_X9_in rfl rfl rfl nds_X9_in ⟨Nat.le_of_ble_eq_true rfl, Nat.le_of_ble_eq_true rfl⟩ rfl hl.1 (Nat.zero_le _) dX9_post_25 ⟨Nat.le_of_ble_eq_true rfl, Nat.le_of_ble_eq_true rfl⟩ rfl (fun w' H locs hw hI => ?_)
        subst hw
        refine lv_if_ne (tgt := 33) hx hb dX9_post_28 (by decide) (fun c10 => ?_) (fun c10 => ?_)
        · replace h := gw_ifF c10 h
          refine lv_aload_n hx hb dX9_post_33 rfl (lv_at hl 0 rfl) ?_
          refine gw_get (T := TX9) (k := 7) (v := .ref (a 6)) B hI gm_g0 rfl ly_X9_post_9 (by decide) m_X9_post_25 rfl rfl dX9_post_34 ?_
          refine lv_bipush (v := 9) hx hb dX9_post_37 (by decide) ?_
          refine lv_iload_n hx hb dX9_post_39 rfl (lv_at hl 1 rfl) ?_
          refine lv_imul hx hb dX9_post_40 ?_
          refine lv_iload_n hx hb dX9_post_41 rfl (lv_at hl 2 rfl) ?_
          refine lv_iadd hx hb dX9_post_42 ?_
          obtain ⟨g11, h⟩ := gw_gdE h
          refine gw_iald (t0 := 0) B hI gm_g6 rfl g11 dX9_post_43 ?_
          obtain ⟨y12, e13, h⟩ := gw_letE h
          rw [← e13]
          refine lv_istore (lv' := [(4, .int y12), (0, .ref (a 0)), (1, .int x1), (2, .int x2), (3, .int x3)]) hx hb dX9_post_44 hl (by decide) rfl (fun ls hl => ?_)
          refine lv_aload_n hx hb dX9_post_46 rfl (lv_at hl 1 rfl) ?_
          refine gw_get (T := TX9) (k := 7) (v := .ref (a 6)) B hI gm_g0 rfl ly_X9_post_9 (by decide) m_X9_post_25 rfl rfl dX9_post_47 ?_
          refine lv_bipush (v := 9) hx hb dX9_post_50 (by decide) ?_
          refine lv_iload_n hx hb dX9_post_52 rfl (lv_at hl 2 rfl) ?_
          refine lv_imul hx hb dX9_post_53 ?_
          refine lv_iload_n hx hb dX9_post_54 rfl (lv_at hl 3 rfl) ?_
          refine lv_iadd hx hb dX9_post_55 ?_
          refine lv_iload_n hx hb dX9_post_56 rfl (lv_at hl 4 rfl) ?_
          obtain ⟨S14, e15, h⟩ := gw_letE h
          refine gw_iast (t0 := 0) (w' := gw_mw cc a S14) B hI gm_g6 rfl g11 (gm_s6 e15) dX9_post_57 (fun H locs hI => ?_)
          refine lv_aload_n hx hb dX9_post_58 rfl (lv_at hl 1 rfl) ?_
          refine gw_get (T := TX9) (k := 7) (v := .ref (a 6)) B hI gm_g0 rfl ly_X9_post_9 (by decide) m_X9_post_25 rfl rfl dX9_post_59 ?_
          refine lv_bipush (v := 9) hx hb dX9_post_62 (by decide) ?_
          refine lv_iload_n hx hb dX9_post_64 rfl (lv_at hl 3 rfl) ?_
          refine lv_imul hx hb dX9_post_65 ?_
          refine lv_iload_n hx hb dX9_post_66 rfl (lv_at hl 2 rfl) ?_
          refine lv_iadd hx hb dX9_post_67 ?_
          refine lv_iload_n hx hb dX9_post_68 rfl (lv_at hl 4 rfl) ?_
          obtain ⟨g16, h⟩ := gw_gdE h
          obtain ⟨S17, e18, h⟩ := gw_letE h
          refine gw_iast (t0 := 0) (w' := gw_mw cc a S17) B hI gm_g6 rfl g16 (gm_s6 e18) dX9_post_69 (fun H locs hI => ?_)
          refine lv_iload hx hb dX9_post_70 (lv_at hl 0 rfl) ?_
          obtain ⟨h1, h2⟩ := Prod.mk.inj (Option.some.inj h)
          rw [h2] at hI
          rw [← h1]
          exact gw_iret (W' := (fun w => w = gw_mw cc a zS)) B hI rfl (Nat.zero_le _) (Nat.zero_le _) dX9_post_72
        · replace h := gw_ifT c10 h
          refine lv_iconst (v := -1) hx hb dX9_post_31 (by decide) ?_
          obtain ⟨h1, h2⟩ := Prod.mk.inj (Option.some.inj h)
          rw [h2] at hI
          rw [← h1]
          exact gw_iret (W' := (fun w => w = gw_mw cc a zS)) B hI rfl (Nat.zero_le _) (Nat.zero_le _) dX9_post_32
set_option maxRecDepth 100000 in
set_option maxHeartbeats 4000000 in
theorem k_X9_isMaker (x0 : Int32) (S : gw_S) {zr : Int32} (h : f_X9_isMaker x0 S = some zr) : gw_M l yX9_isMaker wsX9_isMaker rm_X9_isMaker 0 0 D (gw_ty cc) t1 t2 [.int x0] (gw_mw cc a S) (fun w => w = gw_mw cc a S) (some (.int zr)) := by
  refine gw_enter (cc := cX9_isMaker) (maxL := 1) (ret := (some .boolean)) (own := RX9) rfl (by decide) rfl (Nat.le_of_ble_eq_true rfl) ?_
  intro p e s m below meth c A B hin hI ls hl
  have hl : lv_has ls 1 [(0, .int x0)] := hl
  generalize ([.int x0] : List Value).toArray = args at B ⊢
  have hx := B.1.1
  have hb := B.1.2.1
  have hown : s.vm.findClass RX9 = some m.cls := B.1.2.2.2.1
  have hts := B.1.2.2.2.2
  unfold f_X9_isMaker at h
  refine lv_iload_n hx hb dX9_isMaker_0 rfl (lv_at hl 0 rfl) ?_
  refine lv_i2l hx hb dX9_isMaker_1 rfl ?_
  refine lv_lconst (v := 0) hx hb dX9_isMaker_2 (by decide) ?_
  refine lv_ldc2 (v := 5) hx hb hown (hts (.constantLong RX9 189 (5)) (by decide +kernel)) dX9_isMaker_3 ?_
  obtain ⟨r1, e2, h⟩ := gw_bdE h
  refine gw_callS (As := [.long (x0.toInt64), .long (0 : Int64), .long (5 : Int64)]) (n := 3) B hI (k_X9_in (x0.toInt64) (0 : Int64) (5 : Int64) S e2) gX9_isMaker_X9_in rfl rfl rfl nds_X9_in ⟨Nat.le_of_ble_eq_true rfl, Nat.le_of_ble_eq_true rfl⟩ rfl hl.1 (Nat.zero_le _) dX9_isMaker_6 ⟨Nat.le_of_ble_eq_true rfl, Nat.le_of_ble_eq_true rfl⟩ rfl (fun w' H locs hw hI => ?_)
  subst hw
  obtain ⟨g3, h⟩ := gw_gdE h
  rw [← Option.some.inj h]
  exact gw_zret (W' := (fun w => w = gw_mw cc a S)) B hI rfl g3 (Nat.zero_le _) (Nat.zero_le _) dX9_isMaker_9
set_option maxRecDepth 100000 in
set_option maxHeartbeats 4000000 in
theorem k_X9_isLabel (x0 : Int32) (S : gw_S) {zr : Int32} (h : f_X9_isLabel x0 S = some zr) : gw_M l yX9_isLabel wsX9_isLabel rm_X9_isLabel 0 0 D (gw_ty cc) t1 t2 [.int x0] (gw_mw cc a S) (fun w => w = gw_mw cc a S) (some (.int zr)) := by
  refine gw_enter (cc := cX9_isLabel) (maxL := 1) (ret := (some .boolean)) (own := RX9) rfl (by decide) rfl (Nat.le_of_ble_eq_true rfl) ?_
  intro p e s m below meth c A B hin hI ls hl
  have hl : lv_has ls 1 [(0, .int x0)] := hl
  generalize ([.int x0] : List Value).toArray = args at B ⊢
  have hx := B.1.1
  have hb := B.1.2.1
  have hown : s.vm.findClass RX9 = some m.cls := B.1.2.2.2.1
  have hts := B.1.2.2.2.2
  unfold f_X9_isLabel at h
  refine lv_iload_n hx hb dX9_isLabel_0 rfl (lv_at hl 0 rfl) ?_
  refine lv_i2l hx hb dX9_isLabel_1 rfl ?_
  refine lv_lconst (v := 1) hx hb dX9_isLabel_2 (by decide) ?_
  refine lv_ldc2 (v := 40) hx hb hown (hts (.constantLong RX9 191 (40)) (by decide +kernel)) dX9_isLabel_3 ?_
  obtain ⟨r1, e2, h⟩ := gw_bdE h
  refine gw_callS (As := [.long (x0.toInt64), .long (1 : Int64), .long (40 : Int64)]) (n := 3) B hI (k_X9_in (x0.toInt64) (1 : Int64) (40 : Int64) S e2) gX9_isLabel_X9_in rfl rfl rfl nds_X9_in ⟨Nat.le_of_ble_eq_true rfl, Nat.le_of_ble_eq_true rfl⟩ rfl hl.1 (Nat.zero_le _) dX9_isLabel_6 ⟨Nat.le_of_ble_eq_true rfl, Nat.le_of_ble_eq_true rfl⟩ rfl (fun w' H locs hw hI => ?_)
  subst hw
  obtain ⟨g3, h⟩ := gw_gdE h
  rw [← Option.some.inj h]
  exact gw_zret (W' := (fun w => w = gw_mw cc a S)) B hI rfl g3 (Nat.zero_le _) (Nat.zero_le _) dX9_isLabel_9
theorem m_X9_add_203 : Cond.fieldLink RX9 203 "GownLetModel" "pieces" "I" ∈ wsX9_add := by decide +kernel
theorem m_X9_add_28 : Cond.fieldLink RX9 28 "GownLetModel" "kinds" "[I" ∈ wsX9_add := by decide +kernel
theorem m_X9_add_31 : Cond.fieldLink RX9 31 "GownLetModel" "makers" "[I" ∈ wsX9_add := by decide +kernel
theorem m_X9_add_34 : Cond.fieldLink RX9 34 "GownLetModel" "labels" "[I" ∈ wsX9_add := by decide +kernel
theorem m_X9_add_37 : Cond.fieldLink RX9 37 "GownLetModel" "lots" "[I" ∈ wsX9_add := by decide +kernel
theorem m_X9_add_40 : Cond.fieldLink RX9 40 "GownLetModel" "towns" "[I" ∈ wsX9_add := by decide +kernel
theorem m_X9_add_43 : Cond.fieldLink RX9 43 "GownLetModel" "prices" "[I" ∈ wsX9_add := by decide +kernel
theorem m_X9_add_46 : Cond.fieldLink RX9 46 "GownLetModel" "lives" "[I" ∈ wsX9_add := by decide +kernel
theorem ly_X9_add_9 : ∀ w ∈ wsX90, w ∈ wsX9_add := fun w h => List.mem_cons_of_mem _ (List.mem_append_right _ h)
set_option maxRecDepth 100000 in
set_option maxHeartbeats 4000000 in
theorem k_X9_add (x1 : Int32) (x2 : Int32) (x3 : Int32) (x4 : Int32) (x5 : Int32) (x6 : Int32) (x7 : Int32) (S : gw_S) {zr : Int32} {zS : gw_S} (h : f_X9_add x1 x2 x3 x4 x5 x6 x7 S = some (zr, zS)) : gw_M l yX9_add wsX9_add rm_X9_add 0 0 D (gw_ty cc) t1 t2 [.ref (a 0), .int x1, .int x2, .int x3, .int x4, .int x5, .int x6, .int x7] (gw_mw cc a S) (fun w => w = gw_mw cc a zS) (some (.int zr)) := by
  refine gw_enter (cc := cX9_add) (maxL := 8) (ret := (some .int)) (own := RX9) rfl (by decide) rfl (Nat.le_of_ble_eq_true rfl) ?_
  intro p e s m below meth c A B hin hI ls hl
  have hl : lv_has ls 8 [(0, .ref (a 0)), (1, .int x1), (2, .int x2), (3, .int x3), (4, .int x4), (5, .int x5), (6, .int x6), (7, .int x7)] := hl
  generalize ([.ref (a 0), .int x1, .int x2, .int x3, .int x4, .int x5, .int x6, .int x7] : List Value).toArray = args at B ⊢
  have hx := B.1.1
  have hb := B.1.2.1
  have hown : s.vm.findClass RX9 = some m.cls := B.1.2.2.2.1
  have hts := B.1.2.2.2.2
  unfold f_X9_add at h
  refine lv_iload_n hx hb dX9_add_0 rfl (lv_at hl 2 rfl) ?_
  obtain ⟨r1, e2, h⟩ := gw_bdE h
  refine gw_callS (As := [.int x2]) (n := 1) B hI (k_X9_isMaker x2 S e2) gX9_add_X9_isMaker rfl rfl rfl nds_X9_isMaker ⟨Nat.le_of_ble_eq_true rfl, Nat.le_of_ble_eq_true rfl⟩ rfl hl.1 (Nat.zero_le _) dX9_add_1 ⟨Nat.le_of_ble_eq_true rfl, Nat.le_of_ble_eq_true rfl⟩ rfl (fun w' H locs hw hI => ?_)
  subst hw
  refine lv_if_eq (tgt := 61) hx hb dX9_add_4 (by decide) (fun c3 => ?_) (fun c3 => ?_)
  · replace h := gw_ifT c3 h
    refine lv_iconst (v := -1) hx hb dX9_add_61 (by decide) ?_
    obtain ⟨h1, h2⟩ := Prod.mk.inj (Option.some.inj h)
    rw [h2] at hI
    rw [← h1]
    exact gw_iret (W' := (fun w => w = gw_mw cc a zS)) B hI rfl (Nat.zero_le _) (Nat.zero_le _) dX9_add_62
  · replace h := gw_ifF c3 h
    refine lv_iload_n hx hb dX9_add_7 rfl (lv_at hl 3 rfl) ?_
    obtain ⟨r4, e5, h⟩ := gw_bdE h
    refine gw_callS (As := [.int x3]) (n := 1) B hI (k_X9_isLabel x3 S e5) gX9_add_X9_isLabel rfl rfl rfl nds_X9_isLabel ⟨Nat.le_of_ble_eq_true rfl, Nat.le_of_ble_eq_true rfl⟩ rfl hl.1 (Nat.zero_le _) dX9_add_8 ⟨Nat.le_of_ble_eq_true rfl, Nat.le_of_ble_eq_true rfl⟩ rfl (fun w' H locs hw hI => ?_)
    subst hw
    refine lv_if_eq (tgt := 61) hx hb dX9_add_11 (by decide) (fun c6 => ?_) (fun c6 => ?_)
    · replace h := gw_ifT c6 h
      refine lv_iconst (v := -1) hx hb dX9_add_61 (by decide) ?_
      obtain ⟨h1, h2⟩ := Prod.mk.inj (Option.some.inj h)
      rw [h2] at hI
      rw [← h1]
      exact gw_iret (W' := (fun w => w = gw_mw cc a zS)) B hI rfl (Nat.zero_le _) (Nat.zero_le _) dX9_add_62
    · replace h := gw_ifF c6 h
      refine lv_iload hx hb dX9_add_14 (lv_at hl 4 rfl) ?_
      refine lv_i2l hx hb dX9_add_16 rfl ?_
      refine lv_lconst (v := 0) hx hb dX9_add_17 (by decide) ?_
      refine lv_ldc2 (v := 9) hx hb hown (hts (.constantLong RX9 187 (9)) (by decide +kernel)) dX9_add_18 ?_
      obtain ⟨r7, e8, h⟩ := gw_bdE h
      refine gw_callS (As := [.long (x4.toInt64), .long (0 : Int64), .long (9 : Int64)]) (n := 3) B hI (k_X9_in (x4.toInt64) (0 : Int64) (9 : Int64) S e8) gX9_add_X9_in rfl rfl rfl nds_X9_in ⟨Nat.le_of_ble_eq_true rfl, Nat.le_of_ble_eq_true rfl⟩ rfl hl.1 (Nat.zero_le _) dX9_add_21 ⟨Nat.le_of_ble_eq_true rfl, Nat.le_of_ble_eq_true rfl⟩ rfl (fun w' H locs hw hI => ?_)
      subst hw
      refine lv_if_eq (tgt := 61) hx hb dX9_add_24 (by decide) (fun c9 => ?_) (fun c9 => ?_)
      · replace h := gw_ifT c9 h
        refine lv_iconst (v := -1) hx hb dX9_add_61 (by decide) ?_
        obtain ⟨h1, h2⟩ := Prod.mk.inj (Option.some.inj h)
        rw [h2] at hI
        rw [← h1]
        exact gw_iret (W' := (fun w => w = gw_mw cc a zS)) B hI rfl (Nat.zero_le _) (Nat.zero_le _) dX9_add_62
      · replace h := gw_ifF c9 h
        refine lv_iload hx hb dX9_add_27 (lv_at hl 5 rfl) ?_
        obtain ⟨r10, e11, h⟩ := gw_bdE h
        refine gw_callS (As := [.int x5]) (n := 1) B hI (k_X9_isTown x5 S e11) gX9_add_X9_isTown rfl rfl rfl nds_X9_isTown ⟨Nat.le_of_ble_eq_true rfl, Nat.le_of_ble_eq_true rfl⟩ rfl hl.1 (Nat.zero_le _) dX9_add_29 ⟨Nat.le_of_ble_eq_true rfl, Nat.le_of_ble_eq_true rfl⟩ rfl (fun w' H locs hw hI => ?_)
        subst hw
        refine lv_if_eq (tgt := 61) hx hb dX9_add_32 (by decide) (fun c12 => ?_) (fun c12 => ?_)
        · replace h := gw_ifT c12 h
          refine lv_iconst (v := -1) hx hb dX9_add_61 (by decide) ?_
          obtain ⟨h1, h2⟩ := Prod.mk.inj (Option.some.inj h)
          rw [h2] at hI
          rw [← h1]
          exact gw_iret (W' := (fun w => w = gw_mw cc a zS)) B hI rfl (Nat.zero_le _) (Nat.zero_le _) dX9_add_62
        · replace h := gw_ifF c12 h
          refine lv_iload hx hb dX9_add_35 (lv_at hl 6 rfl) ?_
          refine lv_i2l hx hb dX9_add_37 rfl ?_
          refine lv_lconst (v := 1) hx hb dX9_add_38 (by decide) ?_
          refine lv_ldc2 (v := 9999) hx hb hown (hts (.constantLong RX9 199 (9999)) (by decide +kernel)) dX9_add_39 ?_
          obtain ⟨r13, e14, h⟩ := gw_bdE h
          refine gw_callS (As := [.long (x6.toInt64), .long (1 : Int64), .long (9999 : Int64)]) (n := 3) B hI (k_X9_in (x6.toInt64) (1 : Int64) (9999 : Int64) S e14) gX9_add_X9_in rfl rfl rfl nds_X9_in ⟨Nat.le_of_ble_eq_true rfl, Nat.le_of_ble_eq_true rfl⟩ rfl hl.1 (Nat.zero_le _) dX9_add_42 ⟨Nat.le_of_ble_eq_true rfl, Nat.le_of_ble_eq_true rfl⟩ rfl (fun w' H locs hw hI => ?_)
          subst hw
          refine lv_if_eq (tgt := 61) hx hb dX9_add_45 (by decide) (fun c15 => ?_) (fun c15 => ?_)
          · replace h := gw_ifT c15 h
            refine lv_iconst (v := -1) hx hb dX9_add_61 (by decide) ?_
            obtain ⟨h1, h2⟩ := Prod.mk.inj (Option.some.inj h)
            rw [h2] at hI
            rw [← h1]
            exact gw_iret (W' := (fun w => w = gw_mw cc a zS)) B hI rfl (Nat.zero_le _) (Nat.zero_le _) dX9_add_62
          · replace h := gw_ifF c15 h
            refine lv_iload hx hb dX9_add_48 (lv_at hl 7 rfl) ?_
            refine lv_i2l hx hb dX9_add_50 rfl ?_
            refine lv_lconst (v := 1) hx hb dX9_add_51 (by decide) ?_
            refine lv_ldc2 (v := 99) hx hb hown (hts (.constantLong RX9 201 (99)) (by decide +kernel)) dX9_add_52 ?_
            obtain ⟨r16, e17, h⟩ := gw_bdE h
            refine gw_callS (As := [.long (x7.toInt64), .long (1 : Int64), .long (99 : Int64)]) (n := 3) B hI (k_X9_in (x7.toInt64) (1 : Int64) (99 : Int64) S e17) gX9_add_X9_in rfl rfl rfl nds_X9_in ⟨Nat.le_of_ble_eq_true rfl, Nat.le_of_ble_eq_true rfl⟩ rfl hl.1 (Nat.zero_le _) dX9_add_55 ⟨Nat.le_of_ble_eq_true rfl, Nat.le_of_ble_eq_true rfl⟩ rfl (fun w' H locs hw hI => ?_)
            subst hw
            refine lv_if_ne (tgt := 63) hx hb dX9_add_58 (by decide) (fun c18 => ?_) (fun c18 => ?_)
            · replace h := gw_ifF c18 h
              refine lv_aload_n hx hb dX9_add_63 rfl (lv_at hl 0 rfl) ?_
              refine gw_get (T := TX9) (k := 8) (v := .int (S 0 8)) B hI gm_g0 rfl ly_X9_add_9 (by decide) m_X9_add_203 rfl rfl dX9_add_64 ?_
              refine lv_bipush (v := 24) hx hb dX9_add_67 (by decide) ?_
              refine lv_icmp_ne (tgt := 75) hx hb dX9_add_69 (by decide) (fun c19 => ?_) (fun c19 => ?_)
              · replace h := gw_ifF c19 h
                refine lv_aload_n hx hb dX9_add_75 rfl (lv_at hl 0 rfl) ?_
                refine gw_get (T := TX9) (k := 9) (v := .ref (a 7)) B hI gm_g0 rfl ly_X9_add_9 (by decide) m_X9_add_28 rfl rfl dX9_add_76 ?_
                refine lv_aload_n hx hb dX9_add_79 rfl (lv_at hl 0 rfl) ?_
                refine gw_get (T := TX9) (k := 8) (v := .int (S 0 8)) B hI gm_g0 rfl ly_X9_add_9 (by decide) m_X9_add_203 rfl rfl dX9_add_80 ?_
                refine lv_iload_n hx hb dX9_add_83 rfl (lv_at hl 1 rfl) ?_
                obtain ⟨g20, h⟩ := gw_gdE h
                obtain ⟨S21, e22, h⟩ := gw_letE h
                refine gw_iast (t0 := 0) (w' := gw_mw cc a S21) B hI gm_g7 rfl g20 (gm_s7 e22) dX9_add_84 (fun H locs hI => ?_)
                refine lv_aload_n hx hb dX9_add_85 rfl (lv_at hl 0 rfl) ?_
                refine gw_get (T := TX9) (k := 10) (v := .ref (a 8)) B hI gm_g0 rfl ly_X9_add_9 (by decide) m_X9_add_31 rfl rfl dX9_add_86 ?_
                refine lv_aload_n hx hb dX9_add_89 rfl (lv_at hl 0 rfl) ?_
                refine gw_get (T := TX9) (k := 8) (v := .int (S21 0 8)) B hI gm_g0 rfl ly_X9_add_9 (by decide) m_X9_add_203 rfl rfl dX9_add_90 ?_
                refine lv_iload_n hx hb dX9_add_93 rfl (lv_at hl 2 rfl) ?_
                obtain ⟨g23, h⟩ := gw_gdE h
                obtain ⟨S24, e25, h⟩ := gw_letE h
                refine gw_iast (t0 := 0) (w' := gw_mw cc a S24) B hI gm_g8 rfl g23 (gm_s8 e25) dX9_add_94 (fun H locs hI => ?_)
                refine lv_aload_n hx hb dX9_add_95 rfl (lv_at hl 0 rfl) ?_
                refine gw_get (T := TX9) (k := 11) (v := .ref (a 9)) B hI gm_g0 rfl ly_X9_add_9 (by decide) m_X9_add_34 rfl rfl dX9_add_96 ?_
                refine lv_aload_n hx hb dX9_add_99 rfl (lv_at hl 0 rfl) ?_
                refine gw_get (T := TX9) (k := 8) (v := .int (S24 0 8)) B hI gm_g0 rfl ly_X9_add_9 (by decide) m_X9_add_203 rfl rfl dX9_add_100 ?_
                refine lv_iload_n hx hb dX9_add_103 rfl (lv_at hl 3 rfl) ?_
                obtain ⟨g26, h⟩ := gw_gdE h
                obtain ⟨S27, e28, h⟩ := gw_letE h
                refine gw_iast (t0 := 0) (w' := gw_mw cc a S27) B hI gm_g9 rfl g26 (gm_s9 e28) dX9_add_104 (fun H locs hI => ?_)
                refine lv_aload_n hx hb dX9_add_105 rfl (lv_at hl 0 rfl) ?_
                refine gw_get (T := TX9) (k := 12) (v := .ref (a 10)) B hI gm_g0 rfl ly_X9_add_9 (by decide) m_X9_add_37 rfl rfl dX9_add_106 ?_
                refine lv_aload_n hx hb dX9_add_109 rfl (lv_at hl 0 rfl) ?_
                refine gw_get (T := TX9) (k := 8) (v := .int (S27 0 8)) B hI gm_g0 rfl ly_X9_add_9 (by decide) m_X9_add_203 rfl rfl dX9_add_110 ?_
                refine lv_iload hx hb dX9_add_113 (lv_at hl 4 rfl) ?_
                obtain ⟨g29, h⟩ := gw_gdE h
                obtain ⟨S30, e31, h⟩ := gw_letE h
                refine gw_iast (t0 := 0) (w' := gw_mw cc a S30) B hI gm_g10 rfl g29 (gm_s10 e31) dX9_add_115 (fun H locs hI => ?_)
                refine lv_aload_n hx hb dX9_add_116 rfl (lv_at hl 0 rfl) ?_
                refine gw_get (T := TX9) (k := 13) (v := .ref (a 11)) B hI gm_g0 rfl ly_X9_add_9 (by decide) m_X9_add_40 rfl rfl dX9_add_117 ?_
                refine lv_aload_n hx hb dX9_add_120 rfl (lv_at hl 0 rfl) ?_
                refine gw_get (T := TX9) (k := 8) (v := .int (S30 0 8)) B hI gm_g0 rfl ly_X9_add_9 (by decide) m_X9_add_203 rfl rfl dX9_add_121 ?_
                refine lv_iload hx hb dX9_add_124 (lv_at hl 5 rfl) ?_
                obtain ⟨g32, h⟩ := gw_gdE h
                obtain ⟨S33, e34, h⟩ := gw_letE h
                refine gw_iast (t0 := 0) (w' := gw_mw cc a S33) B hI gm_g11 rfl g32 (gm_s11 e34) dX9_add_126 (fun H locs hI => ?_)
                refine lv_aload_n hx hb dX9_add_127 rfl (lv_at hl 0 rfl) ?_
                refine gw_get (T := TX9) (k := 14) (v := .ref (a 12)) B hI gm_g0 rfl ly_X9_add_9 (by decide) m_X9_add_43 rfl rfl dX9_add_128 ?_
                refine lv_aload_n hx hb dX9_add_131 rfl (lv_at hl 0 rfl) ?_
                refine gw_get (T := TX9) (k := 8) (v := .int (S33 0 8)) B hI gm_g0 rfl ly_X9_add_9 (by decide) m_X9_add_203 rfl rfl dX9_add_132 ?_
                refine lv_iload hx hb dX9_add_135 (lv_at hl 6 rfl) ?_
                obtain ⟨g35, h⟩ := gw_gdE h
                obtain ⟨S36, e37, h⟩ := gw_letE h
                refine gw_iast (t0 := 0) (w' := gw_mw cc a S36) B hI gm_g12 rfl g35 (gm_s12 e37) dX9_add_137 (fun H locs hI => ?_)
                refine lv_aload_n hx hb dX9_add_138 rfl (lv_at hl 0 rfl) ?_
                refine gw_get (T := TX9) (k := 15) (v := .ref (a 13)) B hI gm_g0 rfl ly_X9_add_9 (by decide) m_X9_add_46 rfl rfl dX9_add_139 ?_
                refine lv_aload_n hx hb dX9_add_142 rfl (lv_at hl 0 rfl) ?_
                refine gw_get (T := TX9) (k := 8) (v := .int (S36 0 8)) B hI gm_g0 rfl ly_X9_add_9 (by decide) m_X9_add_203 rfl rfl dX9_add_143 ?_
                refine lv_iload hx hb dX9_add_146 (lv_at hl 7 rfl) ?_
                obtain ⟨g38, h⟩ := gw_gdE h
                obtain ⟨S39, e40, h⟩ := gw_letE h
                refine gw_iast (t0 := 0) (w' := gw_mw cc a S39) B hI gm_g13 rfl g38 (gm_s13 e40) dX9_add_148 (fun H locs hI => ?_)
                refine lv_aload_n hx hb dX9_add_149 rfl (lv_at hl 0 rfl) ?_
                refine lv_dup hx hb dX9_add_150 rfl ?_
                refine gw_get (T := TX9) (k := 8) (v := .int (S39 0 8)) B hI gm_g0 rfl ly_X9_add_9 (by decide) m_X9_add_203 rfl rfl dX9_add_151 ?_
                refine lv_iconst (v := 1) hx hb dX9_add_154 (by decide) ?_
                refine lv_iadd hx hb dX9_add_155 ?_
                obtain ⟨S41, e42, h⟩ := gw_letE h
                refine gw_put (T := TX9) (k := 8) (w' := gw_mw cc a S41) B hI gm_g0 rfl ly_X9_add_9 tyX9 tyX9_ok nmX9 (by decide) m_X9_add_203 rfl rfl rfl rfl (Nat.le_of_ble_eq_true rfl) (gm_s0_8 e42) dX9_add_156 (fun H locs hI => ?_)
                refine lv_aload_n hx hb dX9_add_159 rfl (lv_at hl 0 rfl) ?_
                refine gw_get (T := TX9) (k := 8) (v := .int (S41 0 8)) B hI gm_g0 rfl ly_X9_add_9 (by decide) m_X9_add_203 rfl rfl dX9_add_160 ?_
                refine lv_iconst (v := 1) hx hb dX9_add_163 (by decide) ?_
                refine lv_isub hx hb dX9_add_164 ?_
                obtain ⟨h1, h2⟩ := Prod.mk.inj (Option.some.inj h)
                rw [h2] at hI
                rw [← h1]
                exact gw_iret (W' := (fun w => w = gw_mw cc a zS)) B hI rfl (Nat.zero_le _) (Nat.zero_le _) dX9_add_165
              · replace h := gw_ifT c19 h
                refine lv_bipush (v := -3) hx hb dX9_add_72 (by decide) ?_
                obtain ⟨h1, h2⟩ := Prod.mk.inj (Option.some.inj h)
                rw [h2] at hI
                rw [← h1]
                exact gw_iret (W' := (fun w => w = gw_mw cc a zS)) B hI rfl (Nat.zero_le _) (Nat.zero_le _) dX9_add_74
            · replace h := gw_ifT c18 h
              refine lv_iconst (v := -1) hx hb dX9_add_61 (by decide) ?_
              obtain ⟨h1, h2⟩ := Prod.mk.inj (Option.some.inj h)
              rw [h2] at hI
              rw [← h1]
              exact gw_iret (W' := (fun w => w = gw_mw cc a zS)) B hI rfl (Nat.zero_le _) (Nat.zero_le _) dX9_add_62
set_option maxRecDepth 100000 in
set_option maxHeartbeats 4000000 in
theorem k_X9_gown (x1 : Int32) (x2 : Int32) (x3 : Int32) (x4 : Int32) (x5 : Int32) (x6 : Int32) (S : gw_S) {zr : Int32} {zS : gw_S} (h : f_X9_gown x1 x2 x3 x4 x5 x6 S = some (zr, zS)) : gw_M l yX9_gown wsX9_gown rm_X9_gown 0 0 D (gw_ty cc) t1 t2 [.ref (a 0), .int x1, .int x2, .int x3, .int x4, .int x5, .int x6] (gw_mw cc a S) (fun w => w = gw_mw cc a zS) (some (.int zr)) := by
  refine gw_enter (cc := cX9_gown) (maxL := 7) (ret := (some .int)) (own := RX9) rfl (by decide) rfl (Nat.le_of_ble_eq_true rfl) ?_
  intro p e s m below meth c A B hin hI ls hl
  have hl : lv_has ls 7 [(0, .ref (a 0)), (1, .int x1), (2, .int x2), (3, .int x3), (4, .int x4), (5, .int x5), (6, .int x6)] := hl
  generalize ([.ref (a 0), .int x1, .int x2, .int x3, .int x4, .int x5, .int x6] : List Value).toArray = args at B ⊢
  have hx := B.1.1
  have hb := B.1.2.1
  have hown : s.vm.findClass RX9 = some m.cls := B.1.2.2.2.1
  have hts := B.1.2.2.2.2
  unfold f_X9_gown at h
  refine lv_aload_n hx hb dX9_gown_0 rfl (lv_at hl 0 rfl) ?_
  refine lv_iconst (v := 0) hx hb dX9_gown_1 (by decide) ?_
  refine lv_iload_n hx hb dX9_gown_2 rfl (lv_at hl 1 rfl) ?_
  refine lv_iload_n hx hb dX9_gown_3 rfl (lv_at hl 2 rfl) ?_
  refine lv_iload_n hx hb dX9_gown_4 rfl (lv_at hl 3 rfl) ?_
  refine lv_iload hx hb dX9_gown_5 (lv_at hl 4 rfl) ?_
  refine lv_iload hx hb dX9_gown_7 (lv_at hl 5 rfl) ?_
  refine lv_iload hx hb dX9_gown_9 (lv_at hl 6 rfl) ?_
  obtain ⟨r1, S2, e3, h⟩ := gw_b2E h
  refine gw_callV (As := [.int (0 : Int32), .int x1, .int x2, .int x3, .int x4, .int x5, .int x6]) (n := 7) B hI (k_X9_add (0 : Int32) x1 x2 x3 x4 x5 x6 S e3) gX9_gown_X9_add rfl rfl rfl nd_X9_add ⟨Nat.le_of_ble_eq_true rfl, Nat.le_of_ble_eq_true rfl⟩ gm_g0 rfl rfl rfl hl.1 (Nat.zero_le _) dX9_gown_11 ⟨Nat.le_of_ble_eq_true rfl, Nat.le_of_ble_eq_true rfl⟩ rfl (fun w' H locs hw hI => ?_)
  subst hw
  obtain ⟨h1, h2⟩ := Prod.mk.inj (Option.some.inj h)
  rw [h2] at hI
  rw [← h1]
  exact gw_iret (W' := (fun w => w = gw_mw cc a zS)) B hI rfl (Nat.zero_le _) (Nat.zero_le _) dX9_gown_14
set_option maxRecDepth 100000 in
set_option maxHeartbeats 4000000 in
theorem k_X9_longGown (x1 : Int32) (x2 : Int32) (x3 : Int32) (x4 : Int32) (x5 : Int32) (x6 : Int32) (S : gw_S) {zr : Int32} {zS : gw_S} (h : f_X9_longGown x1 x2 x3 x4 x5 x6 S = some (zr, zS)) : gw_M l yX9_longGown wsX9_longGown rm_X9_longGown 0 0 D (gw_ty cc) t1 t2 [.ref (a 0), .int x1, .int x2, .int x3, .int x4, .int x5, .int x6] (gw_mw cc a S) (fun w => w = gw_mw cc a zS) (some (.int zr)) := by
  refine gw_enter (cc := cX9_longGown) (maxL := 7) (ret := (some .int)) (own := RX9) rfl (by decide) rfl (Nat.le_of_ble_eq_true rfl) ?_
  intro p e s m below meth c A B hin hI ls hl
  have hl : lv_has ls 7 [(0, .ref (a 0)), (1, .int x1), (2, .int x2), (3, .int x3), (4, .int x4), (5, .int x5), (6, .int x6)] := hl
  generalize ([.ref (a 0), .int x1, .int x2, .int x3, .int x4, .int x5, .int x6] : List Value).toArray = args at B ⊢
  have hx := B.1.1
  have hb := B.1.2.1
  have hown : s.vm.findClass RX9 = some m.cls := B.1.2.2.2.1
  have hts := B.1.2.2.2.2
  unfold f_X9_longGown at h
  refine lv_aload_n hx hb dX9_longGown_0 rfl (lv_at hl 0 rfl) ?_
  refine lv_iconst (v := 1) hx hb dX9_longGown_1 (by decide) ?_
  refine lv_iload_n hx hb dX9_longGown_2 rfl (lv_at hl 1 rfl) ?_
  refine lv_iload_n hx hb dX9_longGown_3 rfl (lv_at hl 2 rfl) ?_
  refine lv_iload_n hx hb dX9_longGown_4 rfl (lv_at hl 3 rfl) ?_
  refine lv_iload hx hb dX9_longGown_5 (lv_at hl 4 rfl) ?_
  refine lv_iload hx hb dX9_longGown_7 (lv_at hl 5 rfl) ?_
  refine lv_iload hx hb dX9_longGown_9 (lv_at hl 6 rfl) ?_
  obtain ⟨r1, S2, e3, h⟩ := gw_b2E h
  refine gw_callV (As := [.int (1 : Int32), .int x1, .int x2, .int x3, .int x4, .int x5, .int x6]) (n := 7) B hI (k_X9_add (1 : Int32) x1 x2 x3 x4 x5 x6 S e3) gX9_longGown_X9_add rfl rfl rfl nd_X9_add ⟨Nat.le_of_ble_eq_true rfl, Nat.le_of_ble_eq_true rfl⟩ gm_g0 rfl rfl rfl hl.1 (Nat.zero_le _) dX9_longGown_11 ⟨Nat.le_of_ble_eq_true rfl, Nat.le_of_ble_eq_true rfl⟩ rfl (fun w' H locs hw hI => ?_)
  subst hw
  obtain ⟨h1, h2⟩ := Prod.mk.inj (Option.some.inj h)
  rw [h2] at hI
  rw [← h1]
  exact gw_iret (W' := (fun w => w = gw_mw cc a zS)) B hI rfl (Nat.zero_le _) (Nat.zero_le _) dX9_longGown_14
set_option maxRecDepth 100000 in
set_option maxHeartbeats 4000000 in
theorem k_X9_suit (x1 : Int32) (x2 : Int32) (x3 : Int32) (x4 : Int32) (x5 : Int32) (x6 : Int32) (S : gw_S) {zr : Int32} {zS : gw_S} (h : f_X9_suit x1 x2 x3 x4 x5 x6 S = some (zr, zS)) : gw_M l yX9_suit wsX9_suit rm_X9_suit 0 0 D (gw_ty cc) t1 t2 [.ref (a 0), .int x1, .int x2, .int x3, .int x4, .int x5, .int x6] (gw_mw cc a S) (fun w => w = gw_mw cc a zS) (some (.int zr)) := by
  refine gw_enter (cc := cX9_suit) (maxL := 7) (ret := (some .int)) (own := RX9) rfl (by decide) rfl (Nat.le_of_ble_eq_true rfl) ?_
  intro p e s m below meth c A B hin hI ls hl
  have hl : lv_has ls 7 [(0, .ref (a 0)), (1, .int x1), (2, .int x2), (3, .int x3), (4, .int x4), (5, .int x5), (6, .int x6)] := hl
  generalize ([.ref (a 0), .int x1, .int x2, .int x3, .int x4, .int x5, .int x6] : List Value).toArray = args at B ⊢
  have hx := B.1.1
  have hb := B.1.2.1
  have hown : s.vm.findClass RX9 = some m.cls := B.1.2.2.2.1
  have hts := B.1.2.2.2.2
  unfold f_X9_suit at h
  refine lv_aload_n hx hb dX9_suit_0 rfl (lv_at hl 0 rfl) ?_
  refine lv_iconst (v := 2) hx hb dX9_suit_1 (by decide) ?_
  refine lv_iload_n hx hb dX9_suit_2 rfl (lv_at hl 1 rfl) ?_
  refine lv_iload_n hx hb dX9_suit_3 rfl (lv_at hl 2 rfl) ?_
  refine lv_iload_n hx hb dX9_suit_4 rfl (lv_at hl 3 rfl) ?_
  refine lv_iload hx hb dX9_suit_5 (lv_at hl 4 rfl) ?_
  refine lv_iload hx hb dX9_suit_7 (lv_at hl 5 rfl) ?_
  refine lv_iload hx hb dX9_suit_9 (lv_at hl 6 rfl) ?_
  obtain ⟨r1, S2, e3, h⟩ := gw_b2E h
  refine gw_callV (As := [.int (2 : Int32), .int x1, .int x2, .int x3, .int x4, .int x5, .int x6]) (n := 7) B hI (k_X9_add (2 : Int32) x1 x2 x3 x4 x5 x6 S e3) gX9_suit_X9_add rfl rfl rfl nd_X9_add ⟨Nat.le_of_ble_eq_true rfl, Nat.le_of_ble_eq_true rfl⟩ gm_g0 rfl rfl rfl hl.1 (Nat.zero_le _) dX9_suit_11 ⟨Nat.le_of_ble_eq_true rfl, Nat.le_of_ble_eq_true rfl⟩ rfl (fun w' H locs hw hI => ?_)
  subst hw
  obtain ⟨h1, h2⟩ := Prod.mk.inj (Option.some.inj h)
  rw [h2] at hI
  rw [← h1]
  exact gw_iret (W' := (fun w => w = gw_mw cc a zS)) B hI rfl (Nat.zero_le _) (Nat.zero_le _) dX9_suit_14
theorem m_X9_isPiece_203 : Cond.fieldLink RX9 203 "GownLetModel" "pieces" "I" ∈ wsX9_isPiece := by decide +kernel
theorem ly_X9_isPiece_9 : ∀ w ∈ wsX90, w ∈ wsX9_isPiece := fun w h => List.mem_cons_of_mem _ (List.mem_append_right _ h)
set_option maxRecDepth 100000 in
set_option maxHeartbeats 4000000 in
theorem k_X9_isPiece (x1 : Int32) (S : gw_S) {zr : Int32} (h : f_X9_isPiece x1 S = some zr) : gw_M l yX9_isPiece wsX9_isPiece rm_X9_isPiece 0 0 D (gw_ty cc) t1 t2 [.ref (a 0), .int x1] (gw_mw cc a S) (fun w => w = gw_mw cc a S) (some (.int zr)) := by
  refine gw_enter (cc := cX9_isPiece) (maxL := 2) (ret := (some .boolean)) (own := RX9) rfl (by decide) rfl (Nat.le_of_ble_eq_true rfl) ?_
  intro p e s m below meth c A B hin hI ls hl
  have hl : lv_has ls 2 [(0, .ref (a 0)), (1, .int x1)] := hl
  generalize ([.ref (a 0), .int x1] : List Value).toArray = args at B ⊢
  have hx := B.1.1
  have hb := B.1.2.1
  have hown : s.vm.findClass RX9 = some m.cls := B.1.2.2.2.1
  have hts := B.1.2.2.2.2
  unfold f_X9_isPiece at h
  refine lv_iload_n hx hb dX9_isPiece_0 rfl (lv_at hl 1 rfl) ?_
  refine lv_i2l hx hb dX9_isPiece_1 rfl ?_
  refine lv_lconst (v := 0) hx hb dX9_isPiece_2 (by decide) ?_
  refine lv_aload_n hx hb dX9_isPiece_3 rfl (lv_at hl 0 rfl) ?_
  refine gw_get (T := TX9) (k := 8) (v := .int (S 0 8)) B hI gm_g0 rfl ly_X9_isPiece_9 (by decide) m_X9_isPiece_203 rfl rfl dX9_isPiece_4 ?_
  refine lv_iconst (v := 1) hx hb dX9_isPiece_7 (by decide) ?_
  refine lv_isub hx hb dX9_isPiece_8 ?_
  refine lv_i2l hx hb dX9_isPiece_9 rfl ?_
  obtain ⟨r1, e2, h⟩ := gw_bdE h
  refine gw_callS (As := [.long (x1.toInt64), .long (0 : Int64), .long (((S 0 8) - (1 : Int32)).toInt64)]) (n := 3) B hI (k_X9_in (x1.toInt64) (0 : Int64) (((S 0 8) - (1 : Int32)).toInt64) S e2) gX9_isPiece_X9_in rfl rfl rfl nds_X9_in ⟨Nat.le_of_ble_eq_true rfl, Nat.le_of_ble_eq_true rfl⟩ rfl hl.1 (Nat.zero_le _) dX9_isPiece_10 ⟨Nat.le_of_ble_eq_true rfl, Nat.le_of_ble_eq_true rfl⟩ rfl (fun w' H locs hw hI => ?_)
  subst hw
  obtain ⟨g3, h⟩ := gw_gdE h
  rw [← Option.some.inj h]
  exact gw_zret (W' := (fun w => w = gw_mw cc a S)) B hI rfl g3 (Nat.zero_le _) (Nat.zero_le _) dX9_isPiece_13
theorem m_X9_hem_28 : Cond.fieldLink RX9 28 "GownLetModel" "kinds" "[I" ∈ wsX9_hem := by decide +kernel
theorem m_X9_hem_49 : Cond.fieldLink RX9 49 "GownLetModel" "hems" "[I" ∈ wsX9_hem := by decide +kernel
theorem ly_X9_hem_9 : ∀ w ∈ wsX90, w ∈ wsX9_hem := fun w h => List.mem_cons_of_mem _ (List.mem_append_right _ h)
set_option maxRecDepth 100000 in
set_option maxHeartbeats 4000000 in
theorem k_X9_hem (x1 : Int32) (x2 : Int32) (S : gw_S) {zr : Int32} {zS : gw_S} (h : f_X9_hem x1 x2 S = some (zr, zS)) : gw_M l yX9_hem wsX9_hem rm_X9_hem 0 0 D (gw_ty cc) t1 t2 [.ref (a 0), .int x1, .int x2] (gw_mw cc a S) (fun w => w = gw_mw cc a zS) (some (.int zr)) := by
  refine gw_enter (cc := cX9_hem) (maxL := 3) (ret := (some .int)) (own := RX9) rfl (by decide) rfl (Nat.le_of_ble_eq_true rfl) ?_
  intro p e s m below meth c A B hin hI ls hl
  have hl : lv_has ls 3 [(0, .ref (a 0)), (1, .int x1), (2, .int x2)] := hl
  generalize ([.ref (a 0), .int x1, .int x2] : List Value).toArray = args at B ⊢
  have hx := B.1.1
  have hb := B.1.2.1
  have hown : s.vm.findClass RX9 = some m.cls := B.1.2.2.2.1
  have hts := B.1.2.2.2.2
  unfold f_X9_hem at h
  refine lv_aload_n hx hb dX9_hem_0 rfl (lv_at hl 0 rfl) ?_
  refine lv_iload_n hx hb dX9_hem_1 rfl (lv_at hl 1 rfl) ?_
  obtain ⟨r1, e2, h⟩ := gw_bdE h
  refine gw_callV (As := [.int x1]) (n := 1) B hI (k_X9_isPiece x1 S e2) gX9_hem_X9_isPiece rfl rfl rfl nd_X9_isPiece ⟨Nat.le_of_ble_eq_true rfl, Nat.le_of_ble_eq_true rfl⟩ gm_g0 rfl rfl rfl hl.1 (Nat.zero_le _) dX9_hem_2 ⟨Nat.le_of_ble_eq_true rfl, Nat.le_of_ble_eq_true rfl⟩ rfl (fun w' H locs hw hI => ?_)
  subst hw
  refine lv_if_eq (tgt := 20) hx hb dX9_hem_5 (by decide) (fun c3 => ?_) (fun c3 => ?_)
  · replace h := gw_ifT c3 h
    refine lv_iconst (v := -1) hx hb dX9_hem_20 (by decide) ?_
    obtain ⟨h1, h2⟩ := Prod.mk.inj (Option.some.inj h)
    rw [h2] at hI
    rw [← h1]
    exact gw_iret (W' := (fun w => w = gw_mw cc a zS)) B hI rfl (Nat.zero_le _) (Nat.zero_le _) dX9_hem_21
  · replace h := gw_ifF c3 h
    refine lv_iload_n hx hb dX9_hem_8 rfl (lv_at hl 2 rfl) ?_
    refine lv_i2l hx hb dX9_hem_9 rfl ?_
    refine lv_lconst (v := 1) hx hb dX9_hem_10 (by decide) ?_
    refine lv_ldc2 (v := 3) hx hb hown (hts (.constantLong RX9 213 (3)) (by decide +kernel)) dX9_hem_11 ?_
    obtain ⟨r4, e5, h⟩ := gw_bdE h
    refine gw_callS (As := [.long (x2.toInt64), .long (1 : Int64), .long (3 : Int64)]) (n := 3) B hI (k_X9_in (x2.toInt64) (1 : Int64) (3 : Int64) S e5) gX9_hem_X9_in rfl rfl rfl nds_X9_in ⟨Nat.le_of_ble_eq_true rfl, Nat.le_of_ble_eq_true rfl⟩ rfl hl.1 (Nat.zero_le _) dX9_hem_14 ⟨Nat.le_of_ble_eq_true rfl, Nat.le_of_ble_eq_true rfl⟩ rfl (fun w' H locs hw hI => ?_)
    subst hw
    refine lv_if_ne (tgt := 22) hx hb dX9_hem_17 (by decide) (fun c6 => ?_) (fun c6 => ?_)
    · replace h := gw_ifF c6 h
      refine lv_aload_n hx hb dX9_hem_22 rfl (lv_at hl 0 rfl) ?_
      refine gw_get (T := TX9) (k := 9) (v := .ref (a 7)) B hI gm_g0 rfl ly_X9_hem_9 (by decide) m_X9_hem_28 rfl rfl dX9_hem_23 ?_
      refine lv_iload_n hx hb dX9_hem_26 rfl (lv_at hl 1 rfl) ?_
      obtain ⟨g7, h⟩ := gw_gdE h
      refine gw_iald (t0 := 0) B hI gm_g7 rfl g7 dX9_hem_27 ?_
      refine lv_iconst (v := 1) hx hb dX9_hem_28 (by decide) ?_
      refine lv_icmp_eq (tgt := 35) hx hb dX9_hem_29 (by decide) (fun c8 => ?_) (fun c8 => ?_)
      · replace h := gw_ifT c8 h
        refine lv_aload_n hx hb dX9_hem_35 rfl (lv_at hl 0 rfl) ?_
        refine gw_get (T := TX9) (k := 16) (v := .ref (a 14)) B hI gm_g0 rfl ly_X9_hem_9 (by decide) m_X9_hem_49 rfl rfl dX9_hem_36 ?_
        refine lv_iload_n hx hb dX9_hem_39 rfl (lv_at hl 1 rfl) ?_
        refine gw_iald (t0 := 0) B hI gm_g14 rfl g7 dX9_hem_40 ?_
        refine lv_if_le (tgt := 47) hx hb dX9_hem_41 (by decide) (fun c9 => ?_) (fun c9 => ?_)
        · replace h := gw_ifT c9 h
          refine lv_aload_n hx hb dX9_hem_47 rfl (lv_at hl 0 rfl) ?_
          refine gw_get (T := TX9) (k := 16) (v := .ref (a 14)) B hI gm_g0 rfl ly_X9_hem_9 (by decide) m_X9_hem_49 rfl rfl dX9_hem_48 ?_
          refine lv_iload_n hx hb dX9_hem_51 rfl (lv_at hl 1 rfl) ?_
          refine lv_iload_n hx hb dX9_hem_52 rfl (lv_at hl 2 rfl) ?_
          obtain ⟨S10, e11, h⟩ := gw_letE h
          refine gw_iast (t0 := 0) (w' := gw_mw cc a S10) B hI gm_g14 rfl g7 (gm_s14 e11) dX9_hem_53 (fun H locs hI => ?_)
          refine lv_iconst (v := 1) hx hb dX9_hem_54 (by decide) ?_
          obtain ⟨h1, h2⟩ := Prod.mk.inj (Option.some.inj h)
          rw [h2] at hI
          rw [← h1]
          exact gw_iret (W' := (fun w => w = gw_mw cc a zS)) B hI rfl (Nat.zero_le _) (Nat.zero_le _) dX9_hem_55
        · replace h := gw_ifF c9 h
          refine lv_bipush (v := -2) hx hb dX9_hem_44 (by decide) ?_
          obtain ⟨h1, h2⟩ := Prod.mk.inj (Option.some.inj h)
          rw [h2] at hI
          rw [← h1]
          exact gw_iret (W' := (fun w => w = gw_mw cc a zS)) B hI rfl (Nat.zero_le _) (Nat.zero_le _) dX9_hem_46
      · replace h := gw_ifF c8 h
        refine lv_bipush (v := -12) hx hb dX9_hem_32 (by decide) ?_
        obtain ⟨h1, h2⟩ := Prod.mk.inj (Option.some.inj h)
        rw [h2] at hI
        rw [← h1]
        exact gw_iret (W' := (fun w => w = gw_mw cc a zS)) B hI rfl (Nat.zero_le _) (Nat.zero_le _) dX9_hem_34
    · replace h := gw_ifT c6 h
      refine lv_iconst (v := -1) hx hb dX9_hem_20 (by decide) ?_
      obtain ⟨h1, h2⟩ := Prod.mk.inj (Option.some.inj h)
      rw [h2] at hI
      rw [← h1]
      exact gw_iret (W' := (fun w => w = gw_mw cc a zS)) B hI rfl (Nat.zero_le _) (Nat.zero_le _) dX9_hem_21
end
end
