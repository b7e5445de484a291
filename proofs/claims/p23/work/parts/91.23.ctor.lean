section
theorem nds_X0_init : yX0_init.cls ≠ "java/lang/invoke/MethodHandle" ∧ yX0_init.cls ≠ "java/lang/invoke/VarHandle" ∧ (parseMethodDescriptor yX0_init.desc).map (fun d => d.parameters.length) = some 7 := by decide +kernel
theorem nds_X1_init : yX1_init.cls ≠ "java/lang/invoke/MethodHandle" ∧ yX1_init.cls ≠ "java/lang/invoke/VarHandle" ∧ (parseMethodDescriptor yX1_init.desc).map (fun d => d.parameters.length) = some 1 := by decide +kernel
theorem nd_X2_addBooking : yX2_addBooking.cls = RX2 ∧ yX2_addBooking.cls ≠ "java/lang/invoke/MethodHandle" ∧ yX2_addBooking.cls ≠ "java/lang/invoke/VarHandle" ∧ (parseMethodDescriptor yX2_addBooking.desc).map (fun d => d.parameters.length) = some 6 := by decide +kernel
theorem nds_X2_init : yX2_init.cls ≠ "java/lang/invoke/MethodHandle" ∧ yX2_init.cls ≠ "java/lang/invoke/VarHandle" ∧ (parseMethodDescriptor yX2_init.desc).map (fun d => d.parameters.length) = some 0 := by decide +kernel
theorem nd_X2_keep : yX2_keep.cls = RX2 ∧ yX2_keep.cls ≠ "java/lang/invoke/MethodHandle" ∧ yX2_keep.cls ≠ "java/lang/invoke/VarHandle" ∧ (parseMethodDescriptor yX2_keep.desc).map (fun d => d.parameters.length) = some 1 := by decide +kernel
theorem nds_X3_init : yX3_init.cls ≠ "java/lang/invoke/MethodHandle" ∧ yX3_init.cls ≠ "java/lang/invoke/VarHandle" ∧ (parseMethodDescriptor yX3_init.desc).map (fun d => d.parameters.length) = some 0 := by decide +kernel
theorem nds_X4_init : yX4_init.cls ≠ "java/lang/invoke/MethodHandle" ∧ yX4_init.cls ≠ "java/lang/invoke/VarHandle" ∧ (parseMethodDescriptor yX4_init.desc).map (fun d => d.parameters.length) = some 7 := by decide +kernel
theorem nds_X5_init : yX5_init.cls ≠ "java/lang/invoke/MethodHandle" ∧ yX5_init.cls ≠ "java/lang/invoke/VarHandle" ∧ (parseMethodDescriptor yX5_init.desc).map (fun d => d.parameters.length) = some 0 := by decide +kernel
theorem nds_X6_init : yX6_init.cls ≠ "java/lang/invoke/MethodHandle" ∧ yX6_init.cls ≠ "java/lang/invoke/VarHandle" ∧ (parseMethodDescriptor yX6_init.desc).map (fun d => d.parameters.length) = some 0 := by decide +kernel
theorem nds_X7_init : yX7_init.cls ≠ "java/lang/invoke/MethodHandle" ∧ yX7_init.cls ≠ "java/lang/invoke/VarHandle" ∧ (parseMethodDescriptor yX7_init.desc).map (fun d => d.parameters.length) = some 0 := by decide +kernel
theorem nd_X8_addBookingOnSheet : yX8_addBookingOnSheet.cls = RX8 ∧ yX8_addBookingOnSheet.cls ≠ "java/lang/invoke/MethodHandle" ∧ yX8_addBookingOnSheet.cls ≠ "java/lang/invoke/VarHandle" ∧ (parseMethodDescriptor yX8_addBookingOnSheet.desc).map (fun d => d.parameters.length) = some 2 := by decide +kernel
theorem nd_X8_addPiece : yX8_addPiece.cls = RX8 ∧ yX8_addPiece.cls ≠ "java/lang/invoke/MethodHandle" ∧ yX8_addPiece.cls ≠ "java/lang/invoke/VarHandle" ∧ (parseMethodDescriptor yX8_addPiece.desc).map (fun d => d.parameters.length) = some 7 := by decide +kernel
theorem n_RX2_X7_init : (RX2, 11, yX7_init) ∈ gw_nm := by decide +kernel
theorem n_RX8_X5_init : (RX8, 34, yX5_init) ∈ gw_nm := by decide +kernel
theorem n_RX8_X6_init : (RX8, 9, yX6_init) ∈ gw_nm := by decide +kernel
section
variable {l : Launch} {D : va_G} {t1 t2 : Nat} {cc : Nat → ClassId} {a b d : Nat → Nat}
theorem m_X0_init_15 : Cond.fieldLink RX0 15 "GownLet$Booking" "stage" "I" ∈ wsX0_init := by decide +kernel
theorem m_X0_init_18 : Cond.fieldLink RX0 18 "GownLet$Booking" "number" "I" ∈ wsX0_init := by decide +kernel
theorem m_X0_init_21 : Cond.fieldLink RX0 21 "GownLet$Booking" "size" "I" ∈ wsX0_init := by decide +kernel
theorem m_X0_init_24 : Cond.fieldLink RX0 24 "GownLet$Booking" "wants" "I" ∈ wsX0_init := by decide +kernel
theorem m_X0_init_27 : Cond.fieldLink RX0 27 "GownLet$Booking" "night" "I" ∈ wsX0_init := by decide +kernel
theorem m_X0_init_30 : Cond.fieldLink RX0 30 "GownLet$Booking" "town" "I" ∈ wsX0_init := by decide +kernel
theorem m_X0_init_33 : Cond.fieldLink RX0 33 "GownLet$Booking" "made" "I" ∈ wsX0_init := by decide +kernel
theorem m_X0_init_36 : Cond.fieldLink RX0 36 "GownLet$Booking" "party" "I" ∈ wsX0_init := by decide +kernel
theorem m_X0_init_9 : Cond.fieldLink RX0 9 "GownLet$Booking" "calledOffOn" "I" ∈ wsX0_init := by decide +kernel
theorem ly_X0_init_0 : ∀ w ∈ wsX00, w ∈ wsX0_init := fun w h => List.mem_cons_of_mem _ (List.mem_append_right _ h)
abbrev rm_X0_init : Room := { frames := 4, cells := 0, slots := 0, locals := 160 }
set_option maxRecDepth 100000 in
set_option maxHeartbeats 8000000 in
theorem k_X0_init (q : Nat) (x1 : Int32) (x2 : Int32) (x3 : Int32) (x4 : Int32) (x5 : Int32) (x6 : Int32) (x7 : Int32) : gw_M l yX0_init wsX0_init rm_X0_init 0 0 D (gw_ty cc) t1 t2 [.ref q, .int x1, .int x2, .int x3, .int x4, .int x5, .int x6, .int x7] [(q, .inr (0, [.int 0, .int 0, .int 0, .int 0, .int 0, .int 0, .int 0, .int 0, .null, .int 0, .int 0, .int 0, .int 0, .int 0]))] (fun w => w = [(q, .inr (0, [.int x1, .int x2, .int x3, .int x4, .int x5, .int x6, .int x7, .int (-4 : Int32), .null, .int (0 : Int32), .int 0, .int 0, .int 0, .int 0]))]) none := by
  refine gw_enter (cc := cX0_init) (maxL := 8) (ret := none) (own := RX0) rfl (by decide) rfl (Nat.le_of_ble_eq_true rfl) ?_
  intro p e s m below meth c A B hin hI ls hl
  have hl : lv_has ls 8 [(0, .ref q), (1, .int x1), (2, .int x2), (3, .int x3), (4, .int x4), (5, .int x5), (6, .int x6), (7, .int x7)] := hl
  have hin : meth.name = "<init>" := hin
  generalize ([.ref q, .int x1, .int x2, .int x3, .int x4, .int x5, .int x6, .int x7] : List Value).toArray = args at B ⊢
  have hx := B.1.1
  have hb := B.1.2.1
  refine lv_aload_n hx hb dX0_init_0 rfl (lv_at hl 0 rfl) ?_
  refine gw_ainit B (by decide +kernel) (by decide +kernel) (by decide +kernel) hl.1 dX0_init_1 (Nat.le_of_ble_eq_true rfl) (Nat.le_of_ble_eq_true rfl) ?_
  refine lv_aload_n hx hb dX0_init_4 rfl (lv_at hl 0 rfl) ?_
  refine lv_bipush (v := -4) hx hb dX0_init_5 (by decide) ?_
  refine gw_put (q0 := 0) (T := TX0) (k := 7) (w' := [(q, .inr (0, [.int 0, .int 0, .int 0, .int 0, .int 0, .int 0, .int 0, .int (-4 : Int32), .null, .int 0, .int 0, .int 0, .int 0, .int 0]))]) B hI rfl rfl ly_X0_init_0 tyX0 tyX0_ok nmX0 (by decide) m_X0_init_9 rfl rfl rfl rfl (Nat.le_of_ble_eq_true rfl) rfl dX0_init_7 (fun H locs hI => ?_)
  refine lv_aload_n hx hb dX0_init_10 rfl (lv_at hl 0 rfl) ?_
  refine lv_iconst (v := 0) hx hb dX0_init_11 (by decide) ?_
  refine gw_put (q0 := 0) (T := TX0) (k := 9) (w' := [(q, .inr (0, [.int 0, .int 0, .int 0, .int 0, .int 0, .int 0, .int 0, .int (-4 : Int32), .null, .int (0 : Int32), .int 0, .int 0, .int 0, .int 0]))]) B hI rfl rfl ly_X0_init_0 tyX0 tyX0_ok nmX0 (by decide) m_X0_init_15 rfl rfl rfl rfl (Nat.le_of_ble_eq_true rfl) rfl dX0_init_12 (fun H locs hI => ?_)
  refine lv_aload_n hx hb dX0_init_15 rfl (lv_at hl 0 rfl) ?_
  refine lv_iload_n hx hb dX0_init_16 rfl (lv_at hl 1 rfl) ?_
  refine gw_putF (q0 := 0) (T := TX0) (k := 0) (w' := [(q, .inr (0, [.int x1, .int 0, .int 0, .int 0, .int 0, .int 0, .int 0, .int (-4 : Int32), .null, .int (0 : Int32), .int 0, .int 0, .int 0, .int 0]))]) B hin hI rfl rfl ly_X0_init_0 tyX0 tyX0_ok nmX0 (by decide) m_X0_init_18 rfl rfl rfl rfl (Nat.le_of_ble_eq_true rfl) rfl dX0_init_17 (fun H locs hI => ?_)
  refine lv_aload_n hx hb dX0_init_20 rfl (lv_at hl 0 rfl) ?_
  refine lv_iload_n hx hb dX0_init_21 rfl (lv_at hl 2 rfl) ?_
  refine gw_putF (q0 := 0) (T := TX0) (k := 1) (w' := [(q, .inr (0, [.int x1, .int x2, .int 0, .int 0, .int 0, .int 0, .int 0, .int (-4 : Int32), .null, .int (0 : Int32), .int 0, .int 0, .int 0, .int 0]))]) B hin hI rfl rfl ly_X0_init_0 tyX0 tyX0_ok nmX0 (by decide) m_X0_init_21 rfl rfl rfl rfl (Nat.le_of_ble_eq_true rfl) rfl dX0_init_22 (fun H locs hI => ?_)
  refine lv_aload_n hx hb dX0_init_25 rfl (lv_at hl 0 rfl) ?_
  refine lv_iload_n hx hb dX0_init_26 rfl (lv_at hl 3 rfl) ?_
  refine gw_putF (q0 := 0) (T := TX0) (k := 2) (w' := [(q, .inr (0, [.int x1, .int x2, .int x3, .int 0, .int 0, .int 0, .int 0, .int (-4 : Int32), .null, .int (0 : Int32), .int 0, .int 0, .int 0, .int 0]))]) B hin hI rfl rfl ly_X0_init_0 tyX0 tyX0_ok nmX0 (by decide) m_X0_init_24 rfl rfl rfl rfl (Nat.le_of_ble_eq_true rfl) rfl dX0_init_27 (fun H locs hI => ?_)
  refine lv_aload_n hx hb dX0_init_30 rfl (lv_at hl 0 rfl) ?_
  refine lv_iload hx hb dX0_init_31 (lv_at hl 4 rfl) ?_
  refine gw_putF (q0 := 0) (T := TX0) (k := 3) (w' := [(q, .inr (0, [.int x1, .int x2, .int x3, .int x4, .int 0, .int 0, .int 0, .int (-4 : Int32), .null, .int (0 : Int32), .int 0, .int 0, .int 0, .int 0]))]) B hin hI rfl rfl ly_X0_init_0 tyX0 tyX0_ok nmX0 (by decide) m_X0_init_27 rfl rfl rfl rfl (Nat.le_of_ble_eq_true rfl) rfl dX0_init_33 (fun H locs hI => ?_)
  refine lv_aload_n hx hb dX0_init_36 rfl (lv_at hl 0 rfl) ?_
  refine lv_iload hx hb dX0_init_37 (lv_at hl 5 rfl) ?_
  refine gw_putF (q0 := 0) (T := TX0) (k := 4) (w' := [(q, .inr (0, [.int x1, .int x2, .int x3, .int x4, .int x5, .int 0, .int 0, .int (-4 : Int32), .null, .int (0 : Int32), .int 0, .int 0, .int 0, .int 0]))]) B hin hI rfl rfl ly_X0_init_0 tyX0 tyX0_ok nmX0 (by decide) m_X0_init_30 rfl rfl rfl rfl (Nat.le_of_ble_eq_true rfl) rfl dX0_init_39 (fun H locs hI => ?_)
  refine lv_aload_n hx hb dX0_init_42 rfl (lv_at hl 0 rfl) ?_
  refine lv_iload hx hb dX0_init_43 (lv_at hl 6 rfl) ?_
  refine gw_putF (q0 := 0) (T := TX0) (k := 5) (w' := [(q, .inr (0, [.int x1, .int x2, .int x3, .int x4, .int x5, .int x6, .int 0, .int (-4 : Int32), .null, .int (0 : Int32), .int 0, .int 0, .int 0, .int 0]))]) B hin hI rfl rfl ly_X0_init_0 tyX0 tyX0_ok nmX0 (by decide) m_X0_init_33 rfl rfl rfl rfl (Nat.le_of_ble_eq_true rfl) rfl dX0_init_45 (fun H locs hI => ?_)
  refine lv_aload_n hx hb dX0_init_48 rfl (lv_at hl 0 rfl) ?_
  refine lv_iload hx hb dX0_init_49 (lv_at hl 7 rfl) ?_
  refine gw_putF (q0 := 0) (T := TX0) (k := 6) (w' := [(q, .inr (0, [.int x1, .int x2, .int x3, .int x4, .int x5, .int x6, .int x7, .int (-4 : Int32), .null, .int (0 : Int32), .int 0, .int 0, .int 0, .int 0]))]) B hin hI rfl rfl ly_X0_init_0 tyX0 tyX0_ok nmX0 (by decide) m_X0_init_36 rfl rfl rfl rfl (Nat.le_of_ble_eq_true rfl) rfl dX0_init_51 (fun H locs hI => ?_)
  exact gw_vret (W' := (fun w => w = [(q, .inr (0, [.int x1, .int x2, .int x3, .int x4, .int x5, .int x6, .int x7, .int (-4 : Int32), .null, .int (0 : Int32), .int 0, .int 0, .int 0, .int 0]))])) B hI rfl (Nat.le_of_ble_eq_true rfl) (Nat.le_of_ble_eq_true rfl) dX0_init_54
theorem m_X4_init_15 : Cond.fieldLink RX4 15 "GownLet$Piece" "kind" "I" ∈ wsX4_init := by decide +kernel
theorem m_X4_init_18 : Cond.fieldLink RX4 18 "GownLet$Piece" "maker" "I" ∈ wsX4_init := by decide +kernel
theorem m_X4_init_21 : Cond.fieldLink RX4 21 "GownLet$Piece" "label" "I" ∈ wsX4_init := by decide +kernel
theorem m_X4_init_24 : Cond.fieldLink RX4 24 "GownLet$Piece" "lot" "I" ∈ wsX4_init := by decide +kernel
theorem m_X4_init_27 : Cond.fieldLink RX4 27 "GownLet$Piece" "town" "I" ∈ wsX4_init := by decide +kernel
theorem m_X4_init_30 : Cond.fieldLink RX4 30 "GownLet$Piece" "price" "I" ∈ wsX4_init := by decide +kernel
theorem m_X4_init_33 : Cond.fieldLink RX4 33 "GownLet$Piece" "life" "I" ∈ wsX4_init := by decide +kernel
theorem m_X4_init_9 : Cond.fieldLink RX4 9 "GownLet$Piece" "tornFrom" "I" ∈ wsX4_init := by decide +kernel
theorem ly_X4_init_4 : ∀ w ∈ wsX40, w ∈ wsX4_init := fun w h => List.mem_cons_of_mem _ (List.mem_append_right _ h)
abbrev rm_X4_init : Room := { frames := 4, cells := 0, slots := 0, locals := 160 }
set_option maxRecDepth 100000 in
set_option maxHeartbeats 8000000 in
theorem k_X4_init (q : Nat) (x1 : Int32) (x2 : Int32) (x3 : Int32) (x4 : Int32) (x5 : Int32) (x6 : Int32) (x7 : Int32) : gw_M l yX4_init wsX4_init rm_X4_init 0 0 D (gw_ty cc) t1 t2 [.ref q, .int x1, .int x2, .int x3, .int x4, .int x5, .int x6, .int x7] [(q, .inr (4, [.int 0, .int 0, .int 0, .int 0, .int 0, .int 0, .int 0, .int 0, .int 0, .int 0, .int 0, .int 0]))] (fun w => w = [(q, .inr (4, [.int x1, .int x2, .int x3, .int x4, .int x5, .int x6, .int x7, .int 0, .int 0, .int 0, .int (-4 : Int32), .int 0]))]) none := by
  refine gw_enter (cc := cX4_init) (maxL := 8) (ret := none) (own := RX4) rfl (by decide) rfl (Nat.le_of_ble_eq_true rfl) ?_
  intro p e s m below meth c A B hin hI ls hl
  have hl : lv_has ls 8 [(0, .ref q), (1, .int x1), (2, .int x2), (3, .int x3), (4, .int x4), (5, .int x5), (6, .int x6), (7, .int x7)] := hl
  have hin : meth.name = "<init>" := hin
  generalize ([.ref q, .int x1, .int x2, .int x3, .int x4, .int x5, .int x6, .int x7] : List Value).toArray = args at B ⊢
  have hx := B.1.1
  have hb := B.1.2.1
  refine lv_aload_n hx hb dX4_init_0 rfl (lv_at hl 0 rfl) ?_
  refine gw_ainit B (by decide +kernel) (by decide +kernel) (by decide +kernel) hl.1 dX4_init_1 (Nat.le_of_ble_eq_true rfl) (Nat.le_of_ble_eq_true rfl) ?_
  refine lv_aload_n hx hb dX4_init_4 rfl (lv_at hl 0 rfl) ?_
  refine lv_bipush (v := -4) hx hb dX4_init_5 (by decide) ?_
  refine gw_put (q0 := 0) (T := TX4) (k := 10) (w' := [(q, .inr (4, [.int 0, .int 0, .int 0, .int 0, .int 0, .int 0, .int 0, .int 0, .int 0, .int 0, .int (-4 : Int32), .int 0]))]) B hI rfl rfl ly_X4_init_4 tyX4 tyX4_ok nmX4 (by decide) m_X4_init_9 rfl rfl rfl rfl (Nat.le_of_ble_eq_true rfl) rfl dX4_init_7 (fun H locs hI => ?_)
  refine lv_aload_n hx hb dX4_init_10 rfl (lv_at hl 0 rfl) ?_
  refine lv_iload_n hx hb dX4_init_11 rfl (lv_at hl 1 rfl) ?_
  refine gw_putF (q0 := 0) (T := TX4) (k := 0) (w' := [(q, .inr (4, [.int x1, .int 0, .int 0, .int 0, .int 0, .int 0, .int 0, .int 0, .int 0, .int 0, .int (-4 : Int32), .int 0]))]) B hin hI rfl rfl ly_X4_init_4 tyX4 tyX4_ok nmX4 (by decide) m_X4_init_15 rfl rfl rfl rfl (Nat.le_of_ble_eq_true rfl) rfl dX4_init_12 (fun H locs hI => ?_)
  refine lv_aload_n hx hb dX4_init_15 rfl (lv_at hl 0 rfl) ?_
  refine lv_iload_n hx hb dX4_init_16 rfl (lv_at hl 2 rfl) ?_
  refine gw_putF (q0 := 0) (T := TX4) (k := 1) (w' := [(q, .inr (4, [.int x1, .int x2, .int 0, .int 0, .int 0, .int 0, .int 0, .int 0, .int 0, .int 0, .int (-4 : Int32), .int 0]))]) B hin hI rfl rfl ly_X4_init_4 tyX4 tyX4_ok nmX4 (by decide) m_X4_init_18 rfl rfl rfl rfl (Nat.le_of_ble_eq_true rfl) rfl dX4_init_17 (fun H locs hI => ?_)
  refine lv_aload_n hx hb dX4_init_20 rfl (lv_at hl 0 rfl) ?_
  refine lv_iload_n hx hb dX4_init_21 rfl (lv_at hl 3 rfl) ?_
  refine gw_putF (q0 := 0) (T := TX4) (k := 2) (w' := [(q, .inr (4, [.int x1, .int x2, .int x3, .int 0, .int 0, .int 0, .int 0, .int 0, .int 0, .int 0, .int (-4 : Int32), .int 0]))]) B hin hI rfl rfl ly_X4_init_4 tyX4 tyX4_ok nmX4 (by decide) m_X4_init_21 rfl rfl rfl rfl (Nat.le_of_ble_eq_true rfl) rfl dX4_init_22 (fun H locs hI => ?_)
  refine lv_aload_n hx hb dX4_init_25 rfl (lv_at hl 0 rfl) ?_
  refine lv_iload hx hb dX4_init_26 (lv_at hl 4 rfl) ?_
  refine gw_putF (q0 := 0) (T := TX4) (k := 3) (w' := [(q, .inr (4, [.int x1, .int x2, .int x3, .int x4, .int 0, .int 0, .int 0, .int 0, .int 0, .int 0, .int (-4 : Int32), .int 0]))]) B hin hI rfl rfl ly_X4_init_4 tyX4 tyX4_ok nmX4 (by decide) m_X4_init_24 rfl rfl rfl rfl (Nat.le_of_ble_eq_true rfl) rfl dX4_init_28 (fun H locs hI => ?_)
  refine lv_aload_n hx hb dX4_init_31 rfl (lv_at hl 0 rfl) ?_
  refine lv_iload hx hb dX4_init_32 (lv_at hl 5 rfl) ?_
  refine gw_putF (q0 := 0) (T := TX4) (k := 4) (w' := [(q, .inr (4, [.int x1, .int x2, .int x3, .int x4, .int x5, .int 0, .int 0, .int 0, .int 0, .int 0, .int (-4 : Int32), .int 0]))]) B hin hI rfl rfl ly_X4_init_4 tyX4 tyX4_ok nmX4 (by decide) m_X4_init_27 rfl rfl rfl rfl (Nat.le_of_ble_eq_true rfl) rfl dX4_init_34 (fun H locs hI => ?_)
  refine lv_aload_n hx hb dX4_init_37 rfl (lv_at hl 0 rfl) ?_
  refine lv_iload hx hb dX4_init_38 (lv_at hl 6 rfl) ?_
  refine gw_putF (q0 := 0) (T := TX4) (k := 5) (w' := [(q, .inr (4, [.int x1, .int x2, .int x3, .int x4, .int x5, .int x6, .int 0, .int 0, .int 0, .int 0, .int (-4 : Int32), .int 0]))]) B hin hI rfl rfl ly_X4_init_4 tyX4 tyX4_ok nmX4 (by decide) m_X4_init_30 rfl rfl rfl rfl (Nat.le_of_ble_eq_true rfl) rfl dX4_init_40 (fun H locs hI => ?_)
  refine lv_aload_n hx hb dX4_init_43 rfl (lv_at hl 0 rfl) ?_
  refine lv_iload hx hb dX4_init_44 (lv_at hl 7 rfl) ?_
  refine gw_putF (q0 := 0) (T := TX4) (k := 6) (w' := [(q, .inr (4, [.int x1, .int x2, .int x3, .int x4, .int x5, .int x6, .int x7, .int 0, .int 0, .int 0, .int (-4 : Int32), .int 0]))]) B hin hI rfl rfl ly_X4_init_4 tyX4 tyX4_ok nmX4 (by decide) m_X4_init_33 rfl rfl rfl rfl (Nat.le_of_ble_eq_true rfl) rfl dX4_init_46 (fun H locs hI => ?_)
  exact gw_vret (W' := (fun w => w = [(q, .inr (4, [.int x1, .int x2, .int x3, .int x4, .int x5, .int x6, .int x7, .int 0, .int 0, .int 0, .int (-4 : Int32), .int 0]))])) B hI rfl (Nat.le_of_ble_eq_true rfl) (Nat.le_of_ble_eq_true rfl) dX4_init_49
theorem m_X6_init_9 : Cond.fieldLink RX6 9 "GownLet$Tape" "bytes" "[B" ∈ wsX6_init := by decide +kernel
theorem ly_X6_init_6 : ∀ w ∈ wsX60, w ∈ wsX6_init := fun w h => List.mem_cons_of_mem _ (List.mem_append_right _ h)
abbrev rm_X6_init : Room := { frames := 4, cells := 1, slots := 60, locals := 160 }
set_option maxRecDepth 100000 in
set_option maxHeartbeats 8000000 in
theorem k_X6_init (q : Nat)  : gw_M l yX6_init wsX6_init rm_X6_init 1 60 D (gw_ty cc) t1 t2 [.ref q] [(q, .inr (6, [.null, .int 0]))] (fun w => ∃ q1, w = [(q, .inr (6, [.ref q1, .int 0])), (q1, .inl (cc 1, 60, .inl (fun _ => 0)))]) none := by
  refine gw_enter (cc := cX6_init) (maxL := 1) (ret := none) (own := RX6) rfl (by decide) rfl (Nat.le_of_ble_eq_true rfl) ?_
  intro p e s m below meth c A B hin hI ls hl
  have hl : lv_has ls 1 [(0, .ref q)] := hl
  have hin : meth.name = "<init>" := hin
  generalize ([.ref q] : List Value).toArray = args at B ⊢
  have hx := B.1.1
  have hb := B.1.2.1
  refine lv_aload_n hx hb dX6_init_0 rfl (lv_at hl 0 rfl) ?_
  refine gw_ainit B (by decide +kernel) (by decide +kernel) (by decide +kernel) hl.1 dX6_init_1 (Nat.le_of_ble_eq_true rfl) (Nat.le_of_ble_eq_true rfl) ?_
  refine lv_aload_n hx hb dX6_init_4 rfl (lv_at hl 0 rfl) ?_
  refine lv_bipush (v := 60) hx hb dX6_init_5 (by decide) ?_
  refine gw_newa (t0 := 1) (N := 60) (ty := .byte) B hI rfl rfl rfl (by decide +kernel) (by decide) rfl (Nat.le_of_ble_eq_true rfl) (Nat.le_of_ble_eq_true rfl) (Nat.le_of_ble_eq_true rfl) dX6_init_7 (fun q1 H hI => ?_)
  have hI : gw_I D A s.heap ([(q, .inr (6, [.null, .int 0])), (q1, .inl (cc 1, 60, .inl (fun _ => 0)))]) H _ := hI
  refine gw_putF (q0 := 0) (T := TX6) (k := 0) (w' := [(q, .inr (6, [.ref q1, .int 0])), (q1, .inl (cc 1, 60, .inl (fun _ => 0)))]) B hin hI rfl rfl ly_X6_init_6 tyX6 tyX6_ok nmX6 (by decide) m_X6_init_9 rfl rfl rfl rfl (Nat.le_of_ble_eq_true rfl) rfl dX6_init_9 (fun H locs hI => ?_)
  exact gw_vret (W' := (fun w => ∃ q1, w = [(q, .inr (6, [.ref q1, .int 0])), (q1, .inl (cc 1, 60, .inl (fun _ => 0)))])) B hI ⟨q1, rfl⟩ (Nat.le_of_ble_eq_true rfl) (Nat.le_of_ble_eq_true rfl) dX6_init_12
theorem m_X7_init_13 : Cond.fieldLink RX7 13 "GownLet$Terms" "coming" "[I" ∈ wsX7_init := by decide +kernel
theorem m_X7_init_7 : Cond.fieldLink RX7 7 "GownLet$Terms" "now" "[I" ∈ wsX7_init := by decide +kernel
theorem ly_X7_init_7 : ∀ w ∈ wsX70, w ∈ wsX7_init := fun w h => List.mem_cons_of_mem _ (List.mem_append_right _ h)
abbrev rm_X7_init : Room := { frames := 4, cells := 2, slots := 16, locals := 160 }
set_option maxRecDepth 100000 in
set_option maxHeartbeats 8000000 in
theorem k_X7_init (q : Nat)  : gw_M l yX7_init wsX7_init rm_X7_init 2 16 D (gw_ty cc) t1 t2 [.ref q] [(q, .inr (7, [.null, .null]))] (fun w => ∃ q1 q2, w = [(q, .inr (7, [.ref q1, .ref q2])), (q1, .inl (cc 0, 8, .inl (upd (upd (upd (upd (upd (upd (upd (upd (fun _ => 0) 0 (1 : Int32)) 1 (2 : Int32)) 2 (50 : Int32)) 3 (30 : Int32)) 4 (1 : Int32)) 5 (200 : Int32)) 6 (900 : Int32)) 7 (3 : Int32)))), (q2, .inl (cc 0, 8, .inl (fun _ => 0)))]) none := by
  refine gw_enter (cc := cX7_init) (maxL := 1) (ret := none) (own := RX7) rfl (by decide) rfl (Nat.le_of_ble_eq_true rfl) ?_
  intro p e s m below meth c A B hin hI ls hl
  have hl : lv_has ls 1 [(0, .ref q)] := hl
  have hin : meth.name = "<init>" := hin
  generalize ([.ref q] : List Value).toArray = args at B ⊢
  have hx := B.1.1
  have hb := B.1.2.1
  refine lv_aload_n hx hb dX7_init_0 rfl (lv_at hl 0 rfl) ?_
  refine gw_ainit B (by decide +kernel) (by decide +kernel) (by decide +kernel) hl.1 dX7_init_1 (Nat.le_of_ble_eq_true rfl) (Nat.le_of_ble_eq_true rfl) ?_
  refine lv_aload_n hx hb dX7_init_4 rfl (lv_at hl 0 rfl) ?_
  refine lv_bipush (v := 8) hx hb dX7_init_5 (by decide) ?_
  refine gw_newa (t0 := 0) (N := 8) (ty := .int) B hI rfl rfl rfl (by decide +kernel) (by decide) rfl (Nat.le_of_ble_eq_true rfl) (Nat.le_of_ble_eq_true rfl) (Nat.le_of_ble_eq_true rfl) dX7_init_7 (fun q1 H hI => ?_)
  have hI : gw_I D A s.heap ([(q, .inr (7, [.null, .null])), (q1, .inl (cc 0, 8, .inl (fun _ => 0)))]) H _ := hI
  refine lv_dup hx hb dX7_init_9 rfl ?_
  refine lv_iconst (v := 0) hx hb dX7_init_10 (by decide) ?_
  refine lv_iconst (v := 1) hx hb dX7_init_11 (by decide) ?_
  refine gw_iast (q0 := 1) (t0 := 0) (w' := [(q, .inr (7, [.null, .null])), (q1, .inl (cc 0, 8, .inl (upd (fun _ => 0) 0 (1 : Int32))))]) B hI rfl rfl (by decide) rfl dX7_init_12 (fun H locs hI => ?_)
  refine lv_dup hx hb dX7_init_13 rfl ?_
  refine lv_iconst (v := 1) hx hb dX7_init_14 (by decide) ?_
  refine lv_iconst (v := 2) hx hb dX7_init_15 (by decide) ?_
  refine gw_iast (q0 := 1) (t0 := 0) (w' := [(q, .inr (7, [.null, .null])), (q1, .inl (cc 0, 8, .inl (upd (upd (fun _ => 0) 0 (1 : Int32)) 1 (2 : Int32))))]) B hI rfl rfl (by decide) rfl dX7_init_16 (fun H locs hI => ?_)
  refine lv_dup hx hb dX7_init_17 rfl ?_
  refine lv_iconst (v := 2) hx hb dX7_init_18 (by decide) ?_
  refine lv_bipush (v := 50) hx hb dX7_init_19 (by decide) ?_
  refine gw_iast (q0 := 1) (t0 := 0) (w' := [(q, .inr (7, [.null, .null])), (q1, .inl (cc 0, 8, .inl (upd (upd (upd (fun _ => 0) 0 (1 : Int32)) 1 (2 : Int32)) 2 (50 : Int32))))]) B hI rfl rfl (by decide) rfl dX7_init_21 (fun H locs hI => ?_)
  refine lv_dup hx hb dX7_init_22 rfl ?_
  refine lv_iconst (v := 3) hx hb dX7_init_23 (by decide) ?_
  refine lv_bipush (v := 30) hx hb dX7_init_24 (by decide) ?_
  refine gw_iast (q0 := 1) (t0 := 0) (w' := [(q, .inr (7, [.null, .null])), (q1, .inl (cc 0, 8, .inl (upd (upd (upd (upd (fun _ => 0) 0 (1 : Int32)) 1 (2 : Int32)) 2 (50 : Int32)) 3 (30 : Int32))))]) B hI rfl rfl (by decide) rfl dX7_init_26 (fun H locs hI => ?_)
  refine lv_dup hx hb dX7_init_27 rfl ?_
  refine lv_iconst (v := 4) hx hb dX7_init_28 (by decide) ?_
  refine lv_iconst (v := 1) hx hb dX7_init_29 (by decide) ?_
  refine gw_iast (q0 := 1) (t0 := 0) (w' := [(q, .inr (7, [.null, .null])), (q1, .inl (cc 0, 8, .inl (upd (upd (upd (upd (upd (fun _ => 0) 0 (1 : Int32)) 1 (2 : Int32)) 2 (50 : Int32)) 3 (30 : Int32)) 4 (1 : Int32))))]) B hI rfl rfl (by decide) rfl dX7_init_30 (fun H locs hI => ?_)
  refine lv_dup hx hb dX7_init_31 rfl ?_
  refine lv_iconst (v := 5) hx hb dX7_init_32 (by decide) ?_
  refine lv_sipush (v := 200) hx hb dX7_init_33 (by decide) ?_
  refine gw_iast (q0 := 1) (t0 := 0) (w' := [(q, .inr (7, [.null, .null])), (q1, .inl (cc 0, 8, .inl (upd (upd (upd (upd (upd (upd (fun _ => 0) 0 (1 : Int32)) 1 (2 : Int32)) 2 (50 : Int32)) 3 (30 : Int32)) 4 (1 : Int32)) 5 (200 : Int32))))]) B hI rfl rfl (by decide) rfl dX7_init_36 (fun H locs hI => ?_)
  refine lv_dup hx hb dX7_init_37 rfl ?_
  refine lv_bipush (v := 6) hx hb dX7_init_38 (by decide) ?_
  refine lv_sipush (v := 900) hx hb dX7_init_40 (by decide) ?_
  refine gw_iast (q0 := 1) (t0 := 0) (w' := [(q, .inr (7, [.null, .null])), (q1, .inl (cc 0, 8, .inl (upd (upd (upd (upd (upd (upd (upd (fun _ => 0) 0 (1 : Int32)) 1 (2 : Int32)) 2 (50 : Int32)) 3 (30 : Int32)) 4 (1 : Int32)) 5 (200 : Int32)) 6 (900 : Int32))))]) B hI rfl rfl (by decide) rfl dX7_init_43 (fun H locs hI => ?_)
  refine lv_dup hx hb dX7_init_44 rfl ?_
  refine lv_bipush (v := 7) hx hb dX7_init_45 (by decide) ?_
  refine lv_iconst (v := 3) hx hb dX7_init_47 (by decide) ?_
  refine gw_iast (q0 := 1) (t0 := 0) (w' := [(q, .inr (7, [.null, .null])), (q1, .inl (cc 0, 8, .inl (upd (upd (upd (upd (upd (upd (upd (upd (fun _ => 0) 0 (1 : Int32)) 1 (2 : Int32)) 2 (50 : Int32)) 3 (30 : Int32)) 4 (1 : Int32)) 5 (200 : Int32)) 6 (900 : Int32)) 7 (3 : Int32))))]) B hI rfl rfl (by decide) rfl dX7_init_48 (fun H locs hI => ?_)
  refine gw_putF (q0 := 0) (T := TX7) (k := 0) (w' := [(q, .inr (7, [.ref q1, .null])), (q1, .inl (cc 0, 8, .inl (upd (upd (upd (upd (upd (upd (upd (upd (fun _ => 0) 0 (1 : Int32)) 1 (2 : Int32)) 2 (50 : Int32)) 3 (30 : Int32)) 4 (1 : Int32)) 5 (200 : Int32)) 6 (900 : Int32)) 7 (3 : Int32))))]) B hin hI rfl rfl ly_X7_init_7 tyX7 tyX7_ok nmX7 (by decide) m_X7_init_7 rfl rfl rfl rfl (Nat.le_of_ble_eq_true rfl) rfl dX7_init_49 (fun H locs hI => ?_)
  refine lv_aload_n hx hb dX7_init_52 rfl (lv_at hl 0 rfl) ?_
  refine lv_bipush (v := 8) hx hb dX7_init_53 (by decide) ?_
  refine gw_newa (t0 := 0) (N := 8) (ty := .int) B hI rfl rfl rfl (by decide +kernel) (by decide) rfl (Nat.le_of_ble_eq_true rfl) (Nat.le_of_ble_eq_true rfl) (Nat.le_of_ble_eq_true rfl) dX7_init_55 (fun q2 H hI => ?_)
  have hI : gw_I D A s.heap ([(q, .inr (7, [.ref q1, .null])), (q1, .inl (cc 0, 8, .inl (upd (upd (upd (upd (upd (upd (upd (upd (fun _ => 0) 0 (1 : Int32)) 1 (2 : Int32)) 2 (50 : Int32)) 3 (30 : Int32)) 4 (1 : Int32)) 5 (200 : Int32)) 6 (900 : Int32)) 7 (3 : Int32)))), (q2, .inl (cc 0, 8, .inl (fun _ => 0)))]) H _ := hI
  refine gw_putF (q0 := 0) (T := TX7) (k := 1) (w' := [(q, .inr (7, [.ref q1, .ref q2])), (q1, .inl (cc 0, 8, .inl (upd (upd (upd (upd (upd (upd (upd (upd (fun _ => 0) 0 (1 : Int32)) 1 (2 : Int32)) 2 (50 : Int32)) 3 (30 : Int32)) 4 (1 : Int32)) 5 (200 : Int32)) 6 (900 : Int32)) 7 (3 : Int32)))), (q2, .inl (cc 0, 8, .inl (fun _ => 0)))]) B hin hI rfl rfl ly_X7_init_7 tyX7 tyX7_ok nmX7 (by decide) m_X7_init_13 rfl rfl rfl rfl (Nat.le_of_ble_eq_true rfl) rfl dX7_init_57 (fun H locs hI => ?_)
  exact gw_vret (W' := (fun w => ∃ q1 q2, w = [(q, .inr (7, [.ref q1, .ref q2])), (q1, .inl (cc 0, 8, .inl (upd (upd (upd (upd (upd (upd (upd (upd (fun _ => 0) 0 (1 : Int32)) 1 (2 : Int32)) 2 (50 : Int32)) 3 (30 : Int32)) 4 (1 : Int32)) 5 (200 : Int32)) 6 (900 : Int32)) 7 (3 : Int32)))), (q2, .inl (cc 0, 8, .inl (fun _ => 0)))])) B hI ⟨q1, q2, rfl⟩ (Nat.le_of_ble_eq_true rfl) (Nat.le_of_ble_eq_true rfl) dX7_init_60
theorem m_X5_init_11 : Cond.fieldLink RX5 11 "GownLet$Sheet" "items" "[I" ∈ wsX5_init := by decide +kernel
theorem ly_X5_init_5 : ∀ w ∈ wsX50, w ∈ wsX5_init := fun w h => List.mem_cons_of_mem _ (List.mem_append_right _ h)
abbrev rm_X5_init : Room := { frames := 4, cells := 1, slots := 36, locals := 160 }
set_option maxRecDepth 100000 in
set_option maxHeartbeats 8000000 in
theorem k_X5_init (q : Nat)  : gw_M l yX5_init wsX5_init rm_X5_init 1 36 D (gw_ty cc) t1 t2 [.ref q] [(q, .inr (5, [.null, .int 0, .int 0, .int 0]))] (fun w => ∃ q1, w = [(q, .inr (5, [.ref q1, .int 0, .int 0, .int 0])), (q1, .inl (cc 0, 36, .inl (fun _ => 0)))]) none := by
  refine gw_enter (cc := cX5_init) (maxL := 1) (ret := none) (own := RX5) rfl (by decide) rfl (Nat.le_of_ble_eq_true rfl) ?_
  intro p e s m below meth c A B hin hI ls hl
  have hl : lv_has ls 1 [(0, .ref q)] := hl
  have hin : meth.name = "<init>" := hin
  generalize ([.ref q] : List Value).toArray = args at B ⊢
  have hx := B.1.1
  have hb := B.1.2.1
  refine lv_aload_n hx hb dX5_init_0 rfl (lv_at hl 0 rfl) ?_
  refine gw_ainit B (by decide +kernel) (by decide +kernel) (by decide +kernel) hl.1 dX5_init_1 (Nat.le_of_ble_eq_true rfl) (Nat.le_of_ble_eq_true rfl) ?_
  refine lv_aload_n hx hb dX5_init_4 rfl (lv_at hl 0 rfl) ?_
  refine lv_bipush (v := 36) hx hb dX5_init_5 (by decide) ?_
  refine gw_newa (t0 := 0) (N := 36) (ty := .int) B hI rfl rfl rfl (by decide +kernel) (by decide) rfl (Nat.le_of_ble_eq_true rfl) (Nat.le_of_ble_eq_true rfl) (Nat.le_of_ble_eq_true rfl) dX5_init_7 (fun q1 H hI => ?_)
  have hI : gw_I D A s.heap ([(q, .inr (5, [.null, .int 0, .int 0, .int 0])), (q1, .inl (cc 0, 36, .inl (fun _ => 0)))]) H _ := hI
  refine gw_putF (q0 := 0) (T := TX5) (k := 0) (w' := [(q, .inr (5, [.ref q1, .int 0, .int 0, .int 0])), (q1, .inl (cc 0, 36, .inl (fun _ => 0)))]) B hin hI rfl rfl ly_X5_init_5 tyX5 tyX5_ok nmX5 (by decide) m_X5_init_11 rfl rfl rfl rfl (Nat.le_of_ble_eq_true rfl) rfl dX5_init_9 (fun H locs hI => ?_)
  exact gw_vret (W' := (fun w => ∃ q1, w = [(q, .inr (5, [.ref q1, .int 0, .int 0, .int 0])), (q1, .inl (cc 0, 36, .inl (fun _ => 0)))])) B hI ⟨q1, rfl⟩ (Nat.le_of_ble_eq_true rfl) (Nat.le_of_ble_eq_true rfl) dX5_init_12
theorem m_X1_init_11 : Cond.fieldLink RX1 11 "GownLet$Chain" "source" "[I" ∈ wsX1_init := by decide +kernel
theorem m_X1_init_17 : Cond.fieldLink RX1 17 "GownLet$Chain" "nearest" "[I" ∈ wsX1_init := by decide +kernel
theorem m_X1_init_20 : Cond.fieldLink RX1 20 "GownLet$Chain" "takers" "[I" ∈ wsX1_init := by decide +kernel
theorem m_X1_init_23 : Cond.fieldLink RX1 23 "GownLet$Chain" "taken" "[I" ∈ wsX1_init := by decide +kernel
theorem m_X1_init_26 : Cond.fieldLink RX1 26 "GownLet$Chain" "house" "LGownLet$House;" ∈ wsX1_init := by decide +kernel
theorem ly_X1_init_1 : ∀ w ∈ wsX10, w ∈ wsX1_init := fun w h => List.mem_cons_of_mem _ (List.mem_append_right _ h)
abbrev rm_X1_init : Room := { frames := 4, cells := 4, slots := 758, locals := 160 }
set_option maxRecDepth 100000 in
set_option maxHeartbeats 8000000 in
theorem k_X1_init (q : Nat) (h1 : Nat) : gw_M l yX1_init wsX1_init rm_X1_init 4 758 D (gw_ty cc) t1 t2 [.ref q, .ref h1] [(q, .inr (1, [.null, .null, .null, .null, .null, .int 0]))] (fun w => ∃ q1 q2 q3 q4, w = [(q, .inr (1, [.ref h1, .ref q1, .ref q2, .ref q3, .ref q4, .int 0])), (q1, .inl (cc 0, 720, .inl (fun _ => 0))), (q2, .inl (cc 0, 30, .inl (fun _ => 0))), (q3, .inl (cc 0, 4, .inl (fun _ => 0))), (q4, .inl (cc 0, 4, .inl (fun _ => 0)))]) none := by
  refine gw_enter (cc := cX1_init) (maxL := 2) (ret := none) (own := RX1) rfl (by decide) rfl (Nat.le_of_ble_eq_true rfl) ?_
  intro p e s m below meth c A B hin hI ls hl
  have hl : lv_has ls 2 [(0, .ref q), (1, .ref h1)] := hl
  have hin : meth.name = "<init>" := hin
  generalize ([.ref q, .ref h1] : List Value).toArray = args at B ⊢
  have hx := B.1.1
  have hb := B.1.2.1
  refine lv_aload_n hx hb dX1_init_0 rfl (lv_at hl 0 rfl) ?_
  refine gw_ainit B (by decide +kernel) (by decide +kernel) (by decide +kernel) hl.1 dX1_init_1 (Nat.le_of_ble_eq_true rfl) (Nat.le_of_ble_eq_true rfl) ?_
  refine lv_aload_n hx hb dX1_init_4 rfl (lv_at hl 0 rfl) ?_
  refine lv_sipush (v := 720) hx hb dX1_init_5 (by decide) ?_
  refine gw_newa (t0 := 0) (N := 720) (ty := .int) B hI rfl rfl rfl (by decide +kernel) (by decide) rfl (Nat.le_of_ble_eq_true rfl) (Nat.le_of_ble_eq_true rfl) (Nat.le_of_ble_eq_true rfl) dX1_init_8 (fun q1 H hI => ?_)
  have hI : gw_I D A s.heap ([(q, .inr (1, [.null, .null, .null, .null, .null, .int 0])), (q1, .inl (cc 0, 720, .inl (fun _ => 0)))]) H _ := hI
  refine gw_putF (q0 := 0) (T := TX1) (k := 1) (w' := [(q, .inr (1, [.null, .ref q1, .null, .null, .null, .int 0])), (q1, .inl (cc 0, 720, .inl (fun _ => 0)))]) B hin hI rfl rfl ly_X1_init_1 tyX1 tyX1_ok nmX1 (by decide) m_X1_init_11 rfl rfl rfl rfl (Nat.le_of_ble_eq_true rfl) rfl dX1_init_10 (fun H locs hI => ?_)
  refine lv_aload_n hx hb dX1_init_13 rfl (lv_at hl 0 rfl) ?_
  refine lv_bipush (v := 30) hx hb dX1_init_14 (by decide) ?_
  refine gw_newa (t0 := 0) (N := 30) (ty := .int) B hI rfl rfl rfl (by decide +kernel) (by decide) rfl (Nat.le_of_ble_eq_true rfl) (Nat.le_of_ble_eq_true rfl) (Nat.le_of_ble_eq_true rfl) dX1_init_16 (fun q2 H hI => ?_)
  have hI : gw_I D A s.heap ([(q, .inr (1, [.null, .ref q1, .null, .null, .null, .int 0])), (q1, .inl (cc 0, 720, .inl (fun _ => 0))), (q2, .inl (cc 0, 30, .inl (fun _ => 0)))]) H _ := hI
  refine gw_putF (q0 := 0) (T := TX1) (k := 2) (w' := [(q, .inr (1, [.null, .ref q1, .ref q2, .null, .null, .int 0])), (q1, .inl (cc 0, 720, .inl (fun _ => 0))), (q2, .inl (cc 0, 30, .inl (fun _ => 0)))]) B hin hI rfl rfl ly_X1_init_1 tyX1 tyX1_ok nmX1 (by decide) m_X1_init_17 rfl rfl rfl rfl (Nat.le_of_ble_eq_true rfl) rfl dX1_init_18 (fun H locs hI => ?_)
  refine lv_aload_n hx hb dX1_init_21 rfl (lv_at hl 0 rfl) ?_
  refine lv_iconst (v := 4) hx hb dX1_init_22 (by decide) ?_
  refine gw_newa (t0 := 0) (N := 4) (ty := .int) B hI rfl rfl rfl (by decide +kernel) (by decide) rfl (Nat.le_of_ble_eq_true rfl) (Nat.le_of_ble_eq_true rfl) (Nat.le_of_ble_eq_true rfl) dX1_init_23 (fun q3 H hI => ?_)
  have hI : gw_I D A s.heap ([(q, .inr (1, [.null, .ref q1, .ref q2, .null, .null, .int 0])), (q1, .inl (cc 0, 720, .inl (fun _ => 0))), (q2, .inl (cc 0, 30, .inl (fun _ => 0))), (q3, .inl (cc 0, 4, .inl (fun _ => 0)))]) H _ := hI
  refine gw_putF (q0 := 0) (T := TX1) (k := 3) (w' := [(q, .inr (1, [.null, .ref q1, .ref q2, .ref q3, .null, .int 0])), (q1, .inl (cc 0, 720, .inl (fun _ => 0))), (q2, .inl (cc 0, 30, .inl (fun _ => 0))), (q3, .inl (cc 0, 4, .inl (fun _ => 0)))]) B hin hI rfl rfl ly_X1_init_1 tyX1 tyX1_ok nmX1 (by decide) m_X1_init_20 rfl rfl rfl rfl (Nat.le_of_ble_eq_true rfl) rfl dX1_init_25 (fun H locs hI => ?_)
  refine lv_aload_n hx hb dX1_init_28 rfl (lv_at hl 0 rfl) ?_
  refine lv_iconst (v := 4) hx hb dX1_init_29 (by decide) ?_
  refine gw_newa (t0 := 0) (N := 4) (ty := .int) B hI rfl rfl rfl (by decide +kernel) (by decide) rfl (Nat.le_of_ble_eq_true rfl) (Nat.le_of_ble_eq_true rfl) (Nat.le_of_ble_eq_true rfl) dX1_init_30 (fun q4 H hI => ?_)
  have hI : gw_I D A s.heap ([(q, .inr (1, [.null, .ref q1, .ref q2, .ref q3, .null, .int 0])), (q1, .inl (cc 0, 720, .inl (fun _ => 0))), (q2, .inl (cc 0, 30, .inl (fun _ => 0))), (q3, .inl (cc 0, 4, .inl (fun _ => 0))), (q4, .inl (cc 0, 4, .inl (fun _ => 0)))]) H _ := hI
  refine gw_putF (q0 := 0) (T := TX1) (k := 4) (w' := [(q, .inr (1, [.null, .ref q1, .ref q2, .ref q3, .ref q4, .int 0])), (q1, .inl (cc 0, 720, .inl (fun _ => 0))), (q2, .inl (cc 0, 30, .inl (fun _ => 0))), (q3, .inl (cc 0, 4, .inl (fun _ => 0))), (q4, .inl (cc 0, 4, .inl (fun _ => 0)))]) B hin hI rfl rfl ly_X1_init_1 tyX1 tyX1_ok nmX1 (by decide) m_X1_init_23 rfl rfl rfl rfl (Nat.le_of_ble_eq_true rfl) rfl dX1_init_32 (fun H locs hI => ?_)
  refine lv_aload_n hx hb dX1_init_35 rfl (lv_at hl 0 rfl) ?_
  refine lv_aload_n hx hb dX1_init_36 rfl (lv_at hl 1 rfl) ?_
  refine gw_putF (q0 := 0) (T := TX1) (k := 0) (w' := [(q, .inr (1, [.ref h1, .ref q1, .ref q2, .ref q3, .ref q4, .int 0])), (q1, .inl (cc 0, 720, .inl (fun _ => 0))), (q2, .inl (cc 0, 30, .inl (fun _ => 0))), (q3, .inl (cc 0, 4, .inl (fun _ => 0))), (q4, .inl (cc 0, 4, .inl (fun _ => 0)))]) B hin hI rfl rfl ly_X1_init_1 tyX1 tyX1_ok nmX1 (by decide) m_X1_init_26 rfl rfl rfl rfl (Nat.le_of_ble_eq_true rfl) rfl dX1_init_37 (fun H locs hI => ?_)
  exact gw_vret (W' := (fun w => ∃ q1 q2 q3 q4, w = [(q, .inr (1, [.ref h1, .ref q1, .ref q2, .ref q3, .ref q4, .int 0])), (q1, .inl (cc 0, 720, .inl (fun _ => 0))), (q2, .inl (cc 0, 30, .inl (fun _ => 0))), (q3, .inl (cc 0, 4, .inl (fun _ => 0))), (q4, .inl (cc 0, 4, .inl (fun _ => 0)))])) B hI ⟨q1, q2, q3, q4, rfl⟩ (Nat.le_of_ble_eq_true rfl) (Nat.le_of_ble_eq_true rfl) dX1_init_40
theorem m_X3_init_9 : Cond.fieldLink RX3 9 "GownLet$Lies" "span" "[I" ∈ wsX3_init := by decide +kernel
theorem ly_X3_init_3 : ∀ w ∈ wsX30, w ∈ wsX3_init := fun w h => List.mem_cons_of_mem _ (List.mem_append_right _ h)
set_option maxRecDepth 100000 in
set_option maxHeartbeats 4000000 in
theorem k_X3_init_t {p : Program} {e : Env} {R : Room} {s : State} {m : MethodId} {args : Array Value} {below : List Frame} {meth : Method} {c : Code} {A : Nat → Prop} {cl sl mc ms : Nat} {W9 : va_W → Prop} (hR : 24 ≤ R.frames ∧ 900 ≤ R.locals) (hc1 : cl ≤ R.cells) (hc2 : sl ≤ R.slots) (hm1 : cl ≤ mc) (hm2 : sl ≤ ms) (B : gw_B p s m args meth c cX3_init 4 wsX3_init RX3 none D (gw_ty cc) t1 t2 A) (S : gw_S) {zS : gw_S} (h : f_X3_init_t S = some zS) (hW9 : W9 (gw_lw cc a zS)) (H : Heap) (locs : List Loc) (ls : Array Slot) (hI : gw_I D A s.heap (gw_lw cc a S) H locs) (hl : lv_has ls 4 [(0, .ref (a 7))]) : W p l e R s m args below meth c H locs cl sl (MQ below (gw_Q none (gw_Pst D A W9) A) args s mc ms A) (F0 m 28 ls []) := by
  have hx := B.1.1
  have hb := B.1.2.1
  have hown : s.vm.findClass RX3 = some m.cls := B.1.2.2.2.1
  have hts := B.1.2.2.2.2
  have hb86 : ∀ (K30 : Int32 → gw_S → Option (gw_S)) (_ : ∀ (v1 : Int32) (S : gw_S), K30 v1 S = some zS → ∀ (H : Heap) (locs : List Loc) (ls : Array Slot), gw_I D A s.heap (gw_lw cc a S) H locs → lv_has ls 4 [(0, .ref (a 7)), (1, .int v1)] → W p l e R s m args below meth c H locs cl sl (MQ below (gw_Q none (gw_Pst D A W9) A) args s mc ms A) (F0 m 30 ls [])), ∀ (K38 : Int32 → Int32 → gw_S → Option (gw_S)) (_ : ∀ (v1 : Int32) (v2 : Int32) (S : gw_S), K38 v1 v2 S = some zS → ∀ (H : Heap) (locs : List Loc) (ls : Array Slot), gw_I D A s.heap (gw_lw cc a S) H locs → lv_has ls 4 [(0, .ref (a 7)), (1, .int v1), (2, .int v2)] → W p l e R s m args below meth c H locs cl sl (MQ below (gw_Q none (gw_Pst D A W9) A) args s mc ms A) (F0 m 38 ls [])), ∀ (v1 : Int32) (v2 : Int32) (t0_ : Int32) (t1_ : Int32) (S : gw_S), f_X3_init_t_b86 K30 K38 v1 v2 t0_ t1_ S = some zS → ∀ (H : Heap) (locs : List Loc) (ls : Array Slot), gw_I D A s.heap (gw_lw cc a S) H locs → lv_has ls 4 [(0, .ref (a 7)), (1, .int v1), (2, .int v2)] → W p l e R s m args below meth c H locs cl sl (MQ below (gw_Q none (gw_Pst D A W9) A) args s mc ms A) (F0 m 86 ls [.int t0_, .int t1_, .ref (a 8)]) := by
    intro K30 hK30 K38 hK38
    intro v1 v2 t0_ t1_ S h H locs ls hI hl
    unfold f_X3_init_t_b86 at h
    obtain ⟨g1, h⟩ := gw_gdE h
    obtain ⟨S2, e3, h⟩ := gw_letE h
    refine gw_iast (t0 := 0) (w' := gw_lw cc a S2) B hI gl_g8 rfl g1 (gl_s8 e3) dX3_init_86 (fun H locs hI => ?_)
    obtain ⟨y4, e5, h⟩ := gw_letE h
    refine lv_iinc (v := y4) (lv' := [(2, .int y4), (0, .ref (a 7)), (1, .int v1)]) hx hb dX3_init_87 hl (k := 2) rfl (by rw [e5]; rfl) (by decide) rfl (fun ls hl => ?_)
    refine lv_goto (tgt := 38) hx hb dX3_init_90 (by decide) ?_
    exact hK38 v1 y4 S2 h _ _ _ hI (lv_sub hl [1, 2, 0] rfl)
  have hb64 : ∀ (K30 : Int32 → gw_S → Option (gw_S)) (_ : ∀ (v1 : Int32) (S : gw_S), K30 v1 S = some zS → ∀ (H : Heap) (locs : List Loc) (ls : Array Slot), gw_I D A s.heap (gw_lw cc a S) H locs → lv_has ls 4 [(0, .ref (a 7)), (1, .int v1)] → W p l e R s m args below meth c H locs cl sl (MQ below (gw_Q none (gw_Pst D A W9) A) args s mc ms A) (F0 m 30 ls [])), ∀ (K38 : Int32 → Int32 → gw_S → Option (gw_S)) (_ : ∀ (v1 : Int32) (v2 : Int32) (S : gw_S), K38 v1 v2 S = some zS → ∀ (H : Heap) (locs : List Loc) (ls : Array Slot), gw_I D A s.heap (gw_lw cc a S) H locs → lv_has ls 4 [(0, .ref (a 7)), (1, .int v1), (2, .int v2)] → W p l e R s m args below meth c H locs cl sl (MQ below (gw_Q none (gw_Pst D A W9) A) args s mc ms A) (F0 m 38 ls [])), ∀ (v1 : Int32) (v2 : Int32) (t0_ : Int32) (t1_ : Int32) (S : gw_S), f_X3_init_t_b64 K30 K38 v1 v2 t0_ t1_ S = some zS → ∀ (H : Heap) (locs : List Loc) (ls : Array Slot), gw_I D A s.heap (gw_lw cc a S) H locs → lv_has ls 4 [(0, .ref (a 7)), (1, .int v1), (2, .int v2)] → W p l e R s m args below meth c H locs cl sl (MQ below (gw_Q none (gw_Pst D A W9) A) args s mc ms A) (F0 m 64 ls [.int t0_, .int t1_]) := by
    intro K30 hK30 K38 hK38
    intro v1 v2 t0_ t1_ S h H locs ls hI hl
    unfold f_X3_init_t_b64 at h
    refine lv_iadd hx hb dX3_init_64 ?_
    obtain ⟨y6, e7, h⟩ := gw_letE h
    rw [← e7]
    refine lv_istore_n (lv' := [(3, .int y6), (0, .ref (a 7)), (1, .int v1), (2, .int v2)]) hx hb dX3_init_65 rfl hl (by decide) rfl (fun ls hl => ?_)
    refine lv_aload_n hx hb dX3_init_66 rfl (lv_at hl 1 rfl) ?_
    refine gw_get (T := TX3) (k := 0) (v := .ref (a 8)) B hI gl_g7 rfl ly_X3_init_3 (by decide) m_X3_init_9 rfl rfl dX3_init_67 ?_
    refine lv_iload_n hx hb dX3_init_70 rfl (lv_at hl 2 rfl) ?_
    refine lv_bipush (v := 6) hx hb dX3_init_71 (by decide) ?_
    refine lv_imul hx hb dX3_init_73 ?_
    refine lv_iload_n hx hb dX3_init_74 rfl (lv_at hl 3 rfl) ?_
    refine lv_iadd hx hb dX3_init_75 ?_
    refine lv_iload_n hx hb dX3_init_76 rfl (lv_at hl 2 rfl) ?_
    refine lv_iload_n hx hb dX3_init_77 rfl (lv_at hl 3 rfl) ?_
    refine lv_icmp_ne (tgt := 85) hx hb dX3_init_78 (by decide) (fun c8 => ?_) (fun c8 => ?_)
    · replace h := gw_ifF c8 h
      refine lv_iload_n hx hb dX3_init_85 rfl (lv_at hl 0 rfl) ?_
      exact hb86 K30 hK30 K38 hK38 v1 v2 y6 ((v1 * (6 : Int32)) + v2) S h _ _ _ hI (lv_sub hl [1, 2, 3] rfl)
    · replace h := gw_ifT c8 h
      refine lv_iconst (v := 0) hx hb dX3_init_81 (by decide) ?_
      refine lv_goto (tgt := 86) hx hb dX3_init_82 (by decide) ?_
      exact hb86 K30 hK30 K38 hK38 v1 v2 (0 : Int32) ((v1 * (6 : Int32)) + v2) S h _ _ _ hI (lv_sub hl [1, 2, 3] rfl)
  have hb54 : ∀ (K30 : Int32 → gw_S → Option (gw_S)) (_ : ∀ (v1 : Int32) (S : gw_S), K30 v1 S = some zS → ∀ (H : Heap) (locs : List Loc) (ls : Array Slot), gw_I D A s.heap (gw_lw cc a S) H locs → lv_has ls 4 [(0, .ref (a 7)), (1, .int v1)] → W p l e R s m args below meth c H locs cl sl (MQ below (gw_Q none (gw_Pst D A W9) A) args s mc ms A) (F0 m 30 ls [])), ∀ (K38 : Int32 → Int32 → gw_S → Option (gw_S)) (_ : ∀ (v1 : Int32) (v2 : Int32) (S : gw_S), K38 v1 v2 S = some zS → ∀ (H : Heap) (locs : List Loc) (ls : Array Slot), gw_I D A s.heap (gw_lw cc a S) H locs → lv_has ls 4 [(0, .ref (a 7)), (1, .int v1), (2, .int v2)] → W p l e R s m args below meth c H locs cl sl (MQ below (gw_Q none (gw_Pst D A W9) A) args s mc ms A) (F0 m 38 ls [])), ∀ (v1 : Int32) (v2 : Int32) (t0_ : Int32) (S : gw_S), f_X3_init_t_b54 K30 K38 v1 v2 t0_ S = some zS → ∀ (H : Heap) (locs : List Loc) (ls : Array Slot), gw_I D A s.heap (gw_lw cc a S) H locs → lv_has ls 4 [(0, .ref (a 7)), (1, .int v1), (2, .int v2)] → W p l e R s m args below meth c H locs cl sl (MQ below (gw_Q none (gw_Pst D A W9) A) args s mc ms A) (F0 m 54 ls [.int t0_]) := by
    intro K30 hK30 K38 hK38
    intro v1 v2 t0_ S h H locs ls hI hl
    unfold f_X3_init_t_b54 at h
    refine lv_iload_n hx hb dX3_init_54 rfl (lv_at hl 2 rfl) ?_
    refine lv_if_ne (tgt := 62) hx hb dX3_init_55 (by decide) (fun c9 => ?_) (fun c9 => ?_)
    · replace h := gw_ifF c9 h
      refine lv_bipush (v := 9) hx hb dX3_init_62 (by decide) ?_
      exact hb64 K30 hK30 K38 hK38 v1 v2 (9 : Int32) t0_ S h _ _ _ hI (lv_sub hl [0, 1, 2] rfl)
    · replace h := gw_ifT c9 h
      refine lv_iconst (v := 0) hx hb dX3_init_58 (by decide) ?_
      refine lv_goto (tgt := 64) hx hb dX3_init_59 (by decide) ?_
      exact hb64 K30 hK30 K38 hK38 v1 v2 (0 : Int32) t0_ S h _ _ _ hI (lv_sub hl [0, 1, 2] rfl)
  have hb38 : ∀ (K30 : Int32 → gw_S → Option (gw_S)) (_ : ∀ (v1 : Int32) (S : gw_S), K30 v1 S = some zS → ∀ (H : Heap) (locs : List Loc) (ls : Array Slot), gw_I D A s.heap (gw_lw cc a S) H locs → lv_has ls 4 [(0, .ref (a 7)), (1, .int v1)] → W p l e R s m args below meth c H locs cl sl (MQ below (gw_Q none (gw_Pst D A W9) A) args s mc ms A) (F0 m 30 ls [])), ∀ (n : Nat), ∀ (v1 : Int32) (v2 : Int32) (S : gw_S), f_X3_init_t_b38 K30 n v1 v2 S = some zS → ∀ (H : Heap) (locs : List Loc) (ls : Array Slot), gw_I D A s.heap (gw_lw cc a S) H locs → lv_has ls 4 [(0, .ref (a 7)), (1, .int v1), (2, .int v2)] → W p l e R s m args below meth c H locs cl sl (MQ below (gw_Q none (gw_Pst D A W9) A) args s mc ms A) (F0 m 38 ls []) := by
    intro K30 hK30
    intro n
    induction n with
    | zero =>
      intro v1 v2 S h
      cases h
    | succ n ih =>
      intro v1 v2 S h H locs ls hI hl
      unfold f_X3_init_t_b38 at h
      refine lv_iload_n hx hb dX3_init_38 rfl (lv_at hl 2 rfl) ?_
      refine lv_bipush (v := 6) hx hb dX3_init_39 (by decide) ?_
      refine lv_icmp_ge (tgt := 93) hx hb dX3_init_41 (by decide) (fun c10 => ?_) (fun c10 => ?_)
      · replace h := gw_ifT c10 h
        obtain ⟨y11, e12, h⟩ := gw_letE h
        refine lv_iinc (v := y11) (lv' := [(1, .int y11), (0, .ref (a 7)), (2, .int v2)]) hx hb dX3_init_93 hl (k := 1) rfl (by rw [e12]; rfl) (by decide) rfl (fun ls hl => ?_)
        refine lv_goto (tgt := 30) hx hb dX3_init_96 (by decide) ?_
        exact hK30 y11 S h _ _ _ hI (lv_sub hl [1, 0] rfl)
      · replace h := gw_ifF c10 h
        refine lv_iload_n hx hb dX3_init_44 rfl (lv_at hl 1 rfl) ?_
        refine lv_if_ne (tgt := 52) hx hb dX3_init_45 (by decide) (fun c13 => ?_) (fun c13 => ?_)
        · replace h := gw_ifF c13 h
          refine lv_bipush (v := 9) hx hb dX3_init_52 (by decide) ?_
          exact hb54 K30 hK30 (f_X3_init_t_b38 K30 n) ih v1 v2 (9 : Int32) S h _ _ _ hI (lv_sub hl [0, 1, 2] rfl)
        · replace h := gw_ifT c13 h
          refine lv_iconst (v := 0) hx hb dX3_init_48 (by decide) ?_
          refine lv_goto (tgt := 54) hx hb dX3_init_49 (by decide) ?_
          exact hb54 K30 hK30 (f_X3_init_t_b38 K30 n) ih v1 v2 (0 : Int32) S h _ _ _ hI (lv_sub hl [0, 1, 2] rfl)
  have hb30 :  ∀ (n : Nat), ∀ (v1 : Int32) (S : gw_S), f_X3_init_t_b30  n v1 S = some zS → ∀ (H : Heap) (locs : List Loc) (ls : Array Slot), gw_I D A s.heap (gw_lw cc a S) H locs → lv_has ls 4 [(0, .ref (a 7)), (1, .int v1)] → W p l e R s m args below meth c H locs cl sl (MQ below (gw_Q none (gw_Pst D A W9) A) args s mc ms A) (F0 m 30 ls []) := by
    intro n
    induction n with
    | zero =>
      intro v1 S h
      cases h
    | succ n ih =>
      intro v1 S h H locs ls hI hl
      unfold f_X3_init_t_b30 at h
      refine lv_iload_n hx hb dX3_init_30 rfl (lv_at hl 1 rfl) ?_
      refine lv_bipush (v := 6) hx hb dX3_init_31 (by decide) ?_
      refine lv_icmp_ge (tgt := 99) hx hb dX3_init_33 (by decide) (fun c14 => ?_) (fun c14 => ?_)
      · replace h := gw_ifT c14 h
        refine lv_aload_n hx hb dX3_init_99 rfl (lv_at hl 0 rfl) ?_
        obtain ⟨S15, e16, h⟩ := gw_bdE h
        refine gw_callVv (As := []) (n := 0) B hI (k_X3_readEnds_l  S e16) gX3_init_X3_readEnds rfl rfl rfl nd_X3_readEnds ⟨Nat.le_trans (Nat.le_of_ble_eq_true rfl) hR.1, Nat.le_trans (Nat.le_of_ble_eq_true rfl) hR.2⟩ gl_g7 rfl rfl rfl hl.1 (Nat.zero_le _) dX3_init_100 ⟨hc1, hc2⟩ rfl (fun w' H locs hw hI => ?_)
        subst hw
        rw [Option.some.inj h] at hI
        exact gw_vret (W' := W9) B hI hW9 hm1 hm2 dX3_init_103
      · replace h := gw_ifF c14 h
        refine lv_iconst (v := 0) hx hb dX3_init_36 (by decide) ?_
        refine lv_istore_n (lv' := [(2, .int (0 : Int32)), (0, .ref (a 7)), (1, .int v1)]) hx hb dX3_init_37 rfl hl (by decide) rfl (fun ls hl => ?_)
        exact hb38 (f_X3_init_t_b30  n) ih gw_F v1 (0 : Int32) S h _ _ _ hI (lv_sub hl [1, 2, 0] rfl)
  unfold f_X3_init_t at h
  refine lv_iconst (v := 0) hx hb dX3_init_28 (by decide) ?_
  refine lv_istore_n (lv' := [(1, .int (0 : Int32)), (0, .ref (a 7))]) hx hb dX3_init_29 rfl hl (by decide) rfl (fun ls hl => ?_)
  exact hb30  gw_F (0 : Int32) S h _ _ _ hI (lv_sub hl [1, 0] rfl)
theorem m_X2_init_25 : Cond.fieldLink RX2 25 "GownLet$House" "post" "[I" ∈ wsX2_init := by decide +kernel
theorem ly_X2_init_2 : ∀ w ∈ wsX20, w ∈ wsX2_init := fun w h => List.mem_cons_of_mem _ (List.mem_append_left _ (List.mem_append_right _ h))
set_option maxRecDepth 100000 in
set_option maxHeartbeats 4000000 in
theorem k_X2_init_t {p : Program} {e : Env} {R : Room} {s : State} {m : MethodId} {args : Array Value} {below : List Frame} {meth : Method} {c : Code} {A : Nat → Prop} {cl sl mc ms : Nat} {W9 : va_W → Prop} (hR : 24 ≤ R.frames ∧ 900 ≤ R.locals) (hc1 : cl ≤ R.cells) (hc2 : sl ≤ R.slots) (hm1 : cl ≤ mc) (hm2 : sl ≤ ms) (B : gw_B p s m args meth c cX2_init 3 wsX2_init RX2 none D (gw_ty cc) t1 t2 A) (S : gw_S) {zS : gw_S} (h : f_X2_init_t S = some zS) (hW9 : W9 (gw_hw cc a b d zS)) (H : Heap) (locs : List Loc) (ls : Array Slot) (hI : gw_I D A s.heap (gw_hw cc a b d S) H locs) (hl : lv_has ls 3 [(0, .ref (a 3))]) : W p l e R s m args below meth c H locs cl sl (MQ below (gw_Q none (gw_Pst D A W9) A) args s mc ms A) (F0 m 60 ls []) := by
  have hx := B.1.1
  have hb := B.1.2.1
  have hown : s.vm.findClass RX2 = some m.cls := B.1.2.2.2.1
  have hts := B.1.2.2.2.2
  have hb96 : ∀ (K62 : Int32 → gw_S → Option (gw_S)) (_ : ∀ (v1 : Int32) (S : gw_S), K62 v1 S = some zS → ∀ (H : Heap) (locs : List Loc) (ls : Array Slot), gw_I D A s.heap (gw_hw cc a b d S) H locs → lv_has ls 3 [(0, .ref (a 3)), (1, .int v1)] → W p l e R s m args below meth c H locs cl sl (MQ below (gw_Q none (gw_Pst D A W9) A) args s mc ms A) (F0 m 62 ls [])), ∀ (K70 : Int32 → Int32 → gw_S → Option (gw_S)) (_ : ∀ (v1 : Int32) (v2 : Int32) (S : gw_S), K70 v1 v2 S = some zS → ∀ (H : Heap) (locs : List Loc) (ls : Array Slot), gw_I D A s.heap (gw_hw cc a b d S) H locs → lv_has ls 3 [(0, .ref (a 3)), (1, .int v1), (2, .int v2)] → W p l e R s m args below meth c H locs cl sl (MQ below (gw_Q none (gw_Pst D A W9) A) args s mc ms A) (F0 m 70 ls [])), ∀ (v1 : Int32) (v2 : Int32) (t0_ : Int32) (t1_ : Int32) (S : gw_S), f_X2_init_t_b96 K62 K70 v1 v2 t0_ t1_ S = some zS → ∀ (H : Heap) (locs : List Loc) (ls : Array Slot), gw_I D A s.heap (gw_hw cc a b d S) H locs → lv_has ls 3 [(0, .ref (a 3)), (1, .int v1), (2, .int v2)] → W p l e R s m args below meth c H locs cl sl (MQ below (gw_Q none (gw_Pst D A W9) A) args s mc ms A) (F0 m 96 ls [.int t0_, .int t1_, .ref (a 11)]) := by
    intro K62 hK62 K70 hK70
    intro v1 v2 t0_ t1_ S h H locs ls hI hl
    unfold f_X2_init_t_b96 at h
    obtain ⟨g1, h⟩ := gw_gdE h
    obtain ⟨S2, e3, h⟩ := gw_letE h
    refine gw_iast (t0 := 0) (w' := gw_hw cc a b d S2) B hI gh_g11 rfl g1 (gh_s11 e3) dX2_init_96 (fun H locs hI => ?_)
    obtain ⟨y4, e5, h⟩ := gw_letE h
    refine lv_iinc (v := y4) (lv' := [(2, .int y4), (0, .ref (a 3)), (1, .int v1)]) hx hb dX2_init_97 hl (k := 2) rfl (by rw [e5]; rfl) (by decide) rfl (fun ls hl => ?_)
    refine lv_goto (tgt := 70) hx hb dX2_init_100 (by decide) ?_
    exact hK70 v1 y4 S2 h _ _ _ hI (lv_sub hl [1, 2, 0] rfl)
  have hb70 : ∀ (K62 : Int32 → gw_S → Option (gw_S)) (_ : ∀ (v1 : Int32) (S : gw_S), K62 v1 S = some zS → ∀ (H : Heap) (locs : List Loc) (ls : Array Slot), gw_I D A s.heap (gw_hw cc a b d S) H locs → lv_has ls 3 [(0, .ref (a 3)), (1, .int v1)] → W p l e R s m args below meth c H locs cl sl (MQ below (gw_Q none (gw_Pst D A W9) A) args s mc ms A) (F0 m 62 ls [])), ∀ (n : Nat), ∀ (v1 : Int32) (v2 : Int32) (S : gw_S), f_X2_init_t_b70 K62 n v1 v2 S = some zS → ∀ (H : Heap) (locs : List Loc) (ls : Array Slot), gw_I D A s.heap (gw_hw cc a b d S) H locs → lv_has ls 3 [(0, .ref (a 3)), (1, .int v1), (2, .int v2)] → W p l e R s m args below meth c H locs cl sl (MQ below (gw_Q none (gw_Pst D A W9) A) args s mc ms A) (F0 m 70 ls []) := by
    intro K62 hK62
    intro n
    induction n with
    | zero =>
      intro v1 v2 S h
      cases h
    | succ n ih =>
      intro v1 v2 S h H locs ls hI hl
      unfold f_X2_init_t_b70 at h
      refine lv_iload_n hx hb dX2_init_70 rfl (lv_at hl 2 rfl) ?_
      refine lv_bipush (v := 9) hx hb dX2_init_71 (by decide) ?_
      refine lv_icmp_ge (tgt := 103) hx hb dX2_init_73 (by decide) (fun c6 => ?_) (fun c6 => ?_)
      · replace h := gw_ifT c6 h
        obtain ⟨y7, e8, h⟩ := gw_letE h
        refine lv_iinc (v := y7) (lv' := [(1, .int y7), (0, .ref (a 3)), (2, .int v2)]) hx hb dX2_init_103 hl (k := 1) rfl (by rw [e8]; rfl) (by decide) rfl (fun ls hl => ?_)
        refine lv_goto (tgt := 62) hx hb dX2_init_106 (by decide) ?_
        exact hK62 y7 S h _ _ _ hI (lv_sub hl [1, 0] rfl)
      · replace h := gw_ifF c6 h
        refine lv_aload_n hx hb dX2_init_76 rfl (lv_at hl 0 rfl) ?_
        refine gw_get (T := TX2) (k := 2) (v := .ref (a 11)) B hI gh_g3 rfl ly_X2_init_2 (by decide) m_X2_init_25 rfl rfl dX2_init_77 ?_
        refine lv_iload_n hx hb dX2_init_80 rfl (lv_at hl 1 rfl) ?_
        refine lv_bipush (v := 9) hx hb dX2_init_81 (by decide) ?_
        refine lv_imul hx hb dX2_init_83 ?_
        refine lv_iload_n hx hb dX2_init_84 rfl (lv_at hl 2 rfl) ?_
        refine lv_iadd hx hb dX2_init_85 ?_
        refine lv_iload_n hx hb dX2_init_86 rfl (lv_at hl 1 rfl) ?_
        refine lv_iload_n hx hb dX2_init_87 rfl (lv_at hl 2 rfl) ?_
        refine lv_icmp_ne (tgt := 95) hx hb dX2_init_88 (by decide) (fun c9 => ?_) (fun c9 => ?_)
        · replace h := gw_ifF c9 h
          refine lv_iconst (v := 1) hx hb dX2_init_95 (by decide) ?_
          exact hb96 K62 hK62 (f_X2_init_t_b70 K62 n) ih v1 v2 (1 : Int32) ((v1 * (9 : Int32)) + v2) S h _ _ _ hI (lv_sub hl [0, 1, 2] rfl)
        · replace h := gw_ifT c9 h
          refine lv_iconst (v := 0) hx hb dX2_init_91 (by decide) ?_
          refine lv_goto (tgt := 96) hx hb dX2_init_92 (by decide) ?_
          exact hb96 K62 hK62 (f_X2_init_t_b70 K62 n) ih v1 v2 (0 : Int32) ((v1 * (9 : Int32)) + v2) S h _ _ _ hI (lv_sub hl [0, 1, 2] rfl)
  have hb62 :  ∀ (n : Nat), ∀ (v1 : Int32) (S : gw_S), f_X2_init_t_b62  n v1 S = some zS → ∀ (H : Heap) (locs : List Loc) (ls : Array Slot), gw_I D A s.heap (gw_hw cc a b d S) H locs → lv_has ls 3 [(0, .ref (a 3)), (1, .int v1)] → W p l e R s m args below meth c H locs cl sl (MQ below (gw_Q none (gw_Pst D A W9) A) args s mc ms A) (F0 m 62 ls []) := by
    intro n
    induction n with
    | zero =>
      intro v1 S h
      cases h
    | succ n ih =>
      intro v1 S h H locs ls hI hl
      unfold f_X2_init_t_b62 at h
      refine lv_iload_n hx hb dX2_init_62 rfl (lv_at hl 1 rfl) ?_
      refine lv_bipush (v := 9) hx hb dX2_init_63 (by decide) ?_
      refine lv_icmp_ge (tgt := 109) hx hb dX2_init_65 (by decide) (fun c10 => ?_) (fun c10 => ?_)
      · replace h := gw_ifT c10 h
        rw [Option.some.inj h] at hI
        exact gw_vret (W' := W9) B hI hW9 hm1 hm2 dX2_init_109
      · replace h := gw_ifF c10 h
        refine lv_iconst (v := 0) hx hb dX2_init_68 (by decide) ?_
        refine lv_istore_n (lv' := [(2, .int (0 : Int32)), (0, .ref (a 3)), (1, .int v1)]) hx hb dX2_init_69 rfl hl (by decide) rfl (fun ls hl => ?_)
        exact hb70 (f_X2_init_t_b62  n) ih gw_F v1 (0 : Int32) S h _ _ _ hI (lv_sub hl [1, 2, 0] rfl)
  unfold f_X2_init_t at h
  refine lv_iconst (v := 0) hx hb dX2_init_60 (by decide) ?_
  refine lv_istore_n (lv' := [(1, .int (0 : Int32)), (0, .ref (a 3))]) hx hb dX2_init_61 rfl hl (by decide) rfl (fun ls hl => ?_)
  exact hb62  gw_F (0 : Int32) S h _ _ _ hI (lv_sub hl [1, 0] rfl)
theorem m_X9_init_137 : Cond.fieldLink RX9 137 "GownLetModel" "lanes" "[I" ∈ wsX9_init := by decide +kernel
theorem m_X9_init_25 : Cond.fieldLink RX9 25 "GownLetModel" "posts" "[I" ∈ wsX9_init := by decide +kernel
theorem ly_X9_init_9 : ∀ w ∈ wsX90, w ∈ wsX9_init := fun w h => List.mem_cons_of_mem _ (List.mem_append_right _ h)
set_option maxRecDepth 100000 in
set_option maxHeartbeats 4000000 in
theorem k_X9_init_t {p : Program} {e : Env} {R : Room} {s : State} {m : MethodId} {args : Array Value} {below : List Frame} {meth : Method} {c : Code} {A : Nat → Prop} {cl sl mc ms : Nat} {W9 : va_W → Prop} (hR : 24 ≤ R.frames ∧ 900 ≤ R.locals) (hc1 : cl ≤ R.cells) (hc2 : sl ≤ R.slots) (hm1 : cl ≤ mc) (hm2 : sl ≤ ms) (B : gw_B p s m args meth c cX9_init 3 wsX9_init RX9 none D (gw_ty cc) t1 t2 A) (S : gw_S) {zS : gw_S} (h : f_X9_init_t S = some zS) (hW9 : W9 (gw_mw cc a zS)) (H : Heap) (locs : List Loc) (ls : Array Slot) (hI : gw_I D A s.heap (gw_mw cc a S) H locs) (hl : lv_has ls 3 [(0, .ref (a 0))]) : W p l e R s m args below meth c H locs cl sl (MQ below (gw_Q none (gw_Pst D A W9) A) args s mc ms A) (F0 m 489 ls []) := by
  have hx := B.1.1
  have hb := B.1.2.1
  have hown : s.vm.findClass RX9 = some m.cls := B.1.2.2.2.1
  have hts := B.1.2.2.2.2
  have hb540 :  ∀ (n : Nat), ∀ (v1 : Int32) (S : gw_S), f_X9_init_t_b540  n v1 S = some zS → ∀ (H : Heap) (locs : List Loc) (ls : Array Slot), gw_I D A s.heap (gw_mw cc a S) H locs → lv_has ls 3 [(0, .ref (a 0)), (1, .int v1)] → W p l e R s m args below meth c H locs cl sl (MQ below (gw_Q none (gw_Pst D A W9) A) args s mc ms A) (F0 m 540 ls []) := by
    intro n
    induction n with
    | zero =>
      intro v1 S h
      cases h
    | succ n ih =>
      intro v1 S h H locs ls hI hl
      unfold f_X9_init_t_b540 at h
      refine lv_iload_n hx hb dX9_init_540 rfl (lv_at hl 1 rfl) ?_
      refine lv_iconst (v := 4) hx hb dX9_init_541 (by decide) ?_
      refine lv_icmp_ge (tgt := 558) hx hb dX9_init_542 (by decide) (fun c1 => ?_) (fun c1 => ?_)
      · replace h := gw_ifT c1 h
        rw [Option.some.inj h] at hI
        exact gw_vret (W' := W9) B hI hW9 hm1 hm2 dX9_init_558
      · replace h := gw_ifF c1 h
        refine lv_aload_n hx hb dX9_init_545 rfl (lv_at hl 0 rfl) ?_
        refine gw_get (T := TX9) (k := 48) (v := .ref (a 43)) B hI gm_g0 rfl ly_X9_init_9 (by decide) m_X9_init_137 rfl rfl dX9_init_546 ?_
        refine lv_iload_n hx hb dX9_init_549 rfl (lv_at hl 1 rfl) ?_
        refine lv_iconst (v := -1) hx hb dX9_init_550 (by decide) ?_
        obtain ⟨g2, h⟩ := gw_gdE h
        obtain ⟨S3, e4, h⟩ := gw_letE h
        refine gw_iast (t0 := 0) (w' := gw_mw cc a S3) B hI gm_g43 rfl g2 (gm_s43 e4) dX9_init_551 (fun H locs hI => ?_)
        obtain ⟨y5, e6, h⟩ := gw_letE h
        refine lv_iinc (v := y5) (lv' := [(1, .int y5), (0, .ref (a 0))]) hx hb dX9_init_552 hl (k := 1) rfl (by rw [e6]; rfl) (by decide) rfl (fun ls hl => ?_)
        refine lv_goto (tgt := 540) hx hb dX9_init_555 (by decide) ?_
        exact ih y5 S3 h _ _ _ hI (lv_sub hl [1, 0] rfl)
  have hb525 : ∀ (K491 : Int32 → gw_S → Option (gw_S)) (_ : ∀ (v1 : Int32) (S : gw_S), K491 v1 S = some zS → ∀ (H : Heap) (locs : List Loc) (ls : Array Slot), gw_I D A s.heap (gw_mw cc a S) H locs → lv_has ls 3 [(0, .ref (a 0)), (1, .int v1)] → W p l e R s m args below meth c H locs cl sl (MQ below (gw_Q none (gw_Pst D A W9) A) args s mc ms A) (F0 m 491 ls [])), ∀ (K499 : Int32 → Int32 → gw_S → Option (gw_S)) (_ : ∀ (v1 : Int32) (v2 : Int32) (S : gw_S), K499 v1 v2 S = some zS → ∀ (H : Heap) (locs : List Loc) (ls : Array Slot), gw_I D A s.heap (gw_mw cc a S) H locs → lv_has ls 3 [(0, .ref (a 0)), (1, .int v1), (2, .int v2)] → W p l e R s m args below meth c H locs cl sl (MQ below (gw_Q none (gw_Pst D A W9) A) args s mc ms A) (F0 m 499 ls [])), ∀ (v1 : Int32) (v2 : Int32) (t0_ : Int32) (t1_ : Int32) (S : gw_S), f_X9_init_t_b525 K491 K499 v1 v2 t0_ t1_ S = some zS → ∀ (H : Heap) (locs : List Loc) (ls : Array Slot), gw_I D A s.heap (gw_mw cc a S) H locs → lv_has ls 3 [(0, .ref (a 0)), (1, .int v1), (2, .int v2)] → W p l e R s m args below meth c H locs cl sl (MQ below (gw_Q none (gw_Pst D A W9) A) args s mc ms A) (F0 m 525 ls [.int t0_, .int t1_, .ref (a 6)]) := by
    intro K491 hK491 K499 hK499
    intro v1 v2 t0_ t1_ S h H locs ls hI hl
    unfold f_X9_init_t_b525 at h
    obtain ⟨g7, h⟩ := gw_gdE h
    obtain ⟨S8, e9, h⟩ := gw_letE h
    refine gw_iast (t0 := 0) (w' := gw_mw cc a S8) B hI gm_g6 rfl g7 (gm_s6 e9) dX9_init_525 (fun H locs hI => ?_)
    obtain ⟨y10, e11, h⟩ := gw_letE h
    refine lv_iinc (v := y10) (lv' := [(2, .int y10), (0, .ref (a 0)), (1, .int v1)]) hx hb dX9_init_526 hl (k := 2) rfl (by rw [e11]; rfl) (by decide) rfl (fun ls hl => ?_)
    refine lv_goto (tgt := 499) hx hb dX9_init_529 (by decide) ?_
    exact hK499 v1 y10 S8 h _ _ _ hI (lv_sub hl [1, 2, 0] rfl)
  have hb499 : ∀ (K491 : Int32 → gw_S → Option (gw_S)) (_ : ∀ (v1 : Int32) (S : gw_S), K491 v1 S = some zS → ∀ (H : Heap) (locs : List Loc) (ls : Array Slot), gw_I D A s.heap (gw_mw cc a S) H locs → lv_has ls 3 [(0, .ref (a 0)), (1, .int v1)] → W p l e R s m args below meth c H locs cl sl (MQ below (gw_Q none (gw_Pst D A W9) A) args s mc ms A) (F0 m 491 ls [])), ∀ (n : Nat), ∀ (v1 : Int32) (v2 : Int32) (S : gw_S), f_X9_init_t_b499 K491 n v1 v2 S = some zS → ∀ (H : Heap) (locs : List Loc) (ls : Array Slot), gw_I D A s.heap (gw_mw cc a S) H locs → lv_has ls 3 [(0, .ref (a 0)), (1, .int v1), (2, .int v2)] → W p l e R s m args below meth c H locs cl sl (MQ below (gw_Q none (gw_Pst D A W9) A) args s mc ms A) (F0 m 499 ls []) := by
    intro K491 hK491
    intro n
    induction n with
    | zero =>
      intro v1 v2 S h
      cases h
    | succ n ih =>
      intro v1 v2 S h H locs ls hI hl
      unfold f_X9_init_t_b499 at h
      refine lv_iload_n hx hb dX9_init_499 rfl (lv_at hl 2 rfl) ?_
      refine lv_bipush (v := 9) hx hb dX9_init_500 (by decide) ?_
      refine lv_icmp_ge (tgt := 532) hx hb dX9_init_502 (by decide) (fun c12 => ?_) (fun c12 => ?_)
      · replace h := gw_ifT c12 h
        obtain ⟨y13, e14, h⟩ := gw_letE h
        refine lv_iinc (v := y13) (lv' := [(1, .int y13), (0, .ref (a 0)), (2, .int v2)]) hx hb dX9_init_532 hl (k := 1) rfl (by rw [e14]; rfl) (by decide) rfl (fun ls hl => ?_)
        refine lv_goto (tgt := 491) hx hb dX9_init_535 (by decide) ?_
        exact hK491 y13 S h _ _ _ hI (lv_sub hl [1, 0] rfl)
      · replace h := gw_ifF c12 h
        refine lv_aload_n hx hb dX9_init_505 rfl (lv_at hl 0 rfl) ?_
        refine gw_get (T := TX9) (k := 7) (v := .ref (a 6)) B hI gm_g0 rfl ly_X9_init_9 (by decide) m_X9_init_25 rfl rfl dX9_init_506 ?_
        refine lv_bipush (v := 9) hx hb dX9_init_509 (by decide) ?_
        refine lv_iload_n hx hb dX9_init_511 rfl (lv_at hl 1 rfl) ?_
        refine lv_imul hx hb dX9_init_512 ?_
        refine lv_iload_n hx hb dX9_init_513 rfl (lv_at hl 2 rfl) ?_
        refine lv_iadd hx hb dX9_init_514 ?_
        refine lv_iload_n hx hb dX9_init_515 rfl (lv_at hl 1 rfl) ?_
        refine lv_iload_n hx hb dX9_init_516 rfl (lv_at hl 2 rfl) ?_
        refine lv_icmp_ne (tgt := 524) hx hb dX9_init_517 (by decide) (fun c15 => ?_) (fun c15 => ?_)
        · replace h := gw_ifF c15 h
          refine lv_iconst (v := 1) hx hb dX9_init_524 (by decide) ?_
          exact hb525 K491 hK491 (f_X9_init_t_b499 K491 n) ih v1 v2 (1 : Int32) (((9 : Int32) * v1) + v2) S h _ _ _ hI (lv_sub hl [0, 1, 2] rfl)
        · replace h := gw_ifT c15 h
          refine lv_iconst (v := 0) hx hb dX9_init_520 (by decide) ?_
          refine lv_goto (tgt := 525) hx hb dX9_init_521 (by decide) ?_
          exact hb525 K491 hK491 (f_X9_init_t_b499 K491 n) ih v1 v2 (0 : Int32) (((9 : Int32) * v1) + v2) S h _ _ _ hI (lv_sub hl [0, 1, 2] rfl)
  have hb491 :  ∀ (n : Nat), ∀ (v1 : Int32) (S : gw_S), f_X9_init_t_b491  n v1 S = some zS → ∀ (H : Heap) (locs : List Loc) (ls : Array Slot), gw_I D A s.heap (gw_mw cc a S) H locs → lv_has ls 3 [(0, .ref (a 0)), (1, .int v1)] → W p l e R s m args below meth c H locs cl sl (MQ below (gw_Q none (gw_Pst D A W9) A) args s mc ms A) (F0 m 491 ls []) := by
    intro n
    induction n with
    | zero =>
      intro v1 S h
      cases h
    | succ n ih =>
      intro v1 S h H locs ls hI hl
      unfold f_X9_init_t_b491 at h
      refine lv_iload_n hx hb dX9_init_491 rfl (lv_at hl 1 rfl) ?_
      refine lv_bipush (v := 9) hx hb dX9_init_492 (by decide) ?_
      refine lv_icmp_ge (tgt := 538) hx hb dX9_init_494 (by decide) (fun c16 => ?_) (fun c16 => ?_)
      · replace h := gw_ifT c16 h
        refine lv_iconst (v := 0) hx hb dX9_init_538 (by decide) ?_
        refine lv_istore_n (lv' := [(1, .int (0 : Int32)), (0, .ref (a 0))]) hx hb dX9_init_539 rfl hl (by decide) rfl (fun ls hl => ?_)
        exact hb540  gw_F (0 : Int32) S h _ _ _ hI (lv_sub hl [1, 0] rfl)
      · replace h := gw_ifF c16 h
        refine lv_iconst (v := 0) hx hb dX9_init_497 (by decide) ?_
        refine lv_istore_n (lv' := [(2, .int (0 : Int32)), (0, .ref (a 0)), (1, .int v1)]) hx hb dX9_init_498 rfl hl (by decide) rfl (fun ls hl => ?_)
        exact hb499 (f_X9_init_t_b491  n) ih gw_F v1 (0 : Int32) S h _ _ _ hI (lv_sub hl [1, 2, 0] rfl)
  unfold f_X9_init_t at h
  refine lv_iconst (v := 0) hx hb dX9_init_489 (by decide) ?_
  refine lv_istore_n (lv' := [(1, .int (0 : Int32)), (0, .ref (a 0))]) hx hb dX9_init_490 rfl hl (by decide) rfl (fun ls hl => ?_)
  exact hb491  gw_F (0 : Int32) S h _ _ _ hI (lv_sub hl [1, 0] rfl)
end
end
section
section
variable {l : Launch} {D : va_G} {t1 t2 : Nat} {cc : Nat → ClassId} {a b d : Nat → Nat}
theorem m_X3_init_13 : Cond.fieldLink RX3 13 "GownLet$Lies" "lows" "[I" ∈ wsX3_init := by decide +kernel
theorem m_X3_init_16 : Cond.fieldLink RX3 16 "GownLet$Lies" "highs" "[I" ∈ wsX3_init := by decide +kernel
abbrev rm_X3_init : Room := { frames := 24, cells := 3, slots := 48, locals := 900 }
set_option maxRecDepth 100000 in
set_option maxHeartbeats 8000000 in
theorem k_X3_init (q : Nat)  {zL : gw_S} (hL : f_X3_init_t (fun _ _ => 0) = some zL) : gw_M l yX3_init wsX3_init rm_X3_init 3 48 D (gw_ty cc) t1 t2 [.ref q] [(q, .inr (3, [.null, .null, .null, .int 0, .int 0]))] (fun w => ∃ q1 q2 q3, w = gw_lw cc (gw_al 7 [q, q1, q2, q3]) zL) none := by
  refine gw_enter (cc := cX3_init) (maxL := 4) (ret := none) (own := RX3) rfl (by decide) rfl (Nat.le_of_ble_eq_true rfl) ?_
  intro p e s m below meth c A B hin hI ls hl
  have hl : lv_has ls 4 [(0, .ref q)] := hl
  have hin : meth.name = "<init>" := hin
  generalize ([.ref q] : List Value).toArray = args at B ⊢
  have hx := B.1.1
  have hb := B.1.2.1
  refine lv_aload_n hx hb dX3_init_0 rfl (lv_at hl 0 rfl) ?_
  refine gw_ainit B (by decide +kernel) (by decide +kernel) (by decide +kernel) hl.1 dX3_init_1 (Nat.le_of_ble_eq_true rfl) (Nat.le_of_ble_eq_true rfl) ?_
  refine lv_aload_n hx hb dX3_init_4 rfl (lv_at hl 0 rfl) ?_
  refine lv_bipush (v := 36) hx hb dX3_init_5 (by decide) ?_
  refine gw_newa (t0 := 0) (N := 36) (ty := .int) B hI rfl rfl rfl (by decide +kernel) (by decide) rfl (Nat.le_of_ble_eq_true rfl) (Nat.le_of_ble_eq_true rfl) (Nat.le_of_ble_eq_true rfl) dX3_init_7 (fun q1 H hI => ?_)
  have hI : gw_I D A s.heap ([(q, .inr (3, [.null, .null, .null, .int 0, .int 0])), (q1, .inl (cc 0, 36, .inl (fun _ => 0)))]) H _ := hI
  refine gw_putF (q0 := 0) (T := TX3) (k := 0) (w' := [(q, .inr (3, [.ref q1, .null, .null, .int 0, .int 0])), (q1, .inl (cc 0, 36, .inl (fun _ => 0)))]) B hin hI rfl rfl ly_X3_init_3 tyX3 tyX3_ok nmX3 (by decide) m_X3_init_9 rfl rfl rfl rfl (Nat.le_of_ble_eq_true rfl) rfl dX3_init_9 (fun H locs hI => ?_)
  refine lv_aload_n hx hb dX3_init_12 rfl (lv_at hl 0 rfl) ?_
  refine lv_bipush (v := 6) hx hb dX3_init_13 (by decide) ?_
  refine gw_newa (t0 := 0) (N := 6) (ty := .int) B hI rfl rfl rfl (by decide +kernel) (by decide) rfl (Nat.le_of_ble_eq_true rfl) (Nat.le_of_ble_eq_true rfl) (Nat.le_of_ble_eq_true rfl) dX3_init_15 (fun q2 H hI => ?_)
  have hI : gw_I D A s.heap ([(q, .inr (3, [.ref q1, .null, .null, .int 0, .int 0])), (q1, .inl (cc 0, 36, .inl (fun _ => 0))), (q2, .inl (cc 0, 6, .inl (fun _ => 0)))]) H _ := hI
  refine gw_putF (q0 := 0) (T := TX3) (k := 1) (w' := [(q, .inr (3, [.ref q1, .ref q2, .null, .int 0, .int 0])), (q1, .inl (cc 0, 36, .inl (fun _ => 0))), (q2, .inl (cc 0, 6, .inl (fun _ => 0)))]) B hin hI rfl rfl ly_X3_init_3 tyX3 tyX3_ok nmX3 (by decide) m_X3_init_13 rfl rfl rfl rfl (Nat.le_of_ble_eq_true rfl) rfl dX3_init_17 (fun H locs hI => ?_)
  refine lv_aload_n hx hb dX3_init_20 rfl (lv_at hl 0 rfl) ?_
  refine lv_bipush (v := 6) hx hb dX3_init_21 (by decide) ?_
  refine gw_newa (t0 := 0) (N := 6) (ty := .int) B hI rfl rfl rfl (by decide +kernel) (by decide) rfl (Nat.le_of_ble_eq_true rfl) (Nat.le_of_ble_eq_true rfl) (Nat.le_of_ble_eq_true rfl) dX3_init_23 (fun q3 H hI => ?_)
  have hI : gw_I D A s.heap ([(q, .inr (3, [.ref q1, .ref q2, .null, .int 0, .int 0])), (q1, .inl (cc 0, 36, .inl (fun _ => 0))), (q2, .inl (cc 0, 6, .inl (fun _ => 0))), (q3, .inl (cc 0, 6, .inl (fun _ => 0)))]) H _ := hI
  refine gw_putF (q0 := 0) (T := TX3) (k := 2) (w' := [(q, .inr (3, [.ref q1, .ref q2, .ref q3, .int 0, .int 0])), (q1, .inl (cc 0, 36, .inl (fun _ => 0))), (q2, .inl (cc 0, 6, .inl (fun _ => 0))), (q3, .inl (cc 0, 6, .inl (fun _ => 0)))]) B hin hI rfl rfl ly_X3_init_3 tyX3 tyX3_ok nmX3 (by decide) m_X3_init_16 rfl rfl rfl rfl (Nat.le_of_ble_eq_true rfl) rfl dX3_init_25 (fun H locs hI => ?_)
  have hI : gw_I D A s.heap (gw_lw cc (gw_al 7 [q, q1, q2, q3]) (fun _ _ => 0)) H _ := hI
  exact k_X3_init_t (a := (gw_al 7 [q, q1, q2, q3])) ⟨Nat.le_of_ble_eq_true rfl, Nat.le_of_ble_eq_true rfl⟩ (Nat.le_of_ble_eq_true rfl) (Nat.le_of_ble_eq_true rfl) (Nat.le_of_ble_eq_true rfl) (Nat.le_of_ble_eq_true rfl) B _ hL ⟨q1, q2, q3, rfl⟩ H _ ls hI hl
theorem m_X2_init_12 : Cond.fieldLink RX2 12 "GownLet$House" "terms" "LGownLet$Terms;" ∈ wsX2_init := by decide +kernel
theorem m_X2_init_21 : Cond.fieldLink RX2 21 "GownLet$House" "lies" "LGownLet$Lies;" ∈ wsX2_init := by decide +kernel
theorem m_X2_init_31 : Cond.fieldLink RX2 31 "GownLet$House" "pieces" "[LGownLet$Piece;" ∈ wsX2_init := by decide +kernel
theorem m_X2_init_37 : Cond.fieldLink RX2 37 "GownLet$House" "bookings" "[LGownLet$Booking;" ∈ wsX2_init := by decide +kernel
theorem m_X2_init_41 : Cond.fieldLink RX2 41 "GownLet$House" "isTrial" "[Z" ∈ wsX2_init := by decide +kernel
theorem ly_X2_init_3 : ∀ w ∈ wsX30, w ∈ wsX2_init := fun w h => List.mem_cons_of_mem _ (List.mem_append_right _ h)
theorem ly_X2_init_7 : ∀ w ∈ wsX70, w ∈ wsX2_init := fun w h => List.mem_cons_of_mem _ (List.mem_append_left _ (List.mem_append_left _ (List.mem_append_right _ h)))
abbrev rm_X2_init : Room := { frames := 26, cells := 11, slots := 236, locals := 1000 }
set_option maxRecDepth 100000 in
set_option maxHeartbeats 8000000 in
theorem k_X2_init (q : Nat)  {zL zH : gw_S} (hL : f_X3_init_t (fun _ _ => 0) = some zL) (hH : f_X2_init_t (gw_SH zL) = some zH) : gw_M l yX2_init wsX2_init rm_X2_init 11 236 D (gw_ty cc) t1 t2 [.ref q] [(q, .inr (2, [.null, .null, .null, .null, .null, .null, .int 0, .int 0]))] (fun w => ∃ q1 q2 q3 q4 q5 q6 q7 q8 q9 q10 q11, w = gw_hw cc (gw_al 3 [q, q1, q2, q3, q4, q5, q6, q7, q8, q9, q10, q11]) b d zH) none := by
  refine gw_enter (cc := cX2_init) (maxL := 3) (ret := none) (own := RX2) rfl (by decide) rfl (Nat.le_of_ble_eq_true rfl) ?_
  intro p e s m below meth c A B hin hI ls hl
  have hl : lv_has ls 3 [(0, .ref q)] := hl
  have hin : meth.name = "<init>" := hin
  generalize ([.ref q] : List Value).toArray = args at B ⊢
  have hx := B.1.1
  have hb := B.1.2.1
  refine lv_aload_n hx hb dX2_init_0 rfl (lv_at hl 0 rfl) ?_
  refine gw_ainit B (by decide +kernel) (by decide +kernel) (by decide +kernel) hl.1 dX2_init_1 (Nat.le_of_ble_eq_true rfl) (Nat.le_of_ble_eq_true rfl) ?_
  refine lv_aload_n hx hb dX2_init_4 rfl (lv_at hl 0 rfl) ?_
  refine gw_new (ci := 7) (N := 2) (T := TX7) (fs := [.null, .null]) B hI rfl ly_X2_init_7 tyX7 tyX7_ok (by decide +kernel) (by decide +kernel) (by decide +kernel) (fun j hj => by rcases (show j = 0 ∨ j = 1 by omega) with rfl | rfl <;> rfl) (Nat.le_of_ble_eq_true rfl) (Nat.le_of_ble_eq_true rfl) dX2_init_5 (fun q1 H hI => ?_)
  have hI : gw_I D A s.heap ([(q, .inr (2, [.null, .null, .null, .null, .null, .null, .int 0, .int 0])), (q1, .inr (7, [.null, .null]))]) H _ := hI
  refine lv_dup hx hb dX2_init_8 rfl ?_
  refine gw_callIN (As := []) (n := 0) B (show gw_I D A s.heap ([(q, .inr (2, [.null, .null, .null, .null, .null, .null, .int 0, .int 0]))] ++ [(q1, .inr (7, [.null, .null]))]) H _ from hI) (k_X7_init q1 ) ggX2_init_X7_init rfl rfl rfl (by decide +kernel) n_RX2_X7_init (by decide +kernel) rfl nds_X7_init ⟨Nat.le_of_ble_eq_true rfl, Nat.le_of_ble_eq_true rfl⟩ rfl hl.1 (Nat.le_of_ble_eq_true rfl) dX2_init_9 ⟨Nat.le_of_ble_eq_true rfl, Nat.le_of_ble_eq_true rfl⟩ rfl (fun w' H locs hw hI => ?_)
  obtain ⟨q2, q3, rfl⟩ := hw
  have hI : gw_I D A s.heap ([(q, .inr (2, [.null, .null, .null, .null, .null, .null, .int 0, .int 0])), (q1, .inr (7, [.ref q2, .ref q3])), (q2, .inl (cc 0, 8, .inl (upd (upd (upd (upd (upd (upd (upd (upd (fun _ => 0) 0 (1 : Int32)) 1 (2 : Int32)) 2 (50 : Int32)) 3 (30 : Int32)) 4 (1 : Int32)) 5 (200 : Int32)) 6 (900 : Int32)) 7 (3 : Int32)))), (q3, .inl (cc 0, 8, .inl (fun _ => 0)))]) H _ := hI
  refine gw_putF (q0 := 0) (T := TX2) (k := 0) (w' := [(q, .inr (2, [.ref q1, .null, .null, .null, .null, .null, .int 0, .int 0])), (q1, .inr (7, [.ref q2, .ref q3])), (q2, .inl (cc 0, 8, .inl (upd (upd (upd (upd (upd (upd (upd (upd (fun _ => 0) 0 (1 : Int32)) 1 (2 : Int32)) 2 (50 : Int32)) 3 (30 : Int32)) 4 (1 : Int32)) 5 (200 : Int32)) 6 (900 : Int32)) 7 (3 : Int32)))), (q3, .inl (cc 0, 8, .inl (fun _ => 0)))]) B hin hI rfl rfl ly_X2_init_2 tyX2 tyX2_ok nmX2 (by decide) m_X2_init_12 rfl rfl rfl rfl (Nat.le_of_ble_eq_true rfl) rfl dX2_init_12 (fun H locs hI => ?_)
  refine lv_aload_n hx hb dX2_init_15 rfl (lv_at hl 0 rfl) ?_
  refine gw_new (ci := 3) (N := 5) (T := TX3) (fs := [.null, .null, .null, .int 0, .int 0]) B hI rfl ly_X2_init_3 tyX3 tyX3_ok (by decide +kernel) (by decide +kernel) (by decide +kernel) (fun j hj => by rcases (show j = 0 ∨ j = 1 ∨ j = 2 ∨ j = 3 ∨ j = 4 by omega) with rfl | rfl | rfl | rfl | rfl <;> rfl) (Nat.le_of_ble_eq_true rfl) (Nat.le_of_ble_eq_true rfl) dX2_init_16 (fun q4 H hI => ?_)
  have hI : gw_I D A s.heap ([(q, .inr (2, [.ref q1, .null, .null, .null, .null, .null, .int 0, .int 0])), (q1, .inr (7, [.ref q2, .ref q3])), (q2, .inl (cc 0, 8, .inl (upd (upd (upd (upd (upd (upd (upd (upd (fun _ => 0) 0 (1 : Int32)) 1 (2 : Int32)) 2 (50 : Int32)) 3 (30 : Int32)) 4 (1 : Int32)) 5 (200 : Int32)) 6 (900 : Int32)) 7 (3 : Int32)))), (q3, .inl (cc 0, 8, .inl (fun _ => 0))), (q4, .inr (3, [.null, .null, .null, .int 0, .int 0]))]) H _ := hI
  refine lv_dup hx hb dX2_init_19 rfl ?_
  refine gw_callI (As := []) (n := 0) B (show gw_I D A s.heap ([(q, .inr (2, [.ref q1, .null, .null, .null, .null, .null, .int 0, .int 0])), (q1, .inr (7, [.ref q2, .ref q3])), (q2, .inl (cc 0, 8, .inl (upd (upd (upd (upd (upd (upd (upd (upd (fun _ => 0) 0 (1 : Int32)) 1 (2 : Int32)) 2 (50 : Int32)) 3 (30 : Int32)) 4 (1 : Int32)) 5 (200 : Int32)) 6 (900 : Int32)) 7 (3 : Int32)))), (q3, .inl (cc 0, 8, .inl (fun _ => 0)))] ++ [(q4, .inr (3, [.null, .null, .null, .int 0, .int 0]))]) H _ from hI) (k_X3_init q4  hL) ggX2_init_X3_init rfl rfl rfl (by decide +kernel) (by decide +kernel) (by decide +kernel) rfl nds_X3_init ⟨Nat.le_of_ble_eq_true rfl, Nat.le_of_ble_eq_true rfl⟩ rfl hl.1 (Nat.le_of_ble_eq_true rfl) dX2_init_20 ⟨Nat.le_of_ble_eq_true rfl, Nat.le_of_ble_eq_true rfl⟩ rfl (fun w' H locs hw hI => ?_)
  obtain ⟨q5, q6, q7, rfl⟩ := hw
  have hI : gw_I D A s.heap ([(q, .inr (2, [.ref q1, .null, .null, .null, .null, .null, .int 0, .int 0])), (q1, .inr (7, [.ref q2, .ref q3])), (q2, .inl (cc 0, 8, .inl (upd (upd (upd (upd (upd (upd (upd (upd (fun _ => 0) 0 (1 : Int32)) 1 (2 : Int32)) 2 (50 : Int32)) 3 (30 : Int32)) 4 (1 : Int32)) 5 (200 : Int32)) 6 (900 : Int32)) 7 (3 : Int32)))), (q3, .inl (cc 0, 8, .inl (fun _ => 0))), (q4, .inr (3, [.ref q5, .ref q6, .ref q7, .int (zL 7 3), .int (zL 7 4)])), (q5, .inl (cc 0, 36, .inl (zL 8))), (q6, .inl (cc 0, 6, .inl (zL 9))), (q7, .inl (cc 0, 6, .inl (zL 10)))]) H _ := hI
  refine gw_putF (q0 := 0) (T := TX2) (k := 1) (w' := [(q, .inr (2, [.ref q1, .ref q4, .null, .null, .null, .null, .int 0, .int 0])), (q1, .inr (7, [.ref q2, .ref q3])), (q2, .inl (cc 0, 8, .inl (upd (upd (upd (upd (upd (upd (upd (upd (fun _ => 0) 0 (1 : Int32)) 1 (2 : Int32)) 2 (50 : Int32)) 3 (30 : Int32)) 4 (1 : Int32)) 5 (200 : Int32)) 6 (900 : Int32)) 7 (3 : Int32)))), (q3, .inl (cc 0, 8, .inl (fun _ => 0))), (q4, .inr (3, [.ref q5, .ref q6, .ref q7, .int (zL 7 3), .int (zL 7 4)])), (q5, .inl (cc 0, 36, .inl (zL 8))), (q6, .inl (cc 0, 6, .inl (zL 9))), (q7, .inl (cc 0, 6, .inl (zL 10)))]) B hin hI rfl rfl ly_X2_init_2 tyX2 tyX2_ok nmX2 (by decide) m_X2_init_21 rfl rfl rfl rfl (Nat.le_of_ble_eq_true rfl) rfl dX2_init_23 (fun H locs hI => ?_)
  refine lv_aload_n hx hb dX2_init_26 rfl (lv_at hl 0 rfl) ?_
  refine lv_bipush (v := 81) hx hb dX2_init_27 (by decide) ?_
  refine gw_newa (t0 := 0) (N := 81) (ty := .int) B hI rfl rfl rfl (by decide +kernel) (by decide) rfl (Nat.le_of_ble_eq_true rfl) (Nat.le_of_ble_eq_true rfl) (Nat.le_of_ble_eq_true rfl) dX2_init_29 (fun q8 H hI => ?_)
  have hI : gw_I D A s.heap ([(q, .inr (2, [.ref q1, .ref q4, .null, .null, .null, .null, .int 0, .int 0])), (q1, .inr (7, [.ref q2, .ref q3])), (q2, .inl (cc 0, 8, .inl (upd (upd (upd (upd (upd (upd (upd (upd (fun _ => 0) 0 (1 : Int32)) 1 (2 : Int32)) 2 (50 : Int32)) 3 (30 : Int32)) 4 (1 : Int32)) 5 (200 : Int32)) 6 (900 : Int32)) 7 (3 : Int32)))), (q3, .inl (cc 0, 8, .inl (fun _ => 0))), (q4, .inr (3, [.ref q5, .ref q6, .ref q7, .int (zL 7 3), .int (zL 7 4)])), (q5, .inl (cc 0, 36, .inl (zL 8))), (q6, .inl (cc 0, 6, .inl (zL 9))), (q7, .inl (cc 0, 6, .inl (zL 10))), (q8, .inl (cc 0, 81, .inl (fun _ => 0)))]) H _ := hI
  refine gw_putF (q0 := 0) (T := TX2) (k := 2) (w' := [(q, .inr (2, [.ref q1, .ref q4, .ref q8, .null, .null, .null, .int 0, .int 0])), (q1, .inr (7, [.ref q2, .ref q3])), (q2, .inl (cc 0, 8, .inl (upd (upd (upd (upd (upd (upd (upd (upd (fun _ => 0) 0 (1 : Int32)) 1 (2 : Int32)) 2 (50 : Int32)) 3 (30 : Int32)) 4 (1 : Int32)) 5 (200 : Int32)) 6 (900 : Int32)) 7 (3 : Int32)))), (q3, .inl (cc 0, 8, .inl (fun _ => 0))), (q4, .inr (3, [.ref q5, .ref q6, .ref q7, .int (zL 7 3), .int (zL 7 4)])), (q5, .inl (cc 0, 36, .inl (zL 8))), (q6, .inl (cc 0, 6, .inl (zL 9))), (q7, .inl (cc 0, 6, .inl (zL 10))), (q8, .inl (cc 0, 81, .inl (fun _ => 0)))]) B hin hI rfl rfl ly_X2_init_2 tyX2 tyX2_ok nmX2 (by decide) m_X2_init_25 rfl rfl rfl rfl (Nat.le_of_ble_eq_true rfl) rfl dX2_init_31 (fun H locs hI => ?_)
  refine lv_aload_n hx hb dX2_init_34 rfl (lv_at hl 0 rfl) ?_
  refine lv_bipush (v := 24) hx hb dX2_init_35 (by decide) ?_
  refine gw_newq (t0 := 3) (N := 24) b B hI rfl (by decide +kernel) (by decide +kernel) (by decide) rfl (Nat.le_of_ble_eq_true rfl) (Nat.le_of_ble_eq_true rfl) (Nat.le_of_ble_eq_true rfl) dX2_init_37 (fun q9 H hI => ?_)
  have hI : gw_I D A s.heap ([(q, .inr (2, [.ref q1, .ref q4, .ref q8, .null, .null, .null, .int 0, .int 0])), (q1, .inr (7, [.ref q2, .ref q3])), (q2, .inl (cc 0, 8, .inl (upd (upd (upd (upd (upd (upd (upd (upd (fun _ => 0) 0 (1 : Int32)) 1 (2 : Int32)) 2 (50 : Int32)) 3 (30 : Int32)) 4 (1 : Int32)) 5 (200 : Int32)) 6 (900 : Int32)) 7 (3 : Int32)))), (q3, .inl (cc 0, 8, .inl (fun _ => 0))), (q4, .inr (3, [.ref q5, .ref q6, .ref q7, .int (zL 7 3), .int (zL 7 4)])), (q5, .inl (cc 0, 36, .inl (zL 8))), (q6, .inl (cc 0, 6, .inl (zL 9))), (q7, .inl (cc 0, 6, .inl (zL 10))), (q8, .inl (cc 0, 81, .inl (fun _ => 0))), (q9, .inl (cc 3, 24, .inr (.inr (.inr (.inr (fun _ => gw_rf b (-1)))))))]) H _ := hI
  refine gw_putF (q0 := 0) (T := TX2) (k := 3) (w' := [(q, .inr (2, [.ref q1, .ref q4, .ref q8, .ref q9, .null, .null, .int 0, .int 0])), (q1, .inr (7, [.ref q2, .ref q3])), (q2, .inl (cc 0, 8, .inl (upd (upd (upd (upd (upd (upd (upd (upd (fun _ => 0) 0 (1 : Int32)) 1 (2 : Int32)) 2 (50 : Int32)) 3 (30 : Int32)) 4 (1 : Int32)) 5 (200 : Int32)) 6 (900 : Int32)) 7 (3 : Int32)))), (q3, .inl (cc 0, 8, .inl (fun _ => 0))), (q4, .inr (3, [.ref q5, .ref q6, .ref q7, .int (zL 7 3), .int (zL 7 4)])), (q5, .inl (cc 0, 36, .inl (zL 8))), (q6, .inl (cc 0, 6, .inl (zL 9))), (q7, .inl (cc 0, 6, .inl (zL 10))), (q8, .inl (cc 0, 81, .inl (fun _ => 0))), (q9, .inl (cc 3, 24, .inr (.inr (.inr (.inr (fun _ => gw_rf b (-1)))))))]) B hin hI rfl rfl ly_X2_init_2 tyX2 tyX2_ok nmX2 (by decide) m_X2_init_31 rfl rfl rfl rfl (Nat.le_of_ble_eq_true rfl) rfl dX2_init_40 (fun H locs hI => ?_)
  refine lv_aload_n hx hb dX2_init_43 rfl (lv_at hl 0 rfl) ?_
  refine lv_bipush (v := 30) hx hb dX2_init_44 (by decide) ?_
  refine gw_newq (t0 := 4) (N := 30) d B hI rfl (by decide +kernel) (by decide +kernel) (by decide) rfl (Nat.le_of_ble_eq_true rfl) (Nat.le_of_ble_eq_true rfl) (Nat.le_of_ble_eq_true rfl) dX2_init_46 (fun q10 H hI => ?_)
  have hI : gw_I D A s.heap ([(q, .inr (2, [.ref q1, .ref q4, .ref q8, .ref q9, .null, .null, .int 0, .int 0])), (q1, .inr (7, [.ref q2, .ref q3])), (q2, .inl (cc 0, 8, .inl (upd (upd (upd (upd (upd (upd (upd (upd (fun _ => 0) 0 (1 : Int32)) 1 (2 : Int32)) 2 (50 : Int32)) 3 (30 : Int32)) 4 (1 : Int32)) 5 (200 : Int32)) 6 (900 : Int32)) 7 (3 : Int32)))), (q3, .inl (cc 0, 8, .inl (fun _ => 0))), (q4, .inr (3, [.ref q5, .ref q6, .ref q7, .int (zL 7 3), .int (zL 7 4)])), (q5, .inl (cc 0, 36, .inl (zL 8))), (q6, .inl (cc 0, 6, .inl (zL 9))), (q7, .inl (cc 0, 6, .inl (zL 10))), (q8, .inl (cc 0, 81, .inl (fun _ => 0))), (q9, .inl (cc 3, 24, .inr (.inr (.inr (.inr (fun _ => gw_rf b (-1))))))), (q10, .inl (cc 4, 30, .inr (.inr (.inr (.inr (fun _ => gw_rf d (-1)))))))]) H _ := hI
  refine gw_putF (q0 := 0) (T := TX2) (k := 4) (w' := [(q, .inr (2, [.ref q1, .ref q4, .ref q8, .ref q9, .ref q10, .null, .int 0, .int 0])), (q1, .inr (7, [.ref q2, .ref q3])), (q2, .inl (cc 0, 8, .inl (upd (upd (upd (upd (upd (upd (upd (upd (fun _ => 0) 0 (1 : Int32)) 1 (2 : Int32)) 2 (50 : Int32)) 3 (30 : Int32)) 4 (1 : Int32)) 5 (200 : Int32)) 6 (900 : Int32)) 7 (3 : Int32)))), (q3, .inl (cc 0, 8, .inl (fun _ => 0))), (q4, .inr (3, [.ref q5, .ref q6, .ref q7, .int (zL 7 3), .int (zL 7 4)])), (q5, .inl (cc 0, 36, .inl (zL 8))), (q6, .inl (cc 0, 6, .inl (zL 9))), (q7, .inl (cc 0, 6, .inl (zL 10))), (q8, .inl (cc 0, 81, .inl (fun _ => 0))), (q9, .inl (cc 3, 24, .inr (.inr (.inr (.inr (fun _ => gw_rf b (-1))))))), (q10, .inl (cc 4, 30, .inr (.inr (.inr (.inr (fun _ => gw_rf d (-1)))))))]) B hin hI rfl rfl ly_X2_init_2 tyX2 tyX2_ok nmX2 (by decide) m_X2_init_37 rfl rfl rfl rfl (Nat.le_of_ble_eq_true rfl) rfl dX2_init_49 (fun H locs hI => ?_)
  refine lv_aload_n hx hb dX2_init_52 rfl (lv_at hl 0 rfl) ?_
  refine lv_bipush (v := 30) hx hb dX2_init_53 (by decide) ?_
  refine gw_newa (t0 := 2) (N := 30) (ty := .boolean) B hI rfl rfl rfl (by decide +kernel) (by decide) rfl (Nat.le_of_ble_eq_true rfl) (Nat.le_of_ble_eq_true rfl) (Nat.le_of_ble_eq_true rfl) dX2_init_55 (fun q11 H hI => ?_)
  have hI : gw_I D A s.heap ([(q, .inr (2, [.ref q1, .ref q4, .ref q8, .ref q9, .ref q10, .null, .int 0, .int 0])), (q1, .inr (7, [.ref q2, .ref q3])), (q2, .inl (cc 0, 8, .inl (upd (upd (upd (upd (upd (upd (upd (upd (fun _ => 0) 0 (1 : Int32)) 1 (2 : Int32)) 2 (50 : Int32)) 3 (30 : Int32)) 4 (1 : Int32)) 5 (200 : Int32)) 6 (900 : Int32)) 7 (3 : Int32)))), (q3, .inl (cc 0, 8, .inl (fun _ => 0))), (q4, .inr (3, [.ref q5, .ref q6, .ref q7, .int (zL 7 3), .int (zL 7 4)])), (q5, .inl (cc 0, 36, .inl (zL 8))), (q6, .inl (cc 0, 6, .inl (zL 9))), (q7, .inl (cc 0, 6, .inl (zL 10))), (q8, .inl (cc 0, 81, .inl (fun _ => 0))), (q9, .inl (cc 3, 24, .inr (.inr (.inr (.inr (fun _ => gw_rf b (-1))))))), (q10, .inl (cc 4, 30, .inr (.inr (.inr (.inr (fun _ => gw_rf d (-1))))))), (q11, .inl (cc 2, 30, .inl (fun _ => 0)))]) H _ := hI
  refine gw_putF (q0 := 0) (T := TX2) (k := 5) (w' := [(q, .inr (2, [.ref q1, .ref q4, .ref q8, .ref q9, .ref q10, .ref q11, .int 0, .int 0])), (q1, .inr (7, [.ref q2, .ref q3])), (q2, .inl (cc 0, 8, .inl (upd (upd (upd (upd (upd (upd (upd (upd (fun _ => 0) 0 (1 : Int32)) 1 (2 : Int32)) 2 (50 : Int32)) 3 (30 : Int32)) 4 (1 : Int32)) 5 (200 : Int32)) 6 (900 : Int32)) 7 (3 : Int32)))), (q3, .inl (cc 0, 8, .inl (fun _ => 0))), (q4, .inr (3, [.ref q5, .ref q6, .ref q7, .int (zL 7 3), .int (zL 7 4)])), (q5, .inl (cc 0, 36, .inl (zL 8))), (q6, .inl (cc 0, 6, .inl (zL 9))), (q7, .inl (cc 0, 6, .inl (zL 10))), (q8, .inl (cc 0, 81, .inl (fun _ => 0))), (q9, .inl (cc 3, 24, .inr (.inr (.inr (.inr (fun _ => gw_rf b (-1))))))), (q10, .inl (cc 4, 30, .inr (.inr (.inr (.inr (fun _ => gw_rf d (-1))))))), (q11, .inl (cc 2, 30, .inl (fun _ => 0)))]) B hin hI rfl rfl ly_X2_init_2 tyX2 tyX2_ok nmX2 (by decide) m_X2_init_41 rfl rfl rfl rfl (Nat.le_of_ble_eq_true rfl) rfl dX2_init_57 (fun H locs hI => ?_)
  have hI : gw_I D A s.heap (gw_hw cc (gw_al 3 [q, q1, q2, q3, q4, q5, q6, q7, q8, q9, q10, q11]) b d (gw_SH zL)) H _ := hI
  exact k_X2_init_t (a := (gw_al 3 [q, q1, q2, q3, q4, q5, q6, q7, q8, q9, q10, q11])) ⟨Nat.le_of_ble_eq_true rfl, Nat.le_of_ble_eq_true rfl⟩ (Nat.le_of_ble_eq_true rfl) (Nat.le_of_ble_eq_true rfl) (Nat.le_of_ble_eq_true rfl) (Nat.le_of_ble_eq_true rfl) B _ hH ⟨q1, q2, q3, q4, q5, q6, q7, q8, q9, q10, q11, rfl⟩ H _ ls hI hl
theorem m_X8_init_10 : Cond.fieldLink RX8 10 "GownLet" "tape" "LGownLet$Tape;" ∈ wsX8_init := by decide +kernel
theorem m_X8_init_19 : Cond.fieldLink RX8 19 "GownLet" "house" "LGownLet$House;" ∈ wsX8_init := by decide +kernel
theorem m_X8_init_28 : Cond.fieldLink RX8 28 "GownLet" "chain" "LGownLet$Chain;" ∈ wsX8_init := by decide +kernel
theorem m_X8_init_35 : Cond.fieldLink RX8 35 "GownLet" "sheets" "[LGownLet$Sheet;" ∈ wsX8_init := by decide +kernel
theorem ly_X8_init_1 : ∀ w ∈ wsX10, w ∈ wsX8_init := fun w h => List.mem_cons_of_mem _ (List.mem_append_left _ (List.mem_append_left _ (List.mem_append_left _ (List.mem_append_right _ h))))
theorem ly_X8_init_2 : ∀ w ∈ wsX20, w ∈ wsX8_init := fun w h => List.mem_cons_of_mem _ (List.mem_append_left _ (List.mem_append_left _ (List.mem_append_left _ (List.mem_append_left _ (List.mem_append_right _ h)))))
theorem ly_X8_init_5 : ∀ w ∈ wsX50, w ∈ wsX8_init := fun w h => List.mem_cons_of_mem _ (List.mem_append_left _ (List.mem_append_left _ (List.mem_append_right _ h)))
theorem ly_X8_init_6 : ∀ w ∈ wsX60, w ∈ wsX8_init := fun w h => List.mem_cons_of_mem _ (List.mem_append_left _ (List.mem_append_left _ (List.mem_append_left _ (List.mem_append_left _ (List.mem_append_left _ (List.mem_append_left _ (List.mem_append_right _ h)))))))
theorem ly_X8_init_8 : ∀ w ∈ wsX80, w ∈ wsX8_init := fun w h => List.mem_cons_of_mem _ (List.mem_append_left _ (List.mem_append_left _ (List.mem_append_left _ (List.mem_append_left _ (List.mem_append_left _ (List.mem_append_right _ h))))))
abbrev rm_X8_init : Room := { frames := 30, cells := 28, slots := 1234, locals := 1200 }
set_option maxRecDepth 100000 in
set_option maxHeartbeats 8000000 in
theorem k_X8_init (q : Nat)  {zL zH : gw_S} (hL : f_X3_init_t (fun _ _ => 0) = some zL) (hH : f_X2_init_t (gw_SH zL) = some zH) : gw_M l yX8_init wsX8_init rm_X8_init 28 1234 D (gw_ty cc) t1 t2 [.ref q] [(q, .inr (8, [.null, .null, .null, .null]))] (fun w => ∃ a : Nat → Nat, a 0 = q ∧ w = gw_cw cc a b d (gw_SG zH)) none := by
  refine gw_enter (cc := cX8_init) (maxL := 1) (ret := none) (own := RX8) rfl (by decide) rfl (Nat.le_of_ble_eq_true rfl) ?_
  intro p e s m below meth c A B hin hI ls hl
  have hl : lv_has ls 1 [(0, .ref q)] := hl
  have hin : meth.name = "<init>" := hin
  generalize ([.ref q] : List Value).toArray = args at B ⊢
  have hx := B.1.1
  have hb := B.1.2.1
  refine lv_aload_n hx hb dX8_init_0 rfl (lv_at hl 0 rfl) ?_
  refine gw_ainit B (by decide +kernel) (by decide +kernel) (by decide +kernel) hl.1 dX8_init_1 (Nat.le_of_ble_eq_true rfl) (Nat.le_of_ble_eq_true rfl) ?_
  refine lv_aload_n hx hb dX8_init_4 rfl (lv_at hl 0 rfl) ?_
  refine gw_new (ci := 6) (N := 2) (T := TX6) (fs := [.null, .int 0]) B hI rfl ly_X8_init_6 tyX6 tyX6_ok (by decide +kernel) (by decide +kernel) (by decide +kernel) (fun j hj => by rcases (show j = 0 ∨ j = 1 by omega) with rfl | rfl <;> rfl) (Nat.le_of_ble_eq_true rfl) (Nat.le_of_ble_eq_true rfl) dX8_init_5 (fun q1 H hI => ?_)
  have hI : gw_I D A s.heap ([(q, .inr (8, [.null, .null, .null, .null])), (q1, .inr (6, [.null, .int 0]))]) H _ := hI
  refine lv_dup hx hb dX8_init_8 rfl ?_
  refine gw_callIN (As := []) (n := 0) B (show gw_I D A s.heap ([(q, .inr (8, [.null, .null, .null, .null]))] ++ [(q1, .inr (6, [.null, .int 0]))]) H _ from hI) (k_X6_init q1 ) ggX8_init_X6_init rfl rfl rfl (by decide +kernel) n_RX8_X6_init (by decide +kernel) rfl nds_X6_init ⟨Nat.le_of_ble_eq_true rfl, Nat.le_of_ble_eq_true rfl⟩ rfl hl.1 (Nat.le_of_ble_eq_true rfl) dX8_init_9 ⟨Nat.le_of_ble_eq_true rfl, Nat.le_of_ble_eq_true rfl⟩ rfl (fun w' H locs hw hI => ?_)
  obtain ⟨q2, rfl⟩ := hw
  have hI : gw_I D A s.heap ([(q, .inr (8, [.null, .null, .null, .null])), (q1, .inr (6, [.ref q2, .int 0])), (q2, .inl (cc 1, 60, .inl (fun _ => 0)))]) H _ := hI
  refine gw_putF (q0 := 0) (T := TX8) (k := 0) (w' := [(q, .inr (8, [.ref q1, .null, .null, .null])), (q1, .inr (6, [.ref q2, .int 0])), (q2, .inl (cc 1, 60, .inl (fun _ => 0)))]) B hin hI rfl rfl ly_X8_init_8 tyX8 tyX8_ok nmX8 (by decide) m_X8_init_10 rfl rfl rfl rfl (Nat.le_of_ble_eq_true rfl) rfl dX8_init_12 (fun H locs hI => ?_)
  refine lv_aload_n hx hb dX8_init_15 rfl (lv_at hl 0 rfl) ?_
  refine gw_new (ci := 2) (N := 8) (T := TX2) (fs := [.null, .null, .null, .null, .null, .null, .int 0, .int 0]) B hI rfl ly_X8_init_2 tyX2 tyX2_ok (by decide +kernel) (by decide +kernel) (by decide +kernel) (fun j hj => by rcases (show j = 0 ∨ j = 1 ∨ j = 2 ∨ j = 3 ∨ j = 4 ∨ j = 5 ∨ j = 6 ∨ j = 7 by omega) with rfl | rfl | rfl | rfl | rfl | rfl | rfl | rfl <;> rfl) (Nat.le_of_ble_eq_true rfl) (Nat.le_of_ble_eq_true rfl) dX8_init_16 (fun q3 H hI => ?_)
  have hI : gw_I D A s.heap ([(q, .inr (8, [.ref q1, .null, .null, .null])), (q1, .inr (6, [.ref q2, .int 0])), (q2, .inl (cc 1, 60, .inl (fun _ => 0))), (q3, .inr (2, [.null, .null, .null, .null, .null, .null, .int 0, .int 0]))]) H _ := hI
  refine lv_dup hx hb dX8_init_19 rfl ?_
  refine gw_callI (As := []) (n := 0) B (show gw_I D A s.heap ([(q, .inr (8, [.ref q1, .null, .null, .null])), (q1, .inr (6, [.ref q2, .int 0])), (q2, .inl (cc 1, 60, .inl (fun _ => 0)))] ++ [(q3, .inr (2, [.null, .null, .null, .null, .null, .null, .int 0, .int 0]))]) H _ from hI) (k_X2_init q3  hL hH (b := b) (d := d)) ggX8_init_X2_init rfl rfl rfl (by decide +kernel) (by decide +kernel) (by decide +kernel) rfl nds_X2_init ⟨Nat.le_of_ble_eq_true rfl, Nat.le_of_ble_eq_true rfl⟩ rfl hl.1 (Nat.le_of_ble_eq_true rfl) dX8_init_20 ⟨Nat.le_of_ble_eq_true rfl, Nat.le_of_ble_eq_true rfl⟩ rfl (fun w' H locs hw hI => ?_)
  obtain ⟨q4, q5, q6, q7, q8, q9, q10, q11, q12, q13, q14, rfl⟩ := hw
  have hI : gw_I D A s.heap ([(q, .inr (8, [.ref q1, .null, .null, .null])), (q1, .inr (6, [.ref q2, .int 0])), (q2, .inl (cc 1, 60, .inl (fun _ => 0))), (q3, .inr (2, [.ref q4, .ref q7, .ref q11, .ref q12, .ref q13, .ref q14, .int (zH 3 6), .int (zH 3 7)])), (q4, .inr (7, [.ref q5, .ref q6])), (q5, .inl (cc 0, 8, .inl (zH 5))), (q6, .inl (cc 0, 8, .inl (zH 6))), (q7, .inr (3, [.ref q8, .ref q9, .ref q10, .int (zH 7 3), .int (zH 7 4)])), (q8, .inl (cc 0, 36, .inl (zH 8))), (q9, .inl (cc 0, 6, .inl (zH 9))), (q10, .inl (cc 0, 6, .inl (zH 10))), (q11, .inl (cc 0, 81, .inl (zH 11))), (q12, .inl (cc 3, 24, .inr (.inr (.inr (.inr (fun i => gw_rf b (zH 12 i))))))), (q13, .inl (cc 4, 30, .inr (.inr (.inr (.inr (fun i => gw_rf d (zH 13 i))))))), (q14, .inl (cc 2, 30, .inl (zH 14)))]) H _ := hI
  refine gw_putF (q0 := 0) (T := TX8) (k := 1) (w' := [(q, .inr (8, [.ref q1, .ref q3, .null, .null])), (q1, .inr (6, [.ref q2, .int 0])), (q2, .inl (cc 1, 60, .inl (fun _ => 0))), (q3, .inr (2, [.ref q4, .ref q7, .ref q11, .ref q12, .ref q13, .ref q14, .int (zH 3 6), .int (zH 3 7)])), (q4, .inr (7, [.ref q5, .ref q6])), (q5, .inl (cc 0, 8, .inl (zH 5))), (q6, .inl (cc 0, 8, .inl (zH 6))), (q7, .inr (3, [.ref q8, .ref q9, .ref q10, .int (zH 7 3), .int (zH 7 4)])), (q8, .inl (cc 0, 36, .inl (zH 8))), (q9, .inl (cc 0, 6, .inl (zH 9))), (q10, .inl (cc 0, 6, .inl (zH 10))), (q11, .inl (cc 0, 81, .inl (zH 11))), (q12, .inl (cc 3, 24, .inr (.inr (.inr (.inr (fun i => gw_rf b (zH 12 i))))))), (q13, .inl (cc 4, 30, .inr (.inr (.inr (.inr (fun i => gw_rf d (zH 13 i))))))), (q14, .inl (cc 2, 30, .inl (zH 14)))]) B hin hI rfl rfl ly_X8_init_8 tyX8 tyX8_ok nmX8 (by decide) m_X8_init_19 rfl rfl rfl rfl (Nat.le_of_ble_eq_true rfl) rfl dX8_init_23 (fun H locs hI => ?_)
  refine lv_aload_n hx hb dX8_init_26 rfl (lv_at hl 0 rfl) ?_
  refine gw_new (ci := 1) (N := 6) (T := TX1) (fs := [.null, .null, .null, .null, .null, .int 0]) B hI rfl ly_X8_init_1 tyX1 tyX1_ok (by decide +kernel) (by decide +kernel) (by decide +kernel) (fun j hj => by rcases (show j = 0 ∨ j = 1 ∨ j = 2 ∨ j = 3 ∨ j = 4 ∨ j = 5 by omega) with rfl | rfl | rfl | rfl | rfl | rfl <;> rfl) (Nat.le_of_ble_eq_true rfl) (Nat.le_of_ble_eq_true rfl) dX8_init_27 (fun q15 H hI => ?_)
  have hI : gw_I D A s.heap ([(q, .inr (8, [.ref q1, .ref q3, .null, .null])), (q1, .inr (6, [.ref q2, .int 0])), (q2, .inl (cc 1, 60, .inl (fun _ => 0))), (q3, .inr (2, [.ref q4, .ref q7, .ref q11, .ref q12, .ref q13, .ref q14, .int (zH 3 6), .int (zH 3 7)])), (q4, .inr (7, [.ref q5, .ref q6])), (q5, .inl (cc 0, 8, .inl (zH 5))), (q6, .inl (cc 0, 8, .inl (zH 6))), (q7, .inr (3, [.ref q8, .ref q9, .ref q10, .int (zH 7 3), .int (zH 7 4)])), (q8, .inl (cc 0, 36, .inl (zH 8))), (q9, .inl (cc 0, 6, .inl (zH 9))), (q10, .inl (cc 0, 6, .inl (zH 10))), (q11, .inl (cc 0, 81, .inl (zH 11))), (q12, .inl (cc 3, 24, .inr (.inr (.inr (.inr (fun i => gw_rf b (zH 12 i))))))), (q13, .inl (cc 4, 30, .inr (.inr (.inr (.inr (fun i => gw_rf d (zH 13 i))))))), (q14, .inl (cc 2, 30, .inl (zH 14))), (q15, .inr (1, [.null, .null, .null, .null, .null, .int 0]))]) H _ := hI
  refine lv_dup hx hb dX8_init_30 rfl ?_
  refine lv_aload_n hx hb dX8_init_31 rfl (lv_at hl 0 rfl) ?_
  refine gw_get (q0 := 0) (T := TX8) (k := 1) (v := .ref q3) B hI rfl rfl ly_X8_init_8 (by decide) m_X8_init_19 rfl rfl dX8_init_32 ?_
  refine gw_callI (As := [.ref q3]) (n := 1) B (show gw_I D A s.heap ([(q, .inr (8, [.ref q1, .ref q3, .null, .null])), (q1, .inr (6, [.ref q2, .int 0])), (q2, .inl (cc 1, 60, .inl (fun _ => 0))), (q3, .inr (2, [.ref q4, .ref q7, .ref q11, .ref q12, .ref q13, .ref q14, .int (zH 3 6), .int (zH 3 7)])), (q4, .inr (7, [.ref q5, .ref q6])), (q5, .inl (cc 0, 8, .inl (zH 5))), (q6, .inl (cc 0, 8, .inl (zH 6))), (q7, .inr (3, [.ref q8, .ref q9, .ref q10, .int (zH 7 3), .int (zH 7 4)])), (q8, .inl (cc 0, 36, .inl (zH 8))), (q9, .inl (cc 0, 6, .inl (zH 9))), (q10, .inl (cc 0, 6, .inl (zH 10))), (q11, .inl (cc 0, 81, .inl (zH 11))), (q12, .inl (cc 3, 24, .inr (.inr (.inr (.inr (fun i => gw_rf b (zH 12 i))))))), (q13, .inl (cc 4, 30, .inr (.inr (.inr (.inr (fun i => gw_rf d (zH 13 i))))))), (q14, .inl (cc 2, 30, .inl (zH 14)))] ++ [(q15, .inr (1, [.null, .null, .null, .null, .null, .int 0]))]) H _ from hI) (k_X1_init q15 q3) ggX8_init_X1_init rfl rfl rfl (by decide +kernel) (by decide +kernel) (by decide +kernel) rfl nds_X1_init ⟨Nat.le_of_ble_eq_true rfl, Nat.le_of_ble_eq_true rfl⟩ rfl hl.1 (Nat.le_of_ble_eq_true rfl) dX8_init_35 ⟨Nat.le_of_ble_eq_true rfl, Nat.le_of_ble_eq_true rfl⟩ rfl (fun w' H locs hw hI => ?_)
  obtain ⟨q16, q17, q18, q19, rfl⟩ := hw
  have hI : gw_I D A s.heap ([(q, .inr (8, [.ref q1, .ref q3, .null, .null])), (q1, .inr (6, [.ref q2, .int 0])), (q2, .inl (cc 1, 60, .inl (fun _ => 0))), (q3, .inr (2, [.ref q4, .ref q7, .ref q11, .ref q12, .ref q13, .ref q14, .int (zH 3 6), .int (zH 3 7)])), (q4, .inr (7, [.ref q5, .ref q6])), (q5, .inl (cc 0, 8, .inl (zH 5))), (q6, .inl (cc 0, 8, .inl (zH 6))), (q7, .inr (3, [.ref q8, .ref q9, .ref q10, .int (zH 7 3), .int (zH 7 4)])), (q8, .inl (cc 0, 36, .inl (zH 8))), (q9, .inl (cc 0, 6, .inl (zH 9))), (q10, .inl (cc 0, 6, .inl (zH 10))), (q11, .inl (cc 0, 81, .inl (zH 11))), (q12, .inl (cc 3, 24, .inr (.inr (.inr (.inr (fun i => gw_rf b (zH 12 i))))))), (q13, .inl (cc 4, 30, .inr (.inr (.inr (.inr (fun i => gw_rf d (zH 13 i))))))), (q14, .inl (cc 2, 30, .inl (zH 14))), (q15, .inr (1, [.ref q3, .ref q16, .ref q17, .ref q18, .ref q19, .int 0])), (q16, .inl (cc 0, 720, .inl (fun _ => 0))), (q17, .inl (cc 0, 30, .inl (fun _ => 0))), (q18, .inl (cc 0, 4, .inl (fun _ => 0))), (q19, .inl (cc 0, 4, .inl (fun _ => 0)))]) H _ := hI
  refine gw_putF (q0 := 0) (T := TX8) (k := 2) (w' := [(q, .inr (8, [.ref q1, .ref q3, .ref q15, .null])), (q1, .inr (6, [.ref q2, .int 0])), (q2, .inl (cc 1, 60, .inl (fun _ => 0))), (q3, .inr (2, [.ref q4, .ref q7, .ref q11, .ref q12, .ref q13, .ref q14, .int (zH 3 6), .int (zH 3 7)])), (q4, .inr (7, [.ref q5, .ref q6])), (q5, .inl (cc 0, 8, .inl (zH 5))), (q6, .inl (cc 0, 8, .inl (zH 6))), (q7, .inr (3, [.ref q8, .ref q9, .ref q10, .int (zH 7 3), .int (zH 7 4)])), (q8, .inl (cc 0, 36, .inl (zH 8))), (q9, .inl (cc 0, 6, .inl (zH 9))), (q10, .inl (cc 0, 6, .inl (zH 10))), (q11, .inl (cc 0, 81, .inl (zH 11))), (q12, .inl (cc 3, 24, .inr (.inr (.inr (.inr (fun i => gw_rf b (zH 12 i))))))), (q13, .inl (cc 4, 30, .inr (.inr (.inr (.inr (fun i => gw_rf d (zH 13 i))))))), (q14, .inl (cc 2, 30, .inl (zH 14))), (q15, .inr (1, [.ref q3, .ref q16, .ref q17, .ref q18, .ref q19, .int 0])), (q16, .inl (cc 0, 720, .inl (fun _ => 0))), (q17, .inl (cc 0, 30, .inl (fun _ => 0))), (q18, .inl (cc 0, 4, .inl (fun _ => 0))), (q19, .inl (cc 0, 4, .inl (fun _ => 0)))]) B hin hI rfl rfl ly_X8_init_8 tyX8 tyX8_ok nmX8 (by decide) m_X8_init_28 rfl rfl rfl rfl (Nat.le_of_ble_eq_true rfl) rfl dX8_init_38 (fun H locs hI => ?_)
  refine lv_aload_n hx hb dX8_init_41 rfl (lv_at hl 0 rfl) ?_
  refine lv_iconst (v := 4) hx hb dX8_init_42 (by decide) ?_
  refine gw_newq (t0 := 5) (N := 4) b B hI rfl (by decide +kernel) (by decide +kernel) (by decide) rfl (Nat.le_of_ble_eq_true rfl) (Nat.le_of_ble_eq_true rfl) (Nat.le_of_ble_eq_true rfl) dX8_init_43 (fun q20 H hI => ?_)
  have hI : gw_I D A s.heap ([(q, .inr (8, [.ref q1, .ref q3, .ref q15, .null])), (q1, .inr (6, [.ref q2, .int 0])), (q2, .inl (cc 1, 60, .inl (fun _ => 0))), (q3, .inr (2, [.ref q4, .ref q7, .ref q11, .ref q12, .ref q13, .ref q14, .int (zH 3 6), .int (zH 3 7)])), (q4, .inr (7, [.ref q5, .ref q6])), (q5, .inl (cc 0, 8, .inl (zH 5))), (q6, .inl (cc 0, 8, .inl (zH 6))), (q7, .inr (3, [.ref q8, .ref q9, .ref q10, .int (zH 7 3), .int (zH 7 4)])), (q8, .inl (cc 0, 36, .inl (zH 8))), (q9, .inl (cc 0, 6, .inl (zH 9))), (q10, .inl (cc 0, 6, .inl (zH 10))), (q11, .inl (cc 0, 81, .inl (zH 11))), (q12, .inl (cc 3, 24, .inr (.inr (.inr (.inr (fun i => gw_rf b (zH 12 i))))))), (q13, .inl (cc 4, 30, .inr (.inr (.inr (.inr (fun i => gw_rf d (zH 13 i))))))), (q14, .inl (cc 2, 30, .inl (zH 14))), (q15, .inr (1, [.ref q3, .ref q16, .ref q17, .ref q18, .ref q19, .int 0])), (q16, .inl (cc 0, 720, .inl (fun _ => 0))), (q17, .inl (cc 0, 30, .inl (fun _ => 0))), (q18, .inl (cc 0, 4, .inl (fun _ => 0))), (q19, .inl (cc 0, 4, .inl (fun _ => 0))), (q20, .inl (cc 5, 4, .inr (.inr (.inr (.inr (fun _ => gw_rf b (-1)))))))]) H _ := hI
  refine lv_dup hx hb dX8_init_46 rfl ?_
  refine lv_iconst (v := 0) hx hb dX8_init_47 (by decide) ?_
  refine gw_new (ci := 5) (N := 4) (T := TX5) (fs := [.null, .int 0, .int 0, .int 0]) B hI rfl ly_X8_init_5 tyX5 tyX5_ok (by decide +kernel) (by decide +kernel) (by decide +kernel) (fun j hj => by rcases (show j = 0 ∨ j = 1 ∨ j = 2 ∨ j = 3 by omega) with rfl | rfl | rfl | rfl <;> rfl) (Nat.le_of_ble_eq_true rfl) (Nat.le_of_ble_eq_true rfl) dX8_init_48 (fun q21 H hI => ?_)
  have hI : gw_I D A s.heap ([(q, .inr (8, [.ref q1, .ref q3, .ref q15, .null])), (q1, .inr (6, [.ref q2, .int 0])), (q2, .inl (cc 1, 60, .inl (fun _ => 0))), (q3, .inr (2, [.ref q4, .ref q7, .ref q11, .ref q12, .ref q13, .ref q14, .int (zH 3 6), .int (zH 3 7)])), (q4, .inr (7, [.ref q5, .ref q6])), (q5, .inl (cc 0, 8, .inl (zH 5))), (q6, .inl (cc 0, 8, .inl (zH 6))), (q7, .inr (3, [.ref q8, .ref q9, .ref q10, .int (zH 7 3), .int (zH 7 4)])), (q8, .inl (cc 0, 36, .inl (zH 8))), (q9, .inl (cc 0, 6, .inl (zH 9))), (q10, .inl (cc 0, 6, .inl (zH 10))), (q11, .inl (cc 0, 81, .inl (zH 11))), (q12, .inl (cc 3, 24, .inr (.inr (.inr (.inr (fun i => gw_rf b (zH 12 i))))))), (q13, .inl (cc 4, 30, .inr (.inr (.inr (.inr (fun i => gw_rf d (zH 13 i))))))), (q14, .inl (cc 2, 30, .inl (zH 14))), (q15, .inr (1, [.ref q3, .ref q16, .ref q17, .ref q18, .ref q19, .int 0])), (q16, .inl (cc 0, 720, .inl (fun _ => 0))), (q17, .inl (cc 0, 30, .inl (fun _ => 0))), (q18, .inl (cc 0, 4, .inl (fun _ => 0))), (q19, .inl (cc 0, 4, .inl (fun _ => 0))), (q20, .inl (cc 5, 4, .inr (.inr (.inr (.inr (fun _ => gw_rf b (-1))))))), (q21, .inr (5, [.null, .int 0, .int 0, .int 0]))]) H _ := hI
  refine lv_dup hx hb dX8_init_51 rfl ?_
  refine gw_callIN (As := []) (n := 0) B (show gw_I D A s.heap ([(q, .inr (8, [.ref q1, .ref q3, .ref q15, .null])), (q1, .inr (6, [.ref q2, .int 0])), (q2, .inl (cc 1, 60, .inl (fun _ => 0))), (q3, .inr (2, [.ref q4, .ref q7, .ref q11, .ref q12, .ref q13, .ref q14, .int (zH 3 6), .int (zH 3 7)])), (q4, .inr (7, [.ref q5, .ref q6])), (q5, .inl (cc 0, 8, .inl (zH 5))), (q6, .inl (cc 0, 8, .inl (zH 6))), (q7, .inr (3, [.ref q8, .ref q9, .ref q10, .int (zH 7 3), .int (zH 7 4)])), (q8, .inl (cc 0, 36, .inl (zH 8))), (q9, .inl (cc 0, 6, .inl (zH 9))), (q10, .inl (cc 0, 6, .inl (zH 10))), (q11, .inl (cc 0, 81, .inl (zH 11))), (q12, .inl (cc 3, 24, .inr (.inr (.inr (.inr (fun i => gw_rf b (zH 12 i))))))), (q13, .inl (cc 4, 30, .inr (.inr (.inr (.inr (fun i => gw_rf d (zH 13 i))))))), (q14, .inl (cc 2, 30, .inl (zH 14))), (q15, .inr (1, [.ref q3, .ref q16, .ref q17, .ref q18, .ref q19, .int 0])), (q16, .inl (cc 0, 720, .inl (fun _ => 0))), (q17, .inl (cc 0, 30, .inl (fun _ => 0))), (q18, .inl (cc 0, 4, .inl (fun _ => 0))), (q19, .inl (cc 0, 4, .inl (fun _ => 0))), (q20, .inl (cc 5, 4, .inr (.inr (.inr (.inr (fun _ => gw_rf b (-1)))))))] ++ [(q21, .inr (5, [.null, .int 0, .int 0, .int 0]))]) H _ from hI) (k_X5_init q21 ) ggX8_init_X5_init rfl rfl rfl (by decide +kernel) n_RX8_X5_init (by decide +kernel) rfl nds_X5_init ⟨Nat.le_of_ble_eq_true rfl, Nat.le_of_ble_eq_true rfl⟩ rfl hl.1 (Nat.le_of_ble_eq_true rfl) dX8_init_52 ⟨Nat.le_of_ble_eq_true rfl, Nat.le_of_ble_eq_true rfl⟩ rfl (fun w' H locs hw hI => ?_)
  obtain ⟨q22, rfl⟩ := hw
  have hI : gw_I D A s.heap ([(q, .inr (8, [.ref q1, .ref q3, .ref q15, .null])), (q1, .inr (6, [.ref q2, .int 0])), (q2, .inl (cc 1, 60, .inl (fun _ => 0))), (q3, .inr (2, [.ref q4, .ref q7, .ref q11, .ref q12, .ref q13, .ref q14, .int (zH 3 6), .int (zH 3 7)])), (q4, .inr (7, [.ref q5, .ref q6])), (q5, .inl (cc 0, 8, .inl (zH 5))), (q6, .inl (cc 0, 8, .inl (zH 6))), (q7, .inr (3, [.ref q8, .ref q9, .ref q10, .int (zH 7 3), .int (zH 7 4)])), (q8, .inl (cc 0, 36, .inl (zH 8))), (q9, .inl (cc 0, 6, .inl (zH 9))), (q10, .inl (cc 0, 6, .inl (zH 10))), (q11, .inl (cc 0, 81, .inl (zH 11))), (q12, .inl (cc 3, 24, .inr (.inr (.inr (.inr (fun i => gw_rf b (zH 12 i))))))), (q13, .inl (cc 4, 30, .inr (.inr (.inr (.inr (fun i => gw_rf d (zH 13 i))))))), (q14, .inl (cc 2, 30, .inl (zH 14))), (q15, .inr (1, [.ref q3, .ref q16, .ref q17, .ref q18, .ref q19, .int 0])), (q16, .inl (cc 0, 720, .inl (fun _ => 0))), (q17, .inl (cc 0, 30, .inl (fun _ => 0))), (q18, .inl (cc 0, 4, .inl (fun _ => 0))), (q19, .inl (cc 0, 4, .inl (fun _ => 0))), (q20, .inl (cc 5, 4, .inr (.inr (.inr (.inr (fun _ => gw_rf b (-1))))))), (q21, .inr (5, [.ref q22, .int 0, .int 0, .int 0])), (q22, .inl (cc 0, 36, .inl (fun _ => 0)))]) H _ := hI
  refine gw_aast (q0 := 20) (t0 := 5) (qk := 21) (r := (RX5, TX5, 4)) (w' := [(q, .inr (8, [.ref q1, .ref q3, .ref q15, .null])), (q1, .inr (6, [.ref q2, .int 0])), (q2, .inl (cc 1, 60, .inl (fun _ => 0))), (q3, .inr (2, [.ref q4, .ref q7, .ref q11, .ref q12, .ref q13, .ref q14, .int (zH 3 6), .int (zH 3 7)])), (q4, .inr (7, [.ref q5, .ref q6])), (q5, .inl (cc 0, 8, .inl (zH 5))), (q6, .inl (cc 0, 8, .inl (zH 6))), (q7, .inr (3, [.ref q8, .ref q9, .ref q10, .int (zH 7 3), .int (zH 7 4)])), (q8, .inl (cc 0, 36, .inl (zH 8))), (q9, .inl (cc 0, 6, .inl (zH 9))), (q10, .inl (cc 0, 6, .inl (zH 10))), (q11, .inl (cc 0, 81, .inl (zH 11))), (q12, .inl (cc 3, 24, .inr (.inr (.inr (.inr (fun i => gw_rf b (zH 12 i))))))), (q13, .inl (cc 4, 30, .inr (.inr (.inr (.inr (fun i => gw_rf d (zH 13 i))))))), (q14, .inl (cc 2, 30, .inl (zH 14))), (q15, .inr (1, [.ref q3, .ref q16, .ref q17, .ref q18, .ref q19, .int 0])), (q16, .inl (cc 0, 720, .inl (fun _ => 0))), (q17, .inl (cc 0, 30, .inl (fun _ => 0))), (q18, .inl (cc 0, 4, .inl (fun _ => 0))), (q19, .inl (cc 0, 4, .inl (fun _ => 0))), (q20, .inl (cc 5, 4, .inr (.inr (.inr (.inr (va_up (fun _ => gw_rf b (-1)) 0 (some q21))))))), (q21, .inr (5, [.ref q22, .int 0, .int 0, .int 0])), (q22, .inl (cc 0, 36, .inl (fun _ => 0)))]) B hI rfl rfl rfl rfl (by decide) rfl dX8_init_55 (fun H locs hI => ?_)
  refine lv_dup hx hb dX8_init_56 rfl ?_
  refine lv_iconst (v := 1) hx hb dX8_init_57 (by decide) ?_
  refine gw_new (ci := 5) (N := 4) (T := TX5) (fs := [.null, .int 0, .int 0, .int 0]) B hI rfl ly_X8_init_5 tyX5 tyX5_ok (by decide +kernel) (by decide +kernel) (by decide +kernel) (fun j hj => by rcases (show j = 0 ∨ j = 1 ∨ j = 2 ∨ j = 3 by omega) with rfl | rfl | rfl | rfl <;> rfl) (Nat.le_of_ble_eq_true rfl) (Nat.le_of_ble_eq_true rfl) dX8_init_58 (fun q23 H hI => ?_)
  have hI : gw_I D A s.heap ([(q, .inr (8, [.ref q1, .ref q3, .ref q15, .null])), (q1, .inr (6, [.ref q2, .int 0])), (q2, .inl (cc 1, 60, .inl (fun _ => 0))), (q3, .inr (2, [.ref q4, .ref q7, .ref q11, .ref q12, .ref q13, .ref q14, .int (zH 3 6), .int (zH 3 7)])), (q4, .inr (7, [.ref q5, .ref q6])), (q5, .inl (cc 0, 8, .inl (zH 5))), (q6, .inl (cc 0, 8, .inl (zH 6))), (q7, .inr (3, [.ref q8, .ref q9, .ref q10, .int (zH 7 3), .int (zH 7 4)])), (q8, .inl (cc 0, 36, .inl (zH 8))), (q9, .inl (cc 0, 6, .inl (zH 9))), (q10, .inl (cc 0, 6, .inl (zH 10))), (q11, .inl (cc 0, 81, .inl (zH 11))), (q12, .inl (cc 3, 24, .inr (.inr (.inr (.inr (fun i => gw_rf b (zH 12 i))))))), (q13, .inl (cc 4, 30, .inr (.inr (.inr (.inr (fun i => gw_rf d (zH 13 i))))))), (q14, .inl (cc 2, 30, .inl (zH 14))), (q15, .inr (1, [.ref q3, .ref q16, .ref q17, .ref q18, .ref q19, .int 0])), (q16, .inl (cc 0, 720, .inl (fun _ => 0))), (q17, .inl (cc 0, 30, .inl (fun _ => 0))), (q18, .inl (cc 0, 4, .inl (fun _ => 0))), (q19, .inl (cc 0, 4, .inl (fun _ => 0))), (q20, .inl (cc 5, 4, .inr (.inr (.inr (.inr (va_up (fun _ => gw_rf b (-1)) 0 (some q21))))))), (q21, .inr (5, [.ref q22, .int 0, .int 0, .int 0])), (q22, .inl (cc 0, 36, .inl (fun _ => 0))), (q23, .inr (5, [.null, .int 0, .int 0, .int 0]))]) H _ := hI
  refine lv_dup hx hb dX8_init_61 rfl ?_
  refine gw_callIN (As := []) (n := 0) B (show gw_I D A s.heap ([(q, .inr (8, [.ref q1, .ref q3, .ref q15, .null])), (q1, .inr (6, [.ref q2, .int 0])), (q2, .inl (cc 1, 60, .inl (fun _ => 0))), (q3, .inr (2, [.ref q4, .ref q7, .ref q11, .ref q12, .ref q13, .ref q14, .int (zH 3 6), .int (zH 3 7)])), (q4, .inr (7, [.ref q5, .ref q6])), (q5, .inl (cc 0, 8, .inl (zH 5))), (q6, .inl (cc 0, 8, .inl (zH 6))), (q7, .inr (3, [.ref q8, .ref q9, .ref q10, .int (zH 7 3), .int (zH 7 4)])), (q8, .inl (cc 0, 36, .inl (zH 8))), (q9, .inl (cc 0, 6, .inl (zH 9))), (q10, .inl (cc 0, 6, .inl (zH 10))), (q11, .inl (cc 0, 81, .inl (zH 11))), (q12, .inl (cc 3, 24, .inr (.inr (.inr (.inr (fun i => gw_rf b (zH 12 i))))))), (q13, .inl (cc 4, 30, .inr (.inr (.inr (.inr (fun i => gw_rf d (zH 13 i))))))), (q14, .inl (cc 2, 30, .inl (zH 14))), (q15, .inr (1, [.ref q3, .ref q16, .ref q17, .ref q18, .ref q19, .int 0])), (q16, .inl (cc 0, 720, .inl (fun _ => 0))), (q17, .inl (cc 0, 30, .inl (fun _ => 0))), (q18, .inl (cc 0, 4, .inl (fun _ => 0))), (q19, .inl (cc 0, 4, .inl (fun _ => 0))), (q20, .inl (cc 5, 4, .inr (.inr (.inr (.inr (va_up (fun _ => gw_rf b (-1)) 0 (some q21))))))), (q21, .inr (5, [.ref q22, .int 0, .int 0, .int 0])), (q22, .inl (cc 0, 36, .inl (fun _ => 0)))] ++ [(q23, .inr (5, [.null, .int 0, .int 0, .int 0]))]) H _ from hI) (k_X5_init q23 ) ggX8_init_X5_init rfl rfl rfl (by decide +kernel) n_RX8_X5_init (by decide +kernel) rfl nds_X5_init ⟨Nat.le_of_ble_eq_true rfl, Nat.le_of_ble_eq_true rfl⟩ rfl hl.1 (Nat.le_of_ble_eq_true rfl) dX8_init_62 ⟨Nat.le_of_ble_eq_true rfl, Nat.le_of_ble_eq_true rfl⟩ rfl (fun w' H locs hw hI => ?_)
  obtain ⟨q24, rfl⟩ := hw
  have hI : gw_I D A s.heap ([(q, .inr (8, [.ref q1, .ref q3, .ref q15, .null])), (q1, .inr (6, [.ref q2, .int 0])), (q2, .inl (cc 1, 60, .inl (fun _ => 0))), (q3, .inr (2, [.ref q4, .ref q7, .ref q11, .ref q12, .ref q13, .ref q14, .int (zH 3 6), .int (zH 3 7)])), (q4, .inr (7, [.ref q5, .ref q6])), (q5, .inl (cc 0, 8, .inl (zH 5))), (q6, .inl (cc 0, 8, .inl (zH 6))), (q7, .inr (3, [.ref q8, .ref q9, .ref q10, .int (zH 7 3), .int (zH 7 4)])), (q8, .inl (cc 0, 36, .inl (zH 8))), (q9, .inl (cc 0, 6, .inl (zH 9))), (q10, .inl (cc 0, 6, .inl (zH 10))), (q11, .inl (cc 0, 81, .inl (zH 11))), (q12, .inl (cc 3, 24, .inr (.inr (.inr (.inr (fun i => gw_rf b (zH 12 i))))))), (q13, .inl (cc 4, 30, .inr (.inr (.inr (.inr (fun i => gw_rf d (zH 13 i))))))), (q14, .inl (cc 2, 30, .inl (zH 14))), (q15, .inr (1, [.ref q3, .ref q16, .ref q17, .ref q18, .ref q19, .int 0])), (q16, .inl (cc 0, 720, .inl (fun _ => 0))), (q17, .inl (cc 0, 30, .inl (fun _ => 0))), (q18, .inl (cc 0, 4, .inl (fun _ => 0))), (q19, .inl (cc 0, 4, .inl (fun _ => 0))), (q20, .inl (cc 5, 4, .inr (.inr (.inr (.inr (va_up (fun _ => gw_rf b (-1)) 0 (some q21))))))), (q21, .inr (5, [.ref q22, .int 0, .int 0, .int 0])), (q22, .inl (cc 0, 36, .inl (fun _ => 0))), (q23, .inr (5, [.ref q24, .int 0, .int 0, .int 0])), (q24, .inl (cc 0, 36, .inl (fun _ => 0)))]) H _ := hI
  refine gw_aast (q0 := 20) (t0 := 5) (qk := 23) (r := (RX5, TX5, 4)) (w' := [(q, .inr (8, [.ref q1, .ref q3, .ref q15, .null])), (q1, .inr (6, [.ref q2, .int 0])), (q2, .inl (cc 1, 60, .inl (fun _ => 0))), (q3, .inr (2, [.ref q4, .ref q7, .ref q11, .ref q12, .ref q13, .ref q14, .int (zH 3 6), .int (zH 3 7)])), (q4, .inr (7, [.ref q5, .ref q6])), (q5, .inl (cc 0, 8, .inl (zH 5))), (q6, .inl (cc 0, 8, .inl (zH 6))), (q7, .inr (3, [.ref q8, .ref q9, .ref q10, .int (zH 7 3), .int (zH 7 4)])), (q8, .inl (cc 0, 36, .inl (zH 8))), (q9, .inl (cc 0, 6, .inl (zH 9))), (q10, .inl (cc 0, 6, .inl (zH 10))), (q11, .inl (cc 0, 81, .inl (zH 11))), (q12, .inl (cc 3, 24, .inr (.inr (.inr (.inr (fun i => gw_rf b (zH 12 i))))))), (q13, .inl (cc 4, 30, .inr (.inr (.inr (.inr (fun i => gw_rf d (zH 13 i))))))), (q14, .inl (cc 2, 30, .inl (zH 14))), (q15, .inr (1, [.ref q3, .ref q16, .ref q17, .ref q18, .ref q19, .int 0])), (q16, .inl (cc 0, 720, .inl (fun _ => 0))), (q17, .inl (cc 0, 30, .inl (fun _ => 0))), (q18, .inl (cc 0, 4, .inl (fun _ => 0))), (q19, .inl (cc 0, 4, .inl (fun _ => 0))), (q20, .inl (cc 5, 4, .inr (.inr (.inr (.inr (va_up (va_up (fun _ => gw_rf b (-1)) 0 (some q21)) 1 (some q23))))))), (q21, .inr (5, [.ref q22, .int 0, .int 0, .int 0])), (q22, .inl (cc 0, 36, .inl (fun _ => 0))), (q23, .inr (5, [.ref q24, .int 0, .int 0, .int 0])), (q24, .inl (cc 0, 36, .inl (fun _ => 0)))]) B hI rfl rfl rfl rfl (by decide) rfl dX8_init_65 (fun H locs hI => ?_)
  refine lv_dup hx hb dX8_init_66 rfl ?_
  refine lv_iconst (v := 2) hx hb dX8_init_67 (by decide) ?_
  refine gw_new (ci := 5) (N := 4) (T := TX5) (fs := [.null, .int 0, .int 0, .int 0]) B hI rfl ly_X8_init_5 tyX5 tyX5_ok (by decide +kernel) (by decide +kernel) (by decide +kernel) (fun j hj => by rcases (show j = 0 ∨ j = 1 ∨ j = 2 ∨ j = 3 by omega) with rfl | rfl | rfl | rfl <;> rfl) (Nat.le_of_ble_eq_true rfl) (Nat.le_of_ble_eq_true rfl) dX8_init_68 (fun q25 H hI => ?_)
  have hI : gw_I D A s.heap ([(q, .inr (8, [.ref q1, .ref q3, .ref q15, .null])), (q1, .inr (6, [.ref q2, .int 0])), (q2, .inl (cc 1, 60, .inl (fun _ => 0))), (q3, .inr (2, [.ref q4, .ref q7, .ref q11, .ref q12, .ref q13, .ref q14, .int (zH 3 6), .int (zH 3 7)])), (q4, .inr (7, [.ref q5, .ref q6])), (q5, .inl (cc 0, 8, .inl (zH 5))), (q6, .inl (cc 0, 8, .inl (zH 6))), (q7, .inr (3, [.ref q8, .ref q9, .ref q10, .int (zH 7 3), .int (zH 7 4)])), (q8, .inl (cc 0, 36, .inl (zH 8))), (q9, .inl (cc 0, 6, .inl (zH 9))), (q10, .inl (cc 0, 6, .inl (zH 10))), (q11, .inl (cc 0, 81, .inl (zH 11))), (q12, .inl (cc 3, 24, .inr (.inr (.inr (.inr (fun i => gw_rf b (zH 12 i))))))), (q13, .inl (cc 4, 30, .inr (.inr (.inr (.inr (fun i => gw_rf d (zH 13 i))))))), (q14, .inl (cc 2, 30, .inl (zH 14))), (q15, .inr (1, [.ref q3, .ref q16, .ref q17, .ref q18, .ref q19, .int 0])), (q16, .inl (cc 0, 720, .inl (fun _ => 0))), (q17, .inl (cc 0, 30, .inl (fun _ => 0))), (q18, .inl (cc 0, 4, .inl (fun _ => 0))), (q19, .inl (cc 0, 4, .inl (fun _ => 0))), (q20, .inl (cc 5, 4, .inr (.inr (.inr (.inr (va_up (va_up (fun _ => gw_rf b (-1)) 0 (some q21)) 1 (some q23))))))), (q21, .inr (5, [.ref q22, .int 0, .int 0, .int 0])), (q22, .inl (cc 0, 36, .inl (fun _ => 0))), (q23, .inr (5, [.ref q24, .int 0, .int 0, .int 0])), (q24, .inl (cc 0, 36, .inl (fun _ => 0))), (q25, .inr (5, [.null, .int 0, .int 0, .int 0]))]) H _ := hI
  refine lv_dup hx hb dX8_init_71 rfl ?_
  refine gw_callIN (As := []) (n := 0) B (show gw_I D A s.heap ([(q, .inr (8, [.ref q1, .ref q3, .ref q15, .null])), (q1, .inr (6, [.ref q2, .int 0])), (q2, .inl (cc 1, 60, .inl (fun _ => 0))), (q3, .inr (2, [.ref q4, .ref q7, .ref q11, .ref q12, .ref q13, .ref q14, .int (zH 3 6), .int (zH 3 7)])), (q4, .inr (7, [.ref q5, .ref q6])), (q5, .inl (cc 0, 8, .inl (zH 5))), (q6, .inl (cc 0, 8, .inl (zH 6))), (q7, .inr (3, [.ref q8, .ref q9, .ref q10, .int (zH 7 3), .int (zH 7 4)])), (q8, .inl (cc 0, 36, .inl (zH 8))), (q9, .inl (cc 0, 6, .inl (zH 9))), (q10, .inl (cc 0, 6, .inl (zH 10))), (q11, .inl (cc 0, 81, .inl (zH 11))), (q12, .inl (cc 3, 24, .inr (.inr (.inr (.inr (fun i => gw_rf b (zH 12 i))))))), (q13, .inl (cc 4, 30, .inr (.inr (.inr (.inr (fun i => gw_rf d (zH 13 i))))))), (q14, .inl (cc 2, 30, .inl (zH 14))), (q15, .inr (1, [.ref q3, .ref q16, .ref q17, .ref q18, .ref q19, .int 0])), (q16, .inl (cc 0, 720, .inl (fun _ => 0))), (q17, .inl (cc 0, 30, .inl (fun _ => 0))), (q18, .inl (cc 0, 4, .inl (fun _ => 0))), (q19, .inl (cc 0, 4, .inl (fun _ => 0))), (q20, .inl (cc 5, 4, .inr (.inr (.inr (.inr (va_up (va_up (fun _ => gw_rf b (-1)) 0 (some q21)) 1 (some q23))))))), (q21, .inr (5, [.ref q22, .int 0, .int 0, .int 0])), (q22, .inl (cc 0, 36, .inl (fun _ => 0))), (q23, .inr (5, [.ref q24, .int 0, .int 0, .int 0])), (q24, .inl (cc 0, 36, .inl (fun _ => 0)))] ++ [(q25, .inr (5, [.null, .int 0, .int 0, .int 0]))]) H _ from hI) (k_X5_init q25 ) ggX8_init_X5_init rfl rfl rfl (by decide +kernel) n_RX8_X5_init (by decide +kernel) rfl nds_X5_init ⟨Nat.le_of_ble_eq_true rfl, Nat.le_of_ble_eq_true rfl⟩ rfl hl.1 (Nat.le_of_ble_eq_true rfl) dX8_init_72 ⟨Nat.le_of_ble_eq_true rfl, Nat.le_of_ble_eq_true rfl⟩ rfl (fun w' H locs hw hI => ?_)
  obtain ⟨q26, rfl⟩ := hw
  have hI : gw_I D A s.heap ([(q, .inr (8, [.ref q1, .ref q3, .ref q15, .null])), (q1, .inr (6, [.ref q2, .int 0])), (q2, .inl (cc 1, 60, .inl (fun _ => 0))), (q3, .inr (2, [.ref q4, .ref q7, .ref q11, .ref q12, .ref q13, .ref q14, .int (zH 3 6), .int (zH 3 7)])), (q4, .inr (7, [.ref q5, .ref q6])), (q5, .inl (cc 0, 8, .inl (zH 5))), (q6, .inl (cc 0, 8, .inl (zH 6))), (q7, .inr (3, [.ref q8, .ref q9, .ref q10, .int (zH 7 3), .int (zH 7 4)])), (q8, .inl (cc 0, 36, .inl (zH 8))), (q9, .inl (cc 0, 6, .inl (zH 9))), (q10, .inl (cc 0, 6, .inl (zH 10))), (q11, .inl (cc 0, 81, .inl (zH 11))), (q12, .inl (cc 3, 24, .inr (.inr (.inr (.inr (fun i => gw_rf b (zH 12 i))))))), (q13, .inl (cc 4, 30, .inr (.inr (.inr (.inr (fun i => gw_rf d (zH 13 i))))))), (q14, .inl (cc 2, 30, .inl (zH 14))), (q15, .inr (1, [.ref q3, .ref q16, .ref q17, .ref q18, .ref q19, .int 0])), (q16, .inl (cc 0, 720, .inl (fun _ => 0))), (q17, .inl (cc 0, 30, .inl (fun _ => 0))), (q18, .inl (cc 0, 4, .inl (fun _ => 0))), (q19, .inl (cc 0, 4, .inl (fun _ => 0))), (q20, .inl (cc 5, 4, .inr (.inr (.inr (.inr (va_up (va_up (fun _ => gw_rf b (-1)) 0 (some q21)) 1 (some q23))))))), (q21, .inr (5, [.ref q22, .int 0, .int 0, .int 0])), (q22, .inl (cc 0, 36, .inl (fun _ => 0))), (q23, .inr (5, [.ref q24, .int 0, .int 0, .int 0])), (q24, .inl (cc 0, 36, .inl (fun _ => 0))), (q25, .inr (5, [.ref q26, .int 0, .int 0, .int 0])), (q26, .inl (cc 0, 36, .inl (fun _ => 0)))]) H _ := hI
  refine gw_aast (q0 := 20) (t0 := 5) (qk := 25) (r := (RX5, TX5, 4)) (w' := [(q, .inr (8, [.ref q1, .ref q3, .ref q15, .null])), (q1, .inr (6, [.ref q2, .int 0])), (q2, .inl (cc 1, 60, .inl (fun _ => 0))), (q3, .inr (2, [.ref q4, .ref q7, .ref q11, .ref q12, .ref q13, .ref q14, .int (zH 3 6), .int (zH 3 7)])), (q4, .inr (7, [.ref q5, .ref q6])), (q5, .inl (cc 0, 8, .inl (zH 5))), (q6, .inl (cc 0, 8, .inl (zH 6))), (q7, .inr (3, [.ref q8, .ref q9, .ref q10, .int (zH 7 3), .int (zH 7 4)])), (q8, .inl (cc 0, 36, .inl (zH 8))), (q9, .inl (cc 0, 6, .inl (zH 9))), (q10, .inl (cc 0, 6, .inl (zH 10))), (q11, .inl (cc 0, 81, .inl (zH 11))), (q12, .inl (cc 3, 24, .inr (.inr (.inr (.inr (fun i => gw_rf b (zH 12 i))))))), (q13, .inl (cc 4, 30, .inr (.inr (.inr (.inr (fun i => gw_rf d (zH 13 i))))))), (q14, .inl (cc 2, 30, .inl (zH 14))), (q15, .inr (1, [.ref q3, .ref q16, .ref q17, .ref q18, .ref q19, .int 0])), (q16, .inl (cc 0, 720, .inl (fun _ => 0))), (q17, .inl (cc 0, 30, .inl (fun _ => 0))), (q18, .inl (cc 0, 4, .inl (fun _ => 0))), (q19, .inl (cc 0, 4, .inl (fun _ => 0))), (q20, .inl (cc 5, 4, .inr (.inr (.inr (.inr (va_up (va_up (va_up (fun _ => gw_rf b (-1)) 0 (some q21)) 1 (some q23)) 2 (some q25))))))), (q21, .inr (5, [.ref q22, .int 0, .int 0, .int 0])), (q22, .inl (cc 0, 36, .inl (fun _ => 0))), (q23, .inr (5, [.ref q24, .int 0, .int 0, .int 0])), (q24, .inl (cc 0, 36, .inl (fun _ => 0))), (q25, .inr (5, [.ref q26, .int 0, .int 0, .int 0])), (q26, .inl (cc 0, 36, .inl (fun _ => 0)))]) B hI rfl rfl rfl rfl (by decide) rfl dX8_init_75 (fun H locs hI => ?_)
  refine lv_dup hx hb dX8_init_76 rfl ?_
  refine lv_iconst (v := 3) hx hb dX8_init_77 (by decide) ?_
  refine gw_new (ci := 5) (N := 4) (T := TX5) (fs := [.null, .int 0, .int 0, .int 0]) B hI rfl ly_X8_init_5 tyX5 tyX5_ok (by decide +kernel) (by decide +kernel) (by decide +kernel) (fun j hj => by rcases (show j = 0 ∨ j = 1 ∨ j = 2 ∨ j = 3 by omega) with rfl | rfl | rfl | rfl <;> rfl) (Nat.le_of_ble_eq_true rfl) (Nat.le_of_ble_eq_true rfl) dX8_init_78 (fun q27 H hI => ?_)
  have hI : gw_I D A s.heap ([(q, .inr (8, [.ref q1, .ref q3, .ref q15, .null])), (q1, .inr (6, [.ref q2, .int 0])), (q2, .inl (cc 1, 60, .inl (fun _ => 0))), (q3, .inr (2, [.ref q4, .ref q7, .ref q11, .ref q12, .ref q13, .ref q14, .int (zH 3 6), .int (zH 3 7)])), (q4, .inr (7, [.ref q5, .ref q6])), (q5, .inl (cc 0, 8, .inl (zH 5))), (q6, .inl (cc 0, 8, .inl (zH 6))), (q7, .inr (3, [.ref q8, .ref q9, .ref q10, .int (zH 7 3), .int (zH 7 4)])), (q8, .inl (cc 0, 36, .inl (zH 8))), (q9, .inl (cc 0, 6, .inl (zH 9))), (q10, .inl (cc 0, 6, .inl (zH 10))), (q11, .inl (cc 0, 81, .inl (zH 11))), (q12, .inl (cc 3, 24, .inr (.inr (.inr (.inr (fun i => gw_rf b (zH 12 i))))))), (q13, .inl (cc 4, 30, .inr (.inr (.inr (.inr (fun i => gw_rf d (zH 13 i))))))), (q14, .inl (cc 2, 30, .inl (zH 14))), (q15, .inr (1, [.ref q3, .ref q16, .ref q17, .ref q18, .ref q19, .int 0])), (q16, .inl (cc 0, 720, .inl (fun _ => 0))), (q17, .inl (cc 0, 30, .inl (fun _ => 0))), (q18, .inl (cc 0, 4, .inl (fun _ => 0))), (q19, .inl (cc 0, 4, .inl (fun _ => 0))), (q20, .inl (cc 5, 4, .inr (.inr (.inr (.inr (va_up (va_up (va_up (fun _ => gw_rf b (-1)) 0 (some q21)) 1 (some q23)) 2 (some q25))))))), (q21, .inr (5, [.ref q22, .int 0, .int 0, .int 0])), (q22, .inl (cc 0, 36, .inl (fun _ => 0))), (q23, .inr (5, [.ref q24, .int 0, .int 0, .int 0])), (q24, .inl (cc 0, 36, .inl (fun _ => 0))), (q25, .inr (5, [.ref q26, .int 0, .int 0, .int 0])), (q26, .inl (cc 0, 36, .inl (fun _ => 0))), (q27, .inr (5, [.null, .int 0, .int 0, .int 0]))]) H _ := hI
  refine lv_dup hx hb dX8_init_81 rfl ?_
  refine gw_callIN (As := []) (n := 0) B (show gw_I D A s.heap ([(q, .inr (8, [.ref q1, .ref q3, .ref q15, .null])), (q1, .inr (6, [.ref q2, .int 0])), (q2, .inl (cc 1, 60, .inl (fun _ => 0))), (q3, .inr (2, [.ref q4, .ref q7, .ref q11, .ref q12, .ref q13, .ref q14, .int (zH 3 6), .int (zH 3 7)])), (q4, .inr (7, [.ref q5, .ref q6])), (q5, .inl (cc 0, 8, .inl (zH 5))), (q6, .inl (cc 0, 8, .inl (zH 6))), (q7, .inr (3, [.ref q8, .ref q9, .ref q10, .int (zH 7 3), .int (zH 7 4)])), (q8, .inl (cc 0, 36, .inl (zH 8))), (q9, .inl (cc 0, 6, .inl (zH 9))), (q10, .inl (cc 0, 6, .inl (zH 10))), (q11, .inl (cc 0, 81, .inl (zH 11))), (q12, .inl (cc 3, 24, .inr (.inr (.inr (.inr (fun i => gw_rf b (zH 12 i))))))), (q13, .inl (cc 4, 30, .inr (.inr (.inr (.inr (fun i => gw_rf d (zH 13 i))))))), (q14, .inl (cc 2, 30, .inl (zH 14))), (q15, .inr (1, [.ref q3, .ref q16, .ref q17, .ref q18, .ref q19, .int 0])), (q16, .inl (cc 0, 720, .inl (fun _ => 0))), (q17, .inl (cc 0, 30, .inl (fun _ => 0))), (q18, .inl (cc 0, 4, .inl (fun _ => 0))), (q19, .inl (cc 0, 4, .inl (fun _ => 0))), (q20, .inl (cc 5, 4, .inr (.inr (.inr (.inr (va_up (va_up (va_up (fun _ => gw_rf b (-1)) 0 (some q21)) 1 (some q23)) 2 (some q25))))))), (q21, .inr (5, [.ref q22, .int 0, .int 0, .int 0])), (q22, .inl (cc 0, 36, .inl (fun _ => 0))), (q23, .inr (5, [.ref q24, .int 0, .int 0, .int 0])), (q24, .inl (cc 0, 36, .inl (fun _ => 0))), (q25, .inr (5, [.ref q26, .int 0, .int 0, .int 0])), (q26, .inl (cc 0, 36, .inl (fun _ => 0)))] ++ [(q27, .inr (5, [.null, .int 0, .int 0, .int 0]))]) H _ from hI) (k_X5_init q27 ) ggX8_init_X5_init rfl rfl rfl (by decide +kernel) n_RX8_X5_init (by decide +kernel) rfl nds_X5_init ⟨Nat.le_of_ble_eq_true rfl, Nat.le_of_ble_eq_true rfl⟩ rfl hl.1 (Nat.le_of_ble_eq_true rfl) dX8_init_82 ⟨Nat.le_of_ble_eq_true rfl, Nat.le_of_ble_eq_true rfl⟩ rfl (fun w' H locs hw hI => ?_)
  obtain ⟨q28, rfl⟩ := hw
  have hI : gw_I D A s.heap ([(q, .inr (8, [.ref q1, .ref q3, .ref q15, .null])), (q1, .inr (6, [.ref q2, .int 0])), (q2, .inl (cc 1, 60, .inl (fun _ => 0))), (q3, .inr (2, [.ref q4, .ref q7, .ref q11, .ref q12, .ref q13, .ref q14, .int (zH 3 6), .int (zH 3 7)])), (q4, .inr (7, [.ref q5, .ref q6])), (q5, .inl (cc 0, 8, .inl (zH 5))), (q6, .inl (cc 0, 8, .inl (zH 6))), (q7, .inr (3, [.ref q8, .ref q9, .ref q10, .int (zH 7 3), .int (zH 7 4)])), (q8, .inl (cc 0, 36, .inl (zH 8))), (q9, .inl (cc 0, 6, .inl (zH 9))), (q10, .inl (cc 0, 6, .inl (zH 10))), (q11, .inl (cc 0, 81, .inl (zH 11))), (q12, .inl (cc 3, 24, .inr (.inr (.inr (.inr (fun i => gw_rf b (zH 12 i))))))), (q13, .inl (cc 4, 30, .inr (.inr (.inr (.inr (fun i => gw_rf d (zH 13 i))))))), (q14, .inl (cc 2, 30, .inl (zH 14))), (q15, .inr (1, [.ref q3, .ref q16, .ref q17, .ref q18, .ref q19, .int 0])), (q16, .inl (cc 0, 720, .inl (fun _ => 0))), (q17, .inl (cc 0, 30, .inl (fun _ => 0))), (q18, .inl (cc 0, 4, .inl (fun _ => 0))), (q19, .inl (cc 0, 4, .inl (fun _ => 0))), (q20, .inl (cc 5, 4, .inr (.inr (.inr (.inr (va_up (va_up (va_up (fun _ => gw_rf b (-1)) 0 (some q21)) 1 (some q23)) 2 (some q25))))))), (q21, .inr (5, [.ref q22, .int 0, .int 0, .int 0])), (q22, .inl (cc 0, 36, .inl (fun _ => 0))), (q23, .inr (5, [.ref q24, .int 0, .int 0, .int 0])), (q24, .inl (cc 0, 36, .inl (fun _ => 0))), (q25, .inr (5, [.ref q26, .int 0, .int 0, .int 0])), (q26, .inl (cc 0, 36, .inl (fun _ => 0))), (q27, .inr (5, [.ref q28, .int 0, .int 0, .int 0])), (q28, .inl (cc 0, 36, .inl (fun _ => 0)))]) H _ := hI
  refine gw_aast (q0 := 20) (t0 := 5) (qk := 27) (r := (RX5, TX5, 4)) (w' := [(q, .inr (8, [.ref q1, .ref q3, .ref q15, .null])), (q1, .inr (6, [.ref q2, .int 0])), (q2, .inl (cc 1, 60, .inl (fun _ => 0))), (q3, .inr (2, [.ref q4, .ref q7, .ref q11, .ref q12, .ref q13, .ref q14, .int (zH 3 6), .int (zH 3 7)])), (q4, .inr (7, [.ref q5, .ref q6])), (q5, .inl (cc 0, 8, .inl (zH 5))), (q6, .inl (cc 0, 8, .inl (zH 6))), (q7, .inr (3, [.ref q8, .ref q9, .ref q10, .int (zH 7 3), .int (zH 7 4)])), (q8, .inl (cc 0, 36, .inl (zH 8))), (q9, .inl (cc 0, 6, .inl (zH 9))), (q10, .inl (cc 0, 6, .inl (zH 10))), (q11, .inl (cc 0, 81, .inl (zH 11))), (q12, .inl (cc 3, 24, .inr (.inr (.inr (.inr (fun i => gw_rf b (zH 12 i))))))), (q13, .inl (cc 4, 30, .inr (.inr (.inr (.inr (fun i => gw_rf d (zH 13 i))))))), (q14, .inl (cc 2, 30, .inl (zH 14))), (q15, .inr (1, [.ref q3, .ref q16, .ref q17, .ref q18, .ref q19, .int 0])), (q16, .inl (cc 0, 720, .inl (fun _ => 0))), (q17, .inl (cc 0, 30, .inl (fun _ => 0))), (q18, .inl (cc 0, 4, .inl (fun _ => 0))), (q19, .inl (cc 0, 4, .inl (fun _ => 0))), (q20, .inl (cc 5, 4, .inr (.inr (.inr (.inr (va_up (va_up (va_up (va_up (fun _ => gw_rf b (-1)) 0 (some q21)) 1 (some q23)) 2 (some q25)) 3 (some q27))))))), (q21, .inr (5, [.ref q22, .int 0, .int 0, .int 0])), (q22, .inl (cc 0, 36, .inl (fun _ => 0))), (q23, .inr (5, [.ref q24, .int 0, .int 0, .int 0])), (q24, .inl (cc 0, 36, .inl (fun _ => 0))), (q25, .inr (5, [.ref q26, .int 0, .int 0, .int 0])), (q26, .inl (cc 0, 36, .inl (fun _ => 0))), (q27, .inr (5, [.ref q28, .int 0, .int 0, .int 0])), (q28, .inl (cc 0, 36, .inl (fun _ => 0)))]) B hI rfl rfl rfl rfl (by decide) rfl dX8_init_85 (fun H locs hI => ?_)
  refine gw_putF (q0 := 0) (T := TX8) (k := 3) (w' := [(q, .inr (8, [.ref q1, .ref q3, .ref q15, .ref q20])), (q1, .inr (6, [.ref q2, .int 0])), (q2, .inl (cc 1, 60, .inl (fun _ => 0))), (q3, .inr (2, [.ref q4, .ref q7, .ref q11, .ref q12, .ref q13, .ref q14, .int (zH 3 6), .int (zH 3 7)])), (q4, .inr (7, [.ref q5, .ref q6])), (q5, .inl (cc 0, 8, .inl (zH 5))), (q6, .inl (cc 0, 8, .inl (zH 6))), (q7, .inr (3, [.ref q8, .ref q9, .ref q10, .int (zH 7 3), .int (zH 7 4)])), (q8, .inl (cc 0, 36, .inl (zH 8))), (q9, .inl (cc 0, 6, .inl (zH 9))), (q10, .inl (cc 0, 6, .inl (zH 10))), (q11, .inl (cc 0, 81, .inl (zH 11))), (q12, .inl (cc 3, 24, .inr (.inr (.inr (.inr (fun i => gw_rf b (zH 12 i))))))), (q13, .inl (cc 4, 30, .inr (.inr (.inr (.inr (fun i => gw_rf d (zH 13 i))))))), (q14, .inl (cc 2, 30, .inl (zH 14))), (q15, .inr (1, [.ref q3, .ref q16, .ref q17, .ref q18, .ref q19, .int 0])), (q16, .inl (cc 0, 720, .inl (fun _ => 0))), (q17, .inl (cc 0, 30, .inl (fun _ => 0))), (q18, .inl (cc 0, 4, .inl (fun _ => 0))), (q19, .inl (cc 0, 4, .inl (fun _ => 0))), (q20, .inl (cc 5, 4, .inr (.inr (.inr (.inr (va_up (va_up (va_up (va_up (fun _ => gw_rf b (-1)) 0 (some q21)) 1 (some q23)) 2 (some q25)) 3 (some q27))))))), (q21, .inr (5, [.ref q22, .int 0, .int 0, .int 0])), (q22, .inl (cc 0, 36, .inl (fun _ => 0))), (q23, .inr (5, [.ref q24, .int 0, .int 0, .int 0])), (q24, .inl (cc 0, 36, .inl (fun _ => 0))), (q25, .inr (5, [.ref q26, .int 0, .int 0, .int 0])), (q26, .inl (cc 0, 36, .inl (fun _ => 0))), (q27, .inr (5, [.ref q28, .int 0, .int 0, .int 0])), (q28, .inl (cc 0, 36, .inl (fun _ => 0)))]) B hin hI rfl rfl ly_X8_init_8 tyX8 tyX8_ok nmX8 (by decide) m_X8_init_35 rfl rfl rfl rfl (Nat.le_of_ble_eq_true rfl) rfl dX8_init_86 (fun H locs hI => ?_)
  rw [gw_shF (a := (gw_al 0 [q, q1, q2, q3, q4, q5, q6, q7, q8, q9, q10, q11, q12, q13, q14, q15, q16, q17, q18, q19, q20, q21, q23, q25, q27, q22, q24, q26, q28])) (x0 := q21) (x1 := q23) (x2 := q25) (x3 := q27) rfl rfl rfl rfl] at hI
  have hp : List.Perm ([(q, .inr (8, [.ref q1, .ref q3, .ref q15, .ref q20])), (q1, .inr (6, [.ref q2, .int 0])), (q2, .inl (cc 1, 60, .inl (fun _ => 0))), (q3, .inr (2, [.ref q4, .ref q7, .ref q11, .ref q12, .ref q13, .ref q14, .int (zH 3 6), .int (zH 3 7)])), (q4, .inr (7, [.ref q5, .ref q6])), (q5, .inl (cc 0, 8, .inl (zH 5))), (q6, .inl (cc 0, 8, .inl (zH 6))), (q7, .inr (3, [.ref q8, .ref q9, .ref q10, .int (zH 7 3), .int (zH 7 4)])), (q8, .inl (cc 0, 36, .inl (zH 8))), (q9, .inl (cc 0, 6, .inl (zH 9))), (q10, .inl (cc 0, 6, .inl (zH 10))), (q11, .inl (cc 0, 81, .inl (zH 11))), (q12, .inl (cc 3, 24, .inr (.inr (.inr (.inr (fun i => gw_rf b (zH 12 i))))))), (q13, .inl (cc 4, 30, .inr (.inr (.inr (.inr (fun i => gw_rf d (zH 13 i))))))), (q14, .inl (cc 2, 30, .inl (zH 14))), (q15, .inr (1, [.ref q3, .ref q16, .ref q17, .ref q18, .ref q19, .int 0])), (q16, .inl (cc 0, 720, .inl (fun _ => 0))), (q17, .inl (cc 0, 30, .inl (fun _ => 0))), (q18, .inl (cc 0, 4, .inl (fun _ => 0))), (q19, .inl (cc 0, 4, .inl (fun _ => 0))), (q20, .inl (cc 5, 4, .inr (.inr (.inr (.inr (fun i => if i < 4 then some ((gw_al 0 [q, q1, q2, q3, q4, q5, q6, q7, q8, q9, q10, q11, q12, q13, q14, q15, q16, q17, q18, q19, q20, q21, q23, q25, q27, q22, q24, q26, q28]) (21 + i)) else none)))))), (q21, .inr (5, [.ref q22, .int 0, .int 0, .int 0])), (q22, .inl (cc 0, 36, .inl (fun _ => 0))), (q23, .inr (5, [.ref q24, .int 0, .int 0, .int 0])), (q24, .inl (cc 0, 36, .inl (fun _ => 0))), (q25, .inr (5, [.ref q26, .int 0, .int 0, .int 0])), (q26, .inl (cc 0, 36, .inl (fun _ => 0))), (q27, .inr (5, [.ref q28, .int 0, .int 0, .int 0])), (q28, .inl (cc 0, 36, .inl (fun _ => 0)))]) (gw_cw cc (gw_al 0 [q, q1, q2, q3, q4, q5, q6, q7, q8, q9, q10, q11, q12, q13, q14, q15, q16, q17, q18, q19, q20, q21, q23, q25, q27, q22, q24, q26, q28]) b d (gw_SG zH)) := gw_permI [0, 1, 2, 3, 4, 5, 6, 7, 8, 9, 10, 11, 12, 13, 14, 15, 16, 17, 18, 19, 20, 21, 23, 25, 27, 22, 24, 26, 28] (show List.Perm [0, 1, 2, 3, 4, 5, 6, 7, 8, 9, 10, 11, 12, 13, 14, 15, 16, 17, 18, 19, 20, 21, 23, 25, 27, 22, 24, 26, 28] (List.range 29) by decide) rfl
  have hI := gw_perm hp hI
  exact gw_vret (W' := (fun w => ∃ a : Nat → Nat, a 0 = q ∧ w = gw_cw cc a b d (gw_SG zH))) B hI ⟨_, rfl, rfl⟩ (Nat.le_of_ble_eq_true rfl) (Nat.le_of_ble_eq_true rfl) dX8_init_89
end
end
