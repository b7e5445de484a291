theorem nds_X0_init : yX0_init.cls ≠ "java/lang/invoke/MethodHandle" ∧ yX0_init.cls ≠ "java/lang/invoke/VarHandle" ∧ (parseMethodDescriptor yX0_init.desc).map (fun d => d.parameters.length) = some 7 := by decide +kernel
theorem nds_X1_init : yX1_init.cls ≠ "java/lang/invoke/MethodHandle" ∧ yX1_init.cls ≠ "java/lang/invoke/VarHandle" ∧ (parseMethodDescriptor yX1_init.desc).map (fun d => d.parameters.length) = some 1 := by decide +kernel
theorem nd_X2_addBooking : yX2_addBooking.cls = RX2 ∧ yX2_addBooking.cls ≠ "java/lang/invoke/MethodHandle" ∧ yX2_addBooking.cls ≠ "java/lang/invoke/VarHandle" ∧ (parseMethodDescriptor yX2_addBooking.desc).map (fun d => d.parameters.length) = some 6 := by decide +kernel
theorem nds_X2_init : yX2_init.cls ≠ "java/lang/invoke/MethodHandle" ∧ yX2_init.cls ≠ "java/lang/invoke/VarHandle" ∧ (parseMethodDescriptor yX2_init.desc).map (fun d => d.parameters.length) = some 0 := by decide +kernel
theorem nd_X2_keep : yX2_keep.cls = RX2 ∧ yX2_keep.cls ≠ "java/lang/invoke/MethodHandle" ∧ yX2_keep.cls ≠ "java/lang/invoke/VarHandle" ∧ (parseMethodDescriptor yX2_keep.desc).map (fun d => d.parameters.length) = some 1 := by decide +kernel
theorem nds_X3_init : yX3_init.cls ≠ "java/lang/invoke/MethodHandle" ∧ yX3_init.cls ≠ "java/lang/invoke/VarHandle" ∧ (parseMethodDescriptor yX3_init.desc).map (fun d => d.parameters.length) = some 0 := by decide +kernel
theorem nds_X4_init : yX4_init.cls ≠ "java/lang/invoke/MethodHandle" ∧ yX4_init.cls ≠ "java/lang/invoke/VarHandle" ∧ (parseMethodDescriptor yX4_init.desc).map (fun d => d.parameters.length) = some 7 := by decide +kernel
theorem nds_X5_init : yX5_init.cls ≠ "java/lang/invoke/MethodHandle" ∧ yX5_init.cls ≠ "java/lang/invoke/VarHandle" ∧ (parseMethodDescriptor yX5_init.desc).map (fun d => d.parameters.length) = some 0 := by decide +kernel
theorem nds_X6_init : yX6_init.cls ≠ "java/lang/invoke/MethodHandle" ∧ yX6_init.cls ≠ "java/lang/invoke/VarHandle" ∧ (parseMethodDescriptor yX6_init.desc).map (fun d => d.parameters.length) = some 0 := by decide +kernel
theorem nds_X7_init : yX7_init.cls ≠ "java/lang/invoke/MethodHandle" ∧ yX7_init.cls ≠ "java/lang/invoke/VarHandle" ∧ (parseMethodDescriptor yX7_init.desc).map (fun d => d.parameters.length) = some 0 := by decide +kernel
theorem nd_X8_addBookingOnSheet : yX8_addBookingOnSheet.cls = RX8 ∧ yX8_addBookingOnSheet.cls ≠ "java/lang/invoke/MethodHandle" ∧ yX8_addBookingOnSheet.cls ≠ "java/lang/invoke/VarHandle" ∧ (parseMethodDescriptor yX8_addBookingOnSheet.desc).map (fun d => d.parameters.length) = some 2 := by decide +kernel
theorem nd_X8_addPiece : yX8_addPiece.cls = RX8 ∧ yX8_addPiece.cls ≠ "java/lang/invoke/MethodHandle" ∧ yX8_addPiece.cls ≠ "java/lang/invoke/VarHandle" ∧ (parseMethodDescriptor yX8_addPiece.desc).map (fun d => d.parameters.length) = some 7 := by decide +kernel
theorem n_RX2_X7_init : (RX2, 11, yX7_init) ∈ gw_nm := by decide +kernel
theorem n_RX8_X5_init : (RX8, 34, yX5_init) ∈ gw_nm := by decide +kernel
theorem n_RX8_X6_init : (RX8, 9, yX6_init) ∈ gw_nm := by decide +kernel
section
variable {l : Launch} {D : va_G} {t1 t2 : Nat} {cc : Nat → ClassId} {a b d : Nat → Nat}
theorem m_X0_init_15 : Cond.fieldLink RX0 15 "GownLet$Booking" "stage" "I" ∈ wsX0_init := by decide +kernel
theorem m_X0_init_18 : Cond.fieldLink RX0 18 "GownLet$Booking" "number" "I" ∈ wsX0_init := by decide +kernel
theorem m_X0_init_21 : Cond.fieldLink RX0 21 "GownLet$Booking" "size" "I" ∈ wsX0_init := by decide +kernel
theorem m_X0_init_24 : Cond.fieldLink RX0 24 "GownLet$Booking" "wants" "I" ∈ wsX0_init := by decide +kernel
theorem m_X0_init_27 : Cond.fieldLink RX0 27 "GownLet$Booking" "night" "I" ∈ wsX0_init := by decide +kernel
theorem m_X0_init_30 : Cond.fieldLink RX0 30 "GownLet$Booking" "town" "I" ∈ wsX0_init := by decide +kernel
theorem m_X0_init_33 : Cond.fieldLink RX0 33 "GownLet$Booking" "made" "I" ∈ wsX0_init := by decide +kernel
theorem m_X0_init_36 : Cond.fieldLink RX0 36 "GownLet$Booking" "party" "I" ∈ wsX0_init := by decide +kernel
theorem m_X0_init_9 : Cond.fieldLink RX0 9 "GownLet$Booking" "calledOffOn" "I" ∈ wsX0_init := by decide +kernel
theorem ly_X0_init_0 : ∀ w ∈ wsX00, w ∈ wsX0_init := fun w h => List.mem_cons_of_mem _ (List.mem_append_right _ h)
abbrev rm_X0_init : Room := { frames := 4, cells := 0, slots := 0, locals := 160 }
set_option maxRecDepth 100000 in
set_option maxHeartbeats 8000000 in
theorem k_X0_init (q : Nat) (x1 : Int32) (x2 : Int32) (x3 : Int32) (x4 : Int32) (x5 : Int32) (x6 : Int32) (x7 : Int32) : gw_M l yX0_init wsX0_init rm_X0_init 0 0 D (gw_ty cc) t1 t2 [.ref q, .int x1, .int x2, .int x3, .int x4, .int x5, .int x6, .int x7] [(q, .inr (0, [.int 0, .int 0, .int 0, .int 0, .int 0, .int 0, .int 0, .int 0, .null, .int 0, .int 0, .int 0, .int 0, .int 0]))] (fun w => w = [(q, .inr (0, [.int x1, .int x2, .int x3, .int x4, .int x5, .int x6, .int x7, .int (-4 : Int32), .null, .int (0 : Int32), .int 0, .int 0, .int 0, .int 0]))]) none := by
  refine gw_enter (cc := cX0_init) (maxL := 8) (ret := none) (own := RX0) rfl (by decide) rfl (Nat.le_of_ble_eq_true rfl) ?_
  intro p e s m below meth c A B hin hI ls hl
  have hl : lv_has ls 8 [(0, .ref q), (1, .int x1), (2, .int x2), (3, .int x3), (4, .int x4), (5, .int x5), (6, .int x6), (7, .int x7)] := hl
  have hin : meth.name = "<init>" := hin
  generalize ([.ref q, .int x1, .int x2, .int x3, .int x4, .int x5, .int x6, .int x7] : List Value).toArray = args at B ⊢
  have hx := B.1.1
  have hb := B.1.2.1
  refine lv_aload_n hx hb dX0_init_0 rfl (lv_at hl 0 rfl) ?_
  refine gw_ainit B (by decide +kernel) (by decide +kernel) (by decide +kernel) hl.1 dX0_init_1 (Nat.le_of_ble_eq_true rfl) (Nat.le_of_ble_eq_true rfl) ?_
  refine lv_aload_n hx hb dX0_init_4 rfl (lv_at hl 0 rfl) ?_
  refine lv_bipush (v := -4) hx hb dX0_init_5 (by decide) ?_
  refine gw_put (q0 := 0) (T := TX0) (k := 7) (w' := [(q, .inr (0, [.int 0, .int 0, .int 0, .int 0, .int 0, .int 0, .int 0, .int (-4 : Int32), .null, .int 0, .int 0, .int 0, .int 0, .int 0]))]) B hI rfl rfl ly_X0_init_0 tyX0 tyX0_ok nmX0 (by decide) m_X0_init_9 rfl rfl rfl rfl (Nat.le_of_ble_eq_true rfl) rfl dX0_init_7 (fun H locs hI => ?_)
  refine lv_aload_n hx hb dX0_init_10 rfl (lv_at hl 0 rfl) ?_
  refine lv_iconst (v := 0) hx hb dX0_init_11 (by decide) ?_
  refine gw_put (q0 := 0) (T := TX0) (k := 9) (w' := [(q, .inr (0, [.int 0, .int 0, .int 0, .int 0, .int 0, .int 0, .int 0, .int (-4 : Int32), .null, .int (0 : Int32), .int 0, .int 0, .int 0, .int 0]))]) B hI rfl rfl ly_X0_init_0 tyX0 tyX0_ok nmX0 (by decide) m_X0_init_15 rfl rfl rfl rfl (Nat.le_of_ble_eq_true rfl) rfl dX0_init_12 (fun H locs hI => ?_)
  refine lv_aload_n hx hb dX0_init_15 rfl (lv_at hl 0 rfl) ?_
  refine lv_iload_n hx hb dX0_init_16 rfl (lv_at hl 1 rfl) ?_
  refine gw_putF (q0 := 0) (T := TX0) (k := 0) (w' := [(q, .inr (0, [.int x1, .int 0, .int 0, .int 0, .int 0, .int 0, .int 0, .int (-4 : Int32), .null, .int (0 : Int32), .int 0, .int 0, .int 0, .int 0]))]) B hin hI rfl rfl ly_X0_init_0 tyX0 tyX0_ok nmX0 (by decide) m_X0_init_18 rfl rfl rfl rfl (Nat.le_of_ble_eq_true rfl) rfl dX0_init_17 (fun H locs hI => ?_)
  refine lv_aload_n hx hb dX0_init_20 rfl (lv_at hl 0 rfl) ?_
  refine lv_iload_n hx hb dX0_init_21 rfl (lv_at hl 2 rfl) ?_
  refine gw_putF (q0 := 0) (T := TX0) (k := 1) (w' := [(q, .inr (0, [.int x1, .int x2, .int 0, .int 0, .int 0, .int 0, .int 0, .int (-4 : Int32), .null, .int (0 : Int32), .int 0, .int 0, .int 0, .int 0]))]) B hin hI rfl rfl ly_X0_init_0 tyX0 tyX0_ok nmX0 (by decide) m_X0_init_21 rfl rfl rfl rfl (Nat.le_of_ble_eq_true rfl) rfl dX0_init_22 (fun H locs hI => ?_)
  refine lv_aload_n hx hb dX0_init_25 rfl (lv_at hl 0 rfl) ?_
  refine lv_iload_n hx hb dX0_init_26 rfl (lv_at hl 3 rfl) ?_
  refine gw_putF (q0 := 0) (T := TX0) (k := 2) (w' := [(q, .inr (0, [.int x1, .int x2, .int x3, .int 0, .int 0, .int 0, .int 0, .int (-4 : Int32), .null, .int (0 : Int32), .int 0, .int 0, .int 0, .int 0]))]) B hin hI rfl rfl ly_X0_init_0 tyX0 tyX0_ok nmX0 (by decide) m_X0_init_24 rfl rfl rfl rfl (Nat.le_of_ble_eq_true rfl) rfl dX0_init_27 (fun H locs hI => ?_)
  refine lv_aload_n hx hb dX0_init_30 rfl (lv_at hl 0 rfl) ?_
  refine lv_iload hx hb dX0_init_31 (lv_at hl 4 rfl) ?_
  refine gw_putF (q0 := 0) (T := TX0) (k := 3) (w' := [(q, .inr (0, [.int x1, .int x2, .int x3, .int x4, .int 0, .int 0, .int 0, .int (-4 : Int32), .null, .int (0 : Int32), .int 0, .int 0, .int 0, .int 0]))]) B hin hI rfl rfl ly_X0_init_0 tyX0 tyX0_ok nmX0 (by decide) m_X0_init_27 rfl rfl rfl rfl (Nat.le_of_ble_eq_true rfl) rfl dX0_init_33 (fun H locs hI => ?_)
  refine lv_aload_n hx hb dX0_init_36 rfl (lv_at hl 0 rfl) ?_
  refine lv_iload hx hb dX0_init_37 (lv_at hl 5 rfl) ?_
  refine gw_putF (q0 := 0) (T := TX0) (k := 4) (w' := [(q, .inr (0, [.int x1, .int x2, .int x3, .int x4, .int x5, .int 0, .int 0, .int (-4 : Int32), .null, .int (0 : Int32), .int 0, .int 0, .int 0, .int 0]))]) B hin hI rfl rfl ly_X0_init_0 tyX0 tyX0_ok nmX0 (by decide) m_X0_init_30 rfl rfl rfl rfl (Nat.le_of_ble_eq_true rfl) rfl dX0_init_39 (fun H locs hI => ?_)
  refine lv_aload_n hx hb dX0_init_42 rfl (lv_at hl 0 rfl) ?_
  refine lv_iload hx hb dX0_init_43 (lv_at hl 6 rfl) ?_
  refine gw_putF (q0 := 0) (T := TX0) (k := 5) (w' := [(q, .inr (0, [.int x1, .int x2, .int x3, .int x4, .int x5, .int x6, .int 0, .int (-4 : Int32), .null, .int (0 : Int32), .int 0, .int 0, .int 0, .int 0]))]) B hin hI rfl rfl ly_X0_init_0 tyX0 tyX0_ok nmX0 (by decide) m_X0_init_33 rfl rfl rfl rfl (Nat.le_of_ble_eq_true rfl) rfl dX0_init_45 (fun H locs hI => ?_)
  refine lv_aload_n hx hb dX0_init_48 rfl (lv_at hl 0 rfl) ?_
  refine lv_iload hx hb dX0_init_49 (lv_at hl 7 rfl) ?_
  refine gw_putF (q0 := 0) (T := TX0) (k := 6) (w' := [(q, .inr (0, [.int x1, .int x2, .int x3, .int x4, .int x5, .int x6, .int x7, .int (-4 : Int32), .null, .int (0 : Int32), .int 0, .int 0, .int 0, .int 0]))]) B hin hI rfl rfl ly_X0_init_0 tyX0 tyX0_ok nmX0 (by decide) m_X0_init_36 rfl rfl rfl rfl (Nat.le_of_ble_eq_true rfl) rfl dX0_init_51 (fun H locs hI => ?_)
  exact gw_vret (W' := (fun w => w = [(q, .inr (0, [.int x1, .int x2, .int x3, .int x4, .int x5, .int x6, .int x7, .int (-4 : Int32), .null, .int (0 : Int32), .int 0, .int 0, .int 0, .int 0]))])) B hI rfl (Nat.le_of_ble_eq_true rfl) (Nat.le_of_ble_eq_true rfl) dX0_init_54
theorem m_X4_init_15 : Cond.fieldLink RX4 15 "GownLet$Piece" "kind" "I" ∈ wsX4_init := by decide +kernel
theorem m_X4_init_18 : Cond.fieldLink RX4 18 "GownLet$Piece" "maker" "I" ∈ wsX4_init := by decide +kernel
theorem m_X4_init_21 : Cond.fieldLink RX4 21 "GownLet$Piece" "label" "I" ∈ wsX4_init := by decide +kernel
theorem m_X4_init_24 : Cond.fieldLink RX4 24 "GownLet$Piece" "lot" "I" ∈ wsX4_init := by decide +kernel
theorem m_X4_init_27 : Cond.fieldLink RX4 27 "GownLet$Piece" "town" "I" ∈ wsX4_init := by decide +kernel
theorem m_X4_init_30 : Cond.fieldLink RX4 30 "GownLet$Piece" "price" "I" ∈ wsX4_init := by decide +kernel
theorem m_X4_init_33 : Cond.fieldLink RX4 33 "GownLet$Piece" "life" "I" ∈ wsX4_init := by decide +kernel
theorem m_X4_init_9 : Cond.fieldLink RX4 9 "GownLet$Piece" "tornFrom" "I" ∈ wsX4_init := by decide +kernel
theorem ly_X4_init_4 : ∀ w ∈ wsX40, w ∈ wsX4_init := fun w h => List.mem_cons_of_mem _ (List.mem_append_right _ h)
abbrev rm_X4_init : Room := { frames := 4, cells := 0, slots := 0, locals := 160 }
set_option maxRecDepth 100000 in
set_option maxHeartbeats 8000000 in
theorem k_X4_init (q : Nat) (x1 : Int32) (x2 : Int32) (x3 : Int32) (x4 : Int32) (x5 : Int32) (x6 : Int32) (x7 : Int32) : gw_M l yX4_init wsX4_init rm_X4_init 0 0 D (gw_ty cc) t1 t2 [.ref q, .int x1, .int x2, .int x3, .int x4, .int x5, .int x6, .int x7] [(q, .inr (4, [.int 0, .int 0, .int 0, .int 0, .int 0, .int 0, .int 0, .int 0, .int 0, .int 0, .int 0, .int 0]))] (fun w => w = [(q, .inr (4, [.int x1, .int x2, .int x3, .int x4, .int x5, .int x6, .int x7, .int 0, .int 0, .int 0, .int (-4 : Int32), .int 0]))]) none := by
  refine gw_enter (cc := cX4_init) (maxL := 8) (ret := none) (own := RX4) rfl (by decide) rfl (Nat.le_of_ble_eq_true rfl) ?_
  intro p e s m below meth c A B hin hI ls hl
  have hl : lv_has ls 8 [(0, .ref q), (1, .int x1), (2, .int x2), (3, .int x3), (4, .int x4), (5, .int x5), (6, .int x6), (7, .int x7)] := hl
  have hin : meth.name = "<init>" := hin
  generalize ([.ref q, .int x1, .int x2, .int x3, .int x4, .int x5, .int x6, .int x7] : List Value).toArray = args at B ⊢
  have hx := B.1.1
  have hb := B.1.2.1
  refine lv_aload_n hx hb dX4_init_0 rfl (lv_at hl 0 rfl) ?_
  refine gw_ainit B (by decide +kernel) (by decide +kernel) (by decide +kernel) hl.1 dX4_init_1 (Nat.le_of_ble_eq_true rfl) (Nat.le_of_ble_eq_true rfl) ?_
  refine lv_aload_n hx hb dX4_init_4 rfl (lv_at hl 0 rfl) ?_
  refine lv_bipush (v := -4) hx hb dX4_init_5 (by decide) ?_
  refine gw_put (q0 := 0) (T := TX4) (k := 10) (w' := [(q, .inr (4, [.int 0, .int 0, .int 0, .int 0, .int 0, .int 0, .int 0, .int 0, .int 0, .int 0, .int (-4 : Int32), .int 0]))]) B hI rfl rfl ly_X4_init_4 tyX4 tyX4_ok nmX4 (by decide) m_X4_init_9 rfl rfl rfl rfl (Nat.le_of_ble_eq_true rfl) rfl dX4_init_7 (fun H locs hI => ?_)
  refine lv_aload_n hx hb dX4_init_10 rfl (lv_at hl 0 rfl) ?_
  refine lv_iload_n hx hb dX4_init_11 rfl (lv_at hl 1 rfl) ?_
  refine gw_putF (q0 := 0) (T := TX4) (k := 0) (w' := [(q, .inr (4, [.int x1, .int 0, .int 0, .int 0, .int 0, .int 0, .int 0, .int 0, .int 0, .int 0, .int (-4 : Int32), .int 0]))]) B hin hI rfl rfl ly_X4_init_4 tyX4 tyX4_ok nmX4 (by decide) m_X4_init_15 rfl rfl rfl rfl (Nat.le_of_ble_eq_true rfl) rfl dX4_init_12 (fun H locs hI => ?_)
  refine lv_aload_n hx hb dX4_init_15 rfl (lv_at hl 0 rfl) ?_
  refine lv_iload_n hx hb dX4_init_16 rfl (lv_at hl 2 rfl) ?_
  refine gw_putF (q0 := 0) (T := TX4) (k := 1) (w' := [(q, .inr (4, [.int x1, .int x2, .int 0, .int 0, .int 0, .int 0, .int 0, .int 0, .int 0, .int 0, .int (-4 : Int32), .int 0]))]) B hin hI rfl rfl ly_X4_init_4 tyX4 tyX4_ok nmX4 (by decide) m_X4_init_18 rfl rfl rfl rfl (Nat.le_of_ble_eq_true rfl) rfl dX4_init_17 (fun H locs hI => ?_)
  refine lv_aload_n hx hb dX4_init_20 rfl (lv_at hl 0 rfl) ?_
  refine lv_iload_n hx hb dX4_init_21 rfl (lv_at hl 3 rfl) ?_
  refine gw_putF (q0 := 0) (T := TX4) (k := 2) (w' := [(q, .inr (4, [.int x1, .int x2, .int x3, .int 0, .int 0, .int 0, .int 0, .int 0, .int 0, .int 0, .int (-4 : Int32), .int 0]))]) B hin hI rfl rfl ly_X4_init_4 tyX4 tyX4_ok nmX4 (by decide) m_X4_init_21 rfl rfl rfl rfl (Nat.le_of_ble_eq_true rfl) rfl dX4_init_22 (fun H locs hI => ?_)
  refine lv_aload_n hx hb dX4_init_25 rfl (lv_at hl 0 rfl) ?_
  refine lv_iload hx hb dX4_init_26 (lv_at hl 4 rfl) ?_
  refine gw_putF (q0 := 0) (T := TX4) (k := 3) (w' := [(q, .inr (4, [.int x1, .int x2, .int x3, .int x4, .int 0, .int 0, .int 0, .int 0, .int 0, .int 0, .int (-4 : Int32), .int 0]))]) B hin hI rfl rfl ly_X4_init_4 tyX4 tyX4_ok nmX4 (by decide) m_X4_init_24 rfl rfl rfl rfl (Nat.le_of_ble_eq_true rfl) rfl dX4_init_28 (fun H locs hI => ?_)
  refine lv_aload_n hx hb dX4_init_31 rfl (lv_at hl 0 rfl) ?_
  refine lv_iload hx hb dX4_init_32 (lv_at hl 5 rfl) ?_
  refine gw_putF (q0 := 0) (T := TX4) (k := 4) (w' := [(q, .inr (4, [.int x1, .int x2, .int x3, .int x4, .int x5, .int 0, .int 0, .int 0, .int 0, .int 0, .int (-4 : Int32), .int 0]))]) B hin hI rfl rfl ly_X4_init_4 tyX4 tyX4_ok nmX4 (by decide) m_X4_init_27 rfl rfl rfl rfl (Nat.le_of_ble_eq_true rfl) rfl dX4_init_34 (fun H locs hI => ?_)
  refine lv_aload_n hx hb dX4_init_37 rfl (lv_at hl 0 rfl) ?_
  refine lv_iload hx hb dX4_init_38 (lv_at hl 6 rfl) ?_
  refine gw_putF (q0 := 0) (T := TX4) (k := 5) (w' := [(q, .inr (4, [.int x1, .int x2, .int x3, .int x4, .int x5, .int x6, .int 0, .int 0, .int 0, .int 0, .int (-4 : Int32), .int 0]))]) B hin hI rfl rfl ly_X4_init_4 tyX4 tyX4_ok nmX4 (by decide) m_X4_init_30 rfl rfl rfl rfl (Nat.le_of_ble_eq_true rfl) rfl dX4_init_40 (fun H locs hI => ?_)
  refine lv_aload_n hx hb dX4_init_43 rfl (lv_at hl 0 rfl) ?_
  refine lv_iload hx hb dX4_init_44 (lv_at hl 7 rfl) ?_
  refine gw_putF (q0 := 0) (T := TX4) (k := 6) (w' := [(q, .inr (4, [.int x1, .int x2, .int x3, .int x4, .int x5, .int x6, .int x7, .int 0, .int 0, .int 0, .int (-4 : Int32), .int 0]))]) B hin hI rfl rfl ly_X4_init_4 tyX4 tyX4_ok nmX4 (by decide) m_X4_init_33 rfl rfl rfl rfl (Nat.le_of_ble_eq_true rfl) rfl dX4_init_46 (fun H locs hI => ?_)
  exact gw_vret (W' := (fun w => w = [(q, .inr (4, [.int x1, .int x2, .int x3, .int x4, .int x5, .int x6, .int x7, .int 0, .int 0, .int 0, .int (-4 : Int32), .int 0]))])) B hI rfl (Nat.le_of_ble_eq_true rfl) (Nat.le_of_ble_eq_true rfl) dX4_init_49
theorem m_X6_init_9 : Cond.fieldLink RX6 9 "GownLet$Tape" "bytes" "[B" ∈ wsX6_init := by decide +kernel
theorem ly_X6_init_6 : ∀ w ∈ wsX60, w ∈ wsX6_init := fun w h => List.mem_cons_of_mem _ (List.mem_append_right _ h)
abbrev rm_X6_init : Room := { frames := 4, cells := 1, slots := 60, locals := 160 }
set_option maxRecDepth 100000 in
set_option maxHeartbeats 8000000 in
theorem k_X6_init (q : Nat)  : gw_M l yX6_init wsX6_init rm_X6_init 1 60 D (gw_ty cc) t1 t2 [.ref q] [(q, .inr (6, [.null, .int 0]))] (fun w => ∃ q1, w = [(q, .inr (6, [.ref q1, .int 0])), (q1, .inl (cc 1, 60, .inl (fun _ => 0)))]) none := by
  refine gw_enter (cc := cX6_init) (maxL := 1) (ret := none) (own := RX6) rfl (by decide) rfl (Nat.le_of_ble_eq_true rfl) ?_
  intro p e s m below meth c A B hin hI ls hl
  have hl : lv_has ls 1 [(0, .ref q)] := hl
  have hin : meth.name = "<init>" := hin
  generalize ([.ref q] : List Value).toArray = args at B ⊢
  have hx := B.1.1
  have hb := B.1.2.1
  refine lv_aload_n hx hb dX6_init_0 rfl (lv_at hl 0 rfl) ?_
  refine gw_ainit B (by decide +kernel) (by decide +kernel) (by decide +kernel) hl.1 dX6_init_1 (Nat.le_of_ble_eq_true rfl) (Nat.le_of_ble_eq_true rfl) ?_
  refine lv_aload_n hx hb dX6_init_4 rfl (lv_at hl 0 rfl) ?_
  refine lv_bipush (v := 60) hx hb dX6_init_5 (by decide) ?_
  refine gw_newa (t0 := 1) (N := 60) (ty := .byte) B hI rfl rfl rfl (by decide +kernel) (by decide) rfl (Nat.le_of_ble_eq_true rfl) (Nat.le_of_ble_eq_true rfl) (Nat.le_of_ble_eq_true rfl) dX6_init_7 (fun q1 H hI => ?_)
  have hI : gw_I D A s.heap ([(q, .inr (6, [.null, .int 0])), (q1, .inl (cc 1, 60, .inl (fun _ => 0)))]) H _ := hI
  refine gw_putF (q0 := 0) (T := TX6) (k := 0) (w' := [(q, .inr (6, [.ref q1, .int 0])), (q1, .inl (cc 1, 60, .inl (fun _ => 0)))]) B hin hI rfl rfl ly_X6_init_6 tyX6 tyX6_ok nmX6 (by decide) m_X6_init_9 rfl rfl rfl rfl (Nat.le_of_ble_eq_true rfl) rfl dX6_init_9 (fun H locs hI => ?_)
  exact gw_vret (W' := (fun w => ∃ q1, w = [(q, .inr (6, [.ref q1, .int 0])), (q1, .inl (cc 1, 60, .inl (fun _ => 0)))])) B hI ⟨q1, rfl⟩ (Nat.le_of_ble_eq_true rfl) (Nat.le_of_ble_eq_true rfl) dX6_init_12
theorem m_X7_init_13 : Cond.fieldLink RX7 13 "GownLet$Terms" "coming" "[I" ∈ wsX7_init := by decide +kernel
theorem m_X7_init_7 : Cond.fieldLink RX7 7 "GownLet$Terms" "now" "[I" ∈ wsX7_init := by decide +kernel
theorem ly_X7_init_7 : ∀ w ∈ wsX70, w ∈ wsX7_init := fun w h => List.mem_cons_of_mem _ (List.mem_append_right _ h)
abbrev rm_X7_init : Room := { frames := 4, cells := 2, slots := 16, locals := 160 }
set_option maxRecDepth 100000 in
set_option maxHeartbeats 8000000 in
theorem k_X7_init (q : Nat)  : gw_M l yX7_init wsX7_init rm_X7_init 2 16 D (gw_ty cc) t1 t2 [.ref q] [(q, .inr (7, [.null, .null]))] (fun w => ∃ q1 q2, w = [(q, .inr (7, [.ref q1, .ref q2])), (q1, .inl (cc 0, 8, .inl (upd (upd (upd (upd (upd (upd (upd (upd (fun _ => 0) 0 (1 : Int32)) 1 (2 : Int32)) 2 (50 : Int32)) 3 (30 : Int32)) 4 (1 : Int32)) 5 (200 : Int32)) 6 (900 : Int32)) 7 (3 : Int32)))), (q2, .inl (cc 0, 8, .inl (fun _ => 0)))]) none := by
  refine gw_enter (cc := cX7_init) (maxL := 1) (ret := none) (own := RX7) rfl (by decide) rfl (Nat.le_of_ble_eq_true rfl) ?_
  intro p e s m below meth c A B hin hI ls hl
  have hl : lv_has ls 1 [(0, .ref q)] := hl
  have hin : meth.name = "<init>" := hin
  generalize ([.ref q] : List Value).toArray = args at B ⊢
  have hx := B.1.1
  have hb := B.1.2.1
  refine lv_aload_n hx hb dX7_init_0 rfl (lv_at hl 0 rfl) ?_
  refine gw_ainit B (by decide +kernel) (by decide +kernel) (by decide +kernel) hl.1 dX7_init_1 (Nat.le_of_ble_eq_true rfl) (Nat.le_of_ble_eq_true rfl) ?_
  refine lv_aload_n hx hb dX7_init_4 rfl (lv_at hl 0 rfl) ?_
  refine lv_bipush (v := 8) hx hb dX7_init_5 (by decide) ?_
  refine gw_newa (t0 := 0) (N := 8) (ty := .int) B hI rfl rfl rfl (by decide +kernel) (by decide) rfl (Nat.le_of_ble_eq_true rfl) (Nat.le_of_ble_eq_true rfl) (Nat.le_of_ble_eq_true rfl) dX7_init_7 (fun q1 H hI => ?_)
  have hI : gw_I D A s.heap ([(q, .inr (7, [.null, .null])), (q1, .inl (cc 0, 8, .inl (fun _ => 0)))]) H _ := hI
  refine lv_dup hx hb dX7_init_9 rfl ?_
  refine lv_iconst (v := 0) hx hb dX7_init_10 (by decide) ?_
  refine lv_iconst (v := 1) hx hb dX7_init_11 (by decide) ?_
  refine gw_iast (q0 := 1) (t0 := 0) (w' := [(q, .inr (7, [.null, .null])), (q1, .inl (cc 0, 8, .inl (upd (fun _ => 0) 0 (1 : Int32))))]) B hI rfl rfl (by decide) rfl dX7_init_12 (fun H locs hI => ?_)
  refine lv_dup hx hb dX7_init_13 rfl ?_
  refine lv_iconst (v := 1) hx hb dX7_init_14 (by decide) ?_
  refine lv_iconst (v := 2) hx hb dX7_init_15 (by decide) ?_
  refine gw_iast (q0 := 1) (t0 := 0) (w' := [(q, .inr (7, [.null, .null])), (q1, .inl (cc 0, 8, .inl (upd (upd (fun _ => 0) 0 (1 : Int32)) 1 (2 : Int32))))]) B hI rfl rfl (by decide) rfl dX7_init_16 (fun H locs hI => ?_)
  refine lv_dup hx hb dX7_init_17 rfl ?_
  refine lv_iconst (v := 2) hx hb dX7_init_18 (by decide) ?_
  refine lv_bipush (v := 50) hx hb dX7_init_19 (by decide) ?_
  refine gw_iast (q0 := 1) (t0 := 0) (w' := [(q, .inr (7, [.null, .null])), (q1, .inl (cc 0, 8, .inl (upd (upd (upd (fun _ => 0) 0 (1 : Int32)) 1 (2 : Int32)) 2 (50 : Int32))))]) B hI rfl rfl (by decide) rfl dX7_init_21 (fun H locs hI => ?_)
  refine lv_dup hx hb dX7_init_22 rfl ?_
  refine lv_iconst (v := 3) hx hb dX7_init_23 (by decide) ?_
  refine lv_bipush (v := 30) hx hb dX7_init_24 (by decide) ?_
  refine gw_iast (q0 := 1) (t0 := 0) (w' := [(q, .inr (7, [.null, .null])), (q1, .inl (cc 0, 8, .inl (upd (upd (upd (upd (fun _ => 0) 0 (1 : Int32)) 1 (2 : Int32)) 2 (50 : Int32)) 3 (30 : Int32))))]) B hI rfl rfl (by decide) rfl dX7_init_26 (fun H locs hI => ?_)
  refine lv_dup hx hb dX7_init_27 rfl ?_
  refine lv_iconst (v := 4) hx hb dX7_init_28 (by decide) ?_
  refine lv_iconst (v := 1) hx hb dX7_init_29 (by decide) ?_
  refine gw_iast (q0 := 1) (t0 := 0) (w' := [(q, .inr (7, [.null, .null])), (q1, .inl (cc 0, 8, .inl (upd (upd (upd (upd (upd (fun _ => 0) 0 (1 : Int32)) 1 (2 : Int32)) 2 (50 : Int32)) 3 (30 : Int32)) 4 (1 : Int32))))]) B hI rfl rfl (by decide) rfl dX7_init_30 (fun H locs hI => ?_)
  refine lv_dup hx hb dX7_init_31 rfl ?_
  refine lv_iconst (v := 5) hx hb dX7_init_32 (by decide) ?_
  refine lv_sipush (v := 200) hx hb dX7_init_33 (by decide) ?_
  refine gw_iast (q0 := 1) (t0 := 0) (w' := [(q, .inr (7, [.null, .null])), (q1, .inl (cc 0, 8, .inl (upd (upd (upd (upd (upd (upd (fun _ => 0) 0 (1 : Int32)) 1 (2 : Int32)) 2 (50 : Int32)) 3 (30 : Int32)) 4 (1 : Int32)) 5 (200 : Int32))))]) B hI rfl rfl (by decide) rfl dX7_init_36 (fun H locs hI => ?_)
  refine lv_dup hx hb dX7_init_37 rfl ?_
  refine lv_bipush (v := 6) hx hb dX7_init_38 (by decide) ?_
  refine lv_sipush (v := 900) hx hb dX7_init_40 (by decide) ?_
  refine gw_iast (q0 := 1) (t0 := 0) (w' := [(q, .inr (7, [.null, .null])), (q1, .inl (cc 0, 8, .inl (upd (upd (upd (upd (upd (upd (upd (fun _ => 0) 0 (1 : Int32)) 1 (2 : Int32)) 2 (50 : Int32)) 3 (30 : Int32)) 4 (1 : Int32)) 5 (200 : Int32)) 6 (900 : Int32))))]) B hI rfl rfl (by decide) rfl dX7_init_43 (fun H locs hI => ?_)
  refine lv_dup hx hb dX7_init_44 rfl ?_
  refine lv_bipush (v := 7) hx hb dX7_init_45 (by decide) ?_
  refine lv_iconst (v := 3) hx hb dX7_init_47 (by decide) ?_
  refine gw_iast (q0 := 1) (t0 := 0) (w' := [(q, .inr (7, [.null, .null])), (q1, .inl (cc 0, 8, .inl (upd (upd (upd (upd (upd (upd (upd (upd (fun _ => 0) 0 (1 : Int32)) 1 (2 : Int32)) 2 (50 : Int32)) 3 (30 : Int32)) 4 (1 : Int32)) 5 (200 : Int32)) 6 (900 : Int32)) 7 (3 : Int32))))]) B hI rfl rfl (by decide) rfl dX7_init_48 (fun H locs hI => ?_)
  refine gw_putF (q0 := 0) (T := TX7) (k := 0) (w' := [(q, .inr (7, [.ref q1, .null])), (q1, .inl (cc 0, 8, .inl (upd (upd (upd (upd (upd (upd (upd (upd (fun _ => 0) 0 (1 : Int32)) 1 (2 : Int32)) 2 (50 : Int32)) 3 (30 : Int32)) 4 (1 : Int32)) 5 (200 : Int32)) 6 (900 : Int32)) 7 (3 : Int32))))]) B hin hI rfl rfl ly_X7_init_7 tyX7 tyX7_ok nmX7 (by decide) m_X7_init_7 rfl rfl rfl rfl (Nat.le_of_ble_eq_true rfl) rfl dX7_init_49 (fun H locs hI => ?_)
  refine lv_aload_n hx hb dX7_init_52 rfl (lv_at hl 0 rfl) ?_
  refine lv_bipush (v := 8) hx hb dX7_init_53 (by decide) ?_
  refine gw_newa (t0 := 0) (N := 8) (ty := .int) B hI rfl rfl rfl (by decide +kernel) (by decide) rfl (Nat.le_of_ble_eq_true rfl) (Nat.le_of_ble_eq_true rfl) (Nat.le_of_ble_eq_true rfl) dX7_init_55 (fun q2 H hI => ?_)
  have hI : gw_I D A s.heap ([(q, .inr (7, [.ref q1, .null])), (q1, .inl (cc 0, 8, .inl (upd (upd (upd (upd (upd (upd (upd (upd (fun _ => 0) 0 (1 : Int32)) 1 (2 : Int32)) 2 (50 : Int32)) 3 (30 : Int32)) 4 (1 : Int32)) 5 (200 : Int32)) 6 (900 : Int32)) 7 (3 : Int32)))), (q2, .inl (cc 0, 8, .inl (fun _ => 0)))]) H _ := hI
  refine gw_putF (q0 := 0) (T := TX7) (k := 1) (w' := [(q, .inr (7, [.ref q1, .ref q2])), (q1, .inl (cc 0, 8, .inl (upd (upd (upd (upd (upd (upd (upd (upd (fun _ => 0) 0 (1 : Int32)) 1 (2 : Int32)) 2 (50 : Int32)) 3 (30 : Int32)) 4 (1 : Int32)) 5 (200 : Int32)) 6 (900 : Int32)) 7 (3 : Int32)))), (q2, .inl (cc 0, 8, .inl (fun _ => 0)))]) B hin hI rfl rfl ly_X7_init_7 tyX7 tyX7_ok nmX7 (by decide) m_X7_init_13 rfl rfl rfl rfl (Nat.le_of_ble_eq_true rfl) rfl dX7_init_57 (fun H locs hI => ?_)
  exact gw_vret (W' := (fun w => ∃ q1 q2, w = [(q, .inr (7, [.ref q1, .ref q2])), (q1, .inl (cc 0, 8, .inl (upd (upd (upd (upd (upd (upd (upd (upd (fun _ => 0) 0 (1 : Int32)) 1 (2 : Int32)) 2 (50 : Int32)) 3 (30 : Int32)) 4 (1 : Int32)) 5 (200 : Int32)) 6 (900 : Int32)) 7 (3 : Int32)))), (q2, .inl (cc 0, 8, .inl (fun _ => 0)))])) B hI ⟨q1, q2, rfl⟩ (Nat.le_of_ble_eq_true rfl) (Nat.le_of_ble_eq_true rfl) dX7_init_60
theorem m_X5_init_11 : Cond.fieldLink RX5 11 "GownLet$Sheet" "items" "[I" ∈ wsX5_init := by decide +kernel
theorem ly_X5_init_5 : ∀ w ∈ wsX50, w ∈ wsX5_init := fun w h => List.mem_cons_of_mem _ (List.mem_append_right _ h)
abbrev rm_X5_init : Room := { frames := 4, cells := 1, slots := 36, locals := 160 }
set_option maxRecDepth 100000 in
set_option maxHeartbeats 8000000 in
theorem k_X5_init (q : Nat)  : gw_M l yX5_init wsX5_init rm_X5_init 1 36 D (gw_ty cc) t1 t2 [.ref q] [(q, .inr (5, [.null, .int 0, .int 0, .int 0]))] (fun w => ∃ q1, w = [(q, .inr (5, [.ref q1, .int 0, .int 0, .int 0])), (q1, .inl (cc 0, 36, .inl (fun _ => 0)))]) none := by
  refine gw_enter (cc := cX5_init) (maxL := 1) (ret := none) (own := RX5) rfl (by decide) rfl (Nat.le_of_ble_eq_true rfl) ?_
  intro p e s m below meth c A B hin hI ls hl
  have hl : lv_has ls 1 [(0, .ref q)] := hl
  have hin : meth.name = "<init>" := hin
  generalize ([.ref q] : List Value).toArray = args at B ⊢
  have hx := B.1.1
  have hb := B.1.2.1
  refine lv_aload_n hx hb dX5_init_0 rfl (lv_at hl 0 rfl) ?_
  refine gw_ainit B (by decide +kernel) (by decide +kernel) (by decide +kernel) hl.1 dX5_init_1 (Nat.le_of_ble_eq_true rfl) (Nat.le_of_ble_eq_true rfl) ?_
  refine lv_aload_n hx hb dX5_init_4 rfl (lv_at hl 0 rfl) ?_
  refine lv_bipush (v := 36) hx hb dX5_init_5 (by decide) ?_
  refine gw_newa (t0 := 0) (N := 36) (ty := .int) B hI rfl rfl rfl (by decide +kernel) (by decide) rfl (Nat.le_of_ble_eq_true rfl) (Nat.le_of_ble_eq_true rfl) (Nat.le_of_ble_eq_true rfl) dX5_init_7 (fun q1 H hI => ?_)
  have hI : gw_I D A s.heap ([(q, .inr (5, [.null, .int 0, .int 0, .int 0])), (q1, .inl (cc 0, 36, .inl (fun _ => 0)))]) H _ := hI
  refine gw_putF (q0 := 0) (T := TX5) (k := 0) (w' := [(q, .inr (5, [.ref q1, .int 0, .int 0, .int 0])), (q1, .inl (cc 0, 36, .inl (fun _ => 0)))]) B hin hI rfl rfl ly_X5_init_5 tyX5 tyX5_ok nmX5 (by decide) m_X5_init_11 rfl rfl rfl rfl (Nat.le_of_ble_eq_true rfl) rfl dX5_init_9 (fun H locs hI => ?_)
  exact gw_vret (W' := (fun w => ∃ q1, w = [(q, .inr (5, [.ref q1, .int 0, .int 0, .int 0])), (q1, .inl (cc 0, 36, .inl (fun _ => 0)))])) B hI ⟨q1, rfl⟩ (Nat.le_of_ble_eq_true rfl) (Nat.le_of_ble_eq_true rfl) dX5_init_12
theorem m_X1_init_11 : Cond.fieldLink RX1 11 "GownLet$Chain" "source" "[I" ∈ wsX1_init := by decide +kernel
theorem m_X1_init_17 : Cond.fieldLink RX1 17 "GownLet$Chain" "nearest" "[I" ∈ wsX1_init := by decide +kernel
theorem m_X1_init_20 : Cond.fieldLink RX1 20 "GownLet$Chain" "takers" "[I" ∈ wsX1_init := by decide +kernel
theorem m_X1_init_23 : Cond.fieldLink RX1 23 "GownLet$Chain" "taken" "[I" ∈ wsX1_init := by decide +kernel
theorem m_X1_init_26 : Cond.fieldLink RX1 26 "GownLet$Chain" "house" "LGownLet$House;" ∈ wsX1_init := by decide +kernel
theorem ly_X1_init_1 : ∀ w ∈ wsX10, w ∈ wsX1_init := fun w h => List.mem_cons_of_mem _ (List.mem_append_right _ h)
abbrev rm_X1_init : Room := { frames := 4, cells := 4, slots := 758, locals := 160 }
set_option maxRecDepth 100000 in
set_option maxHeartbeats 8000000 in
theorem k_X1_init (q : Nat) (h1 : Nat) : gw_M l yX1_init wsX1_init rm_X1_init 4 758 D (gw_ty cc) t1 t2 [.ref q, .ref h1] [(q, .inr (1, [.null, .null, .null, .null, .null, .int 0]))] (fun w => ∃ q1 q2 q3 q4, w = [(q, .inr (1, [.ref h1, .ref q1, .ref q2, .ref q3, .ref q4, .int 0])), (q1, .inl (cc 0, 720, .inl (fun _ => 0))), (q2, .inl (cc 0, 30, .inl (fun _ => 0))), (q3, .inl (cc 0, 4, .inl (fun _ => 0))), (q4, .inl (cc 0, 4, .inl (fun _ => 0)))]) none := by
  refine gw_enter (cc := cX1_init) (maxL := 2) (ret := none) (own := RX1) rfl (by decide) rfl (Nat.le_of_ble_eq_true rfl) ?_
  intro p e s m below meth c A B hin hI ls hl
  have hl : lv_has ls 2 [(0, .ref q), (1, .ref h1)] := hl
  have hin : meth.name = "<init>" := hin
  generalize ([.ref q, .ref h1] : List Value).toArray = args at B ⊢
  have hx := B.1.1
  have hb := B.1.2.1
  refine lv_aload_n hx hb dX1_init_0 rfl (lv_at hl 0 rfl) ?_
  refine gw_ainit B (by decide +kernel) (by decide +kernel) (by decide +kernel) hl.1 dX1_init_1 (Nat.le_of_ble_eq_true rfl) (Nat.le_of_ble_eq_true rfl) ?_
  refine lv_aload_n hx hb dX1_init_4 rfl (lv_at hl 0 rfl) ?_
  refine lv_sipush (v := 720) hx hb dX1_init_5 (by decide) ?_
  refine gw_newa (t0 := 0) (N := 720) (ty := .int) B hI rfl rfl rfl (by decide +kernel) (by decide) rfl (Nat.le_of_ble_eq_true rfl) (Nat.le_of_ble_eq_true rfl) (Nat.le_of_ble_eq_true rfl) dX1_init_8 (fun q1 H hI => ?_)
  have hI : gw_I D A s.heap ([(q, .inr (1, [.null, .null, .null, .null, .null, .int 0])), (q1, .inl (cc 0, 720, .inl (fun _ => 0)))]) H _ := hI
  refine gw_putF (q0 := 0) (T := TX1) (k := 1) (w' := [(q, .inr (1, [.null, .ref q1, .null, .null, .null, .int 0])), (q1, .inl (cc 0, 720, .inl (fun _ => 0)))]) B hin hI rfl rfl ly_X1_init_1 tyX1 tyX1_ok nmX1 (by decide) m_X1_init_11 rfl rfl rfl rfl (Nat.le_of_ble_eq_true rfl) rfl dX1_init_10 (fun H locs hI => ?_)
  refine lv_aload_n hx hb dX1_init_13 rfl (lv_at hl 0 rfl) ?_
  refine lv_bipush (v := 30) hx hb dX1_init_14 (by decide) ?_
  refine gw_newa (t0 := 0) (N := 30) (ty := .int) B hI rfl rfl rfl (by decide +kernel) (by decide) rfl (Nat.le_of_ble_eq_true rfl) (Nat.le_of_ble_eq_true rfl) (Nat.le_of_ble_eq_true rfl) dX1_init_16 (fun q2 H hI => ?_)
  have hI : gw_I D A s.heap ([(q, .inr (1, [.null, .ref q1, .null, .null, .null, .int 0])), (q1, .inl (cc 0, 720, .inl (fun _ => 0))), (q2, .inl (cc 0, 30, .inl (fun _ => 0)))]) H _ := hI
  refine gw_putF (q0 := 0) (T := TX1) (k := 2) (w' := [(q, .inr (1, [.null, .ref q1, .ref q2, .null, .null, .int 0])), (q1, .inl (cc 0, 720, .inl (fun _ => 0))), (q2, .inl (cc 0, 30, .inl (fun _ => 0)))]) B hin hI rfl rfl ly_X1_init_1 tyX1 tyX1_ok nmX1 (by decide) m_X1_init_17 rfl rfl rfl rfl (Nat.le_of_ble_eq_true rfl) rfl dX1_init_18 (fun H locs hI => ?_)
  refine lv_aload_n hx hb dX1_init_21 rfl (lv_at hl 0 rfl) ?_
  refine lv_iconst (v := 4) hx hb dX1_init_22 (by decide) ?_
  refine gw_newa (t0 := 0) (N := 4) (ty := .int) B hI rfl rfl rfl (by decide +kernel) (by decide) rfl (Nat.le_of_ble_eq_true rfl) (Nat.le_of_ble_eq_true rfl) (Nat.le_of_ble_eq_true rfl) dX1_init_23 (fun q3 H hI => ?_)
  have hI : gw_I D A s.heap ([(q, .inr (1, [.null, .ref q1, .ref q2, .null, .null, .int 0])), (q1, .inl (cc 0, 720, .inl (fun _ => 0))), (q2, .inl (cc 0, 30, .inl (fun _ => 0))), (q3, .inl (cc 0, 4, .inl (fun _ => 0)))]) H _ := hI
  refine gw_putF (q0 := 0) (T := TX1) (k := 3) (w' := [(q, .inr (1, [.null, .ref q1, .ref q2, .ref q3, .null, .int 0])), (q1, .inl (cc 0, 720, .inl (fun _ => 0))), (q2, .inl (cc 0, 30, .inl (fun _ => 0))), (q3, .inl (cc 0, 4, .inl (fun _ => 0)))]) B hin hI rfl rfl ly_X1_init_1 tyX1 tyX1_ok nmX1 (by decide) m_X1_init_20 rfl rfl rfl rfl (Nat.le_of_ble_eq_true rfl) rfl dX1_init_25 (fun H locs hI => ?_)
  refine lv_aload_n hx hb dX1_init_28 rfl (lv_at hl 0 rfl) ?_
  refine lv_iconst (v := 4) hx hb dX1_init_29 (by decide) ?_
  refine gw_newa (t0 := 0) (N := 4) (ty := .int) B hI rfl rfl rfl (by decide +kernel) (by decide) rfl (Nat.le_of_ble_eq_true rfl) (Nat.le_of_ble_eq_true rfl) (Nat.le_of_ble_eq_true rfl) dX1_init_30 (fun q4 H hI => ?_)
  have hI : gw_I D A s.heap ([(q, .inr (1, [.null, .ref q1, .ref q2, .ref q3, .null, .int 0])), (q1, .inl (cc 0, 720, .inl (fun _ => 0))), (q2, .inl (cc 0, 30, .inl (fun _ => 0))), (q3, .inl (cc 0, 4, .inl (fun _ => 0))), (q4, .inl (cc 0, 4, .inl (fun _ => 0)))]) H _ := hI
  refine gw_putF (q0 := 0) (T := TX1) (k := 4) (w' := [(q, .inr (1, [.null, .ref q1, .ref q2, .ref q3, .ref q4, .int 0])), (q1, .inl (cc 0, 720, .inl (fun _ => 0))), (q2, .inl (cc 0, 30, .inl (fun _ => 0))), (q3, .inl (cc 0, 4, .inl (fun _ => 0))), (q4, .inl (cc 0, 4, .inl (fun _ => 0)))]) B hin hI rfl rfl ly_X1_init_1 tyX1 tyX1_ok nmX1 (by decide) m_X1_init_23 rfl rfl rfl rfl (Nat.le_of_ble_eq_true rfl) rfl dX1_init_32 (fun H locs hI => ?_)
  refine lv_aload_n hx hb dX1_init_35 rfl (lv_at hl 0 rfl) ?_
  refine lv_aload_n hx hb dX1_init_36 rfl (lv_at hl 1 rfl) ?_
  refine gw_putF (q0 := 0) (T := TX1) (k := 0) (w' := [(q, .inr (1, [.ref h1, .ref q1, .ref q2, .ref q3, .ref q4, .int 0])), (q1, .inl (cc 0, 720, .inl (fun _ => 0))), (q2, .inl (cc 0, 30, .inl (fun _ => 0))), (q3, .inl (cc 0, 4, .inl (fun _ => 0))), (q4, .inl (cc 0, 4, .inl (fun _ => 0)))]) B hin hI rfl rfl ly_X1_init_1 tyX1 tyX1_ok nmX1 (by decide) m_X1_init_26 rfl rfl rfl rfl (Nat.le_of_ble_eq_true rfl) rfl dX1_init_37 (fun H locs hI => ?_)
  exact gw_vret (W' := (fun w => ∃ q1 q2 q3 q4, w = [(q, .inr (1, [.ref h1, .ref q1, .ref q2, .ref q3, .ref q4, .int 0])), (q1, .inl (cc 0, 720, .inl (fun _ => 0))), (q2, .inl (cc 0, 30, .inl (fun _ => 0))), (q3, .inl (cc 0, 4, .inl (fun _ => 0))), (q4, .inl (cc 0, 4, .inl (fun _ => 0)))])) B hI ⟨q1, q2, q3, q4, rfl⟩ (Nat.le_of_ble_eq_true rfl) (Nat.le_of_ble_eq_true rfl) dX1_init_40
theorem m_X3_init_9 : Cond.fieldLink RX3 9 "GownLet$Lies" "span" "[I" ∈ wsX3_init := by decide +kernel
theorem ly_X3_init_3 : ∀ w ∈ wsX30, w ∈ wsX3_init := fun w h => List.mem_cons_of_mem _ (List.mem_append_right _ h)
set_option maxRecDepth 100000 in
set_option maxHeartbeats 4000000 in
theorem k_X3_init_t {p : Program} {e : Env} {R : Room} {s : State} {m : MethodId} {args : Array Value} {below : List Frame} {meth : Method} {c : Code} {A : Nat → Prop} {cl sl mc ms : Nat} {W9 : va_W → Prop} (hR : 24 ≤ R.frames ∧ 900 ≤ R.locals) (hc1 : cl ≤ R.cells) (hc2 : sl ≤ R.slots) (hm1 : cl ≤ mc) (hm2 : sl ≤ ms) (B : gw_B p s m args meth c cX3_init 4 wsX3_init RX3 none D (gw_ty cc) t1 t2 A) (S : gw_S) {zS : gw_S} (h : f_X3_init_t S = some zS) (hW9 : W9 (gw_lw cc a zS)) (H : Heap) (locs : List Loc) (ls : Array Slot) (hI : gw_I D A s.heap (gw_lw cc a S) H locs) (hl : lv_has ls 4 [(0, .ref (a 7))]) : W p l e R s m args below meth c H locs cl sl (MQ below (gw_Q none (gw_Pst D A W9) A) args s mc ms A) (F0 m 28 ls []) := by
  have hx := B.1.1
  have hb := B.1.2.1
  have hown : s.vm.findClass RX3 = some m.cls := B.1.2.2.2.1
  have hts := B.1.2.2.2.2
  have hb86 : ∀ (K30 : Int32 → gw_S → Option (gw_S)) (_ : ∀ (v1 : Int32) (S : gw_S), K30 v1 S = some zS → ∀ (H : Heap) (locs : List Loc) (ls : Array Slot), gw_I D A s.heap (gw_lw cc a S) H locs → lv_has ls 4 [(0, .ref (a 7)), (1, .int v1)] → W p l e R s m args below meth c H locs cl sl (MQ below (gw_Q none (gw_Pst D A W9) A) args s mc ms A) (F0 m 30 ls [])), ∀ (K38 : Int32 → Int32 → gw_S → Option (gw_S)) (_ : ∀ (v1 : Int32) (v2 : Int32) (S : gw_S), K38 v1 v2 S = some zS → ∀ (H : Heap) (locs : List Loc) (ls : Array Slot), gw_I D A s.heap (gw_lw cc a S) H locs → lv_has ls 4 [(0, .ref (a 7)), (1, .int v1), (2, .int v2)] → W p l e R s m args below meth c H locs cl sl (MQ below (gw_Q none (gw_Pst D A W9) A) args s mc ms A) (F0 m 38 ls [])), ∀ (v1 : Int32) (v2 : Int32) (t0_ : Int32) (t1_ : Int32) (S : gw_S), f_X3_init_t_b86 K30 K38 v1 v2 t0_ t1_ S = some zS → ∀ (H : Heap) (locs : List Loc) (ls : Array Slot), gw_I D A s.heap (gw_lw cc a S) H locs → lv_has ls 4 [(0, .ref (a 7)), (1, .int v1), (2, .int v2)] → W p l e R s m args below meth c H locs cl sl (MQ below (gw_Q none (gw_Pst D A W9) A) args s mc ms A) (F0 m 86 ls [.int t0_, .int t1_, .ref (a 8)]) := by
    intro K30 hK30 K38 hK38
    intro v1 v2 t0_ t1_ S h H locs ls hI hl
    unfold f_X3_init_t_b86 at h
    obtain ⟨g1, h⟩ := gw_gdE h
    obtain ⟨S2, e3, h⟩ := gw_letE h
    refine gw_iast (t0 := 0) (w' := gw_lw cc a S2) B hI gl_g8 rfl g1 (gl_s8 e3) dX3_init_86 (fun H locs hI => ?_)
    obtain ⟨y4, e5, h⟩ := gw_letE h
    refine lv_iinc (v := y4) (lv' := [(2, .int y4), (0, .ref (a 7)), (1, .int v1)]) hx hb dX3_init_87 hl (k := 2) rfl (by rw [e5]; rfl) (by decide) rfl (fun ls hl => ?_)
    refine lv_goto (tgt := 38) hx hb dX3_init_90 (by decide) ?_
    exact hK38 v1 y4 S2 h _ _ _ hI (lv_sub hl [1, 2, 0] rfl)
  have hb64 : ∀ (K30 : Int32 → gw_S → Option (gw_S)) (_ : ∀ (v1 : Int32) (S : gw_S), K30 v1 S = some zS → ∀ (H : Heap) (locs : List Loc) (ls : Array Slot), gw_I D A s.heap (gw_lw cc a S) H locs → lv_has ls 4 [(0, .ref (a 7)), (1, .int v1)] → W p l e R s m args below meth c H locs cl sl (MQ below (gw_Q none (gw_Pst D A W9) A) args s mc ms A) (F0 m 30 ls [])), ∀ (K38 : Int32 → Int32 → gw_S → Option (gw_S)) (_ : ∀ (v1 : Int32) (v2 : Int32) (S : gw_S), K38 v1 v2 S = some zS → ∀ (H : Heap) (locs : List Loc) (ls : Array Slot), gw_I D A s.heap (gw_lw cc a S) H locs → lv_has ls 4 [(0, .ref (a 7)), (1, .int v1), (2, .int v2)] → W p l e R s m args below meth c H locs cl sl (MQ below (gw_Q none (gw_Pst D A W9) A) args s mc ms A) (F0 m 38 ls [])), ∀ (v1 : Int32) (v2 : Int32) (t0_ : Int32) (t1_ : Int32) (S : gw_S), f_X3_init_t_b64 K30 K38 v1 v2 t0_ t1_ S = some zS → ∀ (H : Heap) (locs : List Loc) (ls : Array Slot), gw_I D A s.heap (gw_lw cc a S) H locs → lv_has ls 4 [(0, .ref (a 7)), (1, .int v1), (2, .int v2)] → W p l e R s m args below meth c H locs cl sl (MQ below (gw_Q none (gw_Pst D A W9) A) args s mc ms A) (F0 m 64 ls [.int t0_, .int t1_]) := by
    intro K30 hK30 K38 hK38
    intro v1 v2 t0_ t1_ S h H locs ls hI hl
    unfold f_X3_init_t_b64 at h
    refine lv_iadd hx hb dX3_init_64 ?_
    obtain ⟨y6, e7, h⟩ := gw_letE h
    rw [← e7]
    refine lv_istore_n (lv' := [(3, .int y6), (0, .ref (a 7)), (1, .int v1), (2, .int v2)]) hx hb dX3_init_65 rfl hl (by decide) rfl (fun ls hl => ?_)
    refine lv_aload_n hx hb dX3_init_66 rfl (lv_at hl 1 rfl) ?_
    refine gw_get (T := TX3) (k := 0) (v := .ref (a 8)) B hI gl_g7 rfl ly_X3_init_3 (by decide) m_X3_init_9 rfl rfl dX3_init_67 ?_
    refine lv_iload_n hx hb dX3_init_70 rfl (lv_at hl 2 rfl) ?_
    refine lv_bipush (v := 6) hx hb dX3_init_71 (by decide) ?_
    refine lv_imul hx hb dX3_init_73 ?_
    refine lv_iload_n hx hb dX3_init_74 rfl (lv_at hl 3 rfl) ?_
    refine lv_iadd hx hb dX3_init_75 ?_
    refine lv_iload_n hx hb dX3_init_76 rfl (lv_at hl 2 rfl) ?_
    refine lv_iload_n hx hb dX3_init_77 rfl (lv_at hl 3 rfl) ?_
    refine lv_icmp_ne (tgt := 85) hx hb dX3_init_78 (by decide) (fun c8 => ?_) (fun c8 => ?_)
    · replace h := gw_ifF c8 h
      refine lv_iload_n hx hb dX3_init_85 rfl (lv_at hl 0 rfl) ?_
      exact hb86 K30 hK30 K38 hK38 v1 v2 y6 ((v1 * (6 : Int32)) + v2) S h _ _ _ hI (lv_sub hl [1, 2, 3] rfl)
    · replace h := gw_ifT c8 h
      refine lv_iconst (v := 0) hx hb dX3_init_81 (by decide) ?_
      refine lv_goto (tgt := 86) hx hb dX3_init_82 (by decide) ?_
      exact hb86 K30 hK30 K38 hK38 v1 v2 (0 : Int32) ((v1 * (6 : Int32)) + v2) S h _ _ _ hI (lv_sub hl [1, 2, 3] rfl)
  have hb54 : ∀ (K30 : Int32 → gw_S → Option (gw_S)) (_ : ∀ (v1 : Int32) (S : gw_S), K30 v1 S = some zS → ∀ (H : Heap) (locs : List Loc) (ls : Array Slot), gw_I D A s.heap (gw_lw cc a S) H locs → lv_has ls 4 [(0, .ref (a 7)), (1, .int v1)] → W p l e R s m args below meth c H locs cl sl (MQ below (gw_Q none (gw_Pst D A W9) A) args s mc ms A) (F0 m 30 ls [])), ∀ (K38 : Int32 → Int32 → gw_S → Option (gw_S)) (_ : ∀ (v1 : Int32) (v2 : Int32) (S : gw_S), K38 v1 v2 S = some zS → ∀ (H : Heap) (locs : List Loc) (ls : Array Slot), gw_I D A s.heap (gw_lw cc a S) H locs → lv_has ls 4 [(0, .ref (a 7)), (1, .int v1), (2, .int v2)] → W p l e R s m args below meth c H locs cl sl (MQ below (gw_Q none (gw_Pst D A W9) A) args s mc ms A) (F0 m 38 ls [])), ∀ (v1 : Int32) (v2 : Int32) (t0_ : Int32) (S : gw_S), f_X3_init_t_b54 K30 K38 v1 v2 t0_ S = some zS → ∀ (H : Heap) (locs : List Loc) (ls : Array Slot), gw_I D A s.heap (gw_lw cc a S) H locs → lv_has ls 4 [(0, .ref (a 7)), (1, .int v1), (2, .int v2)] → W p l e R s m args below meth c H locs cl sl (MQ below (gw_Q none (gw_Pst D A W9) A) args s mc ms A) (F0 m 54 ls [.int t0_]) := by
    intro K30 hK30 K38 hK38
    intro v1 v2 t0_ S h H locs ls hI hl
    unfold f_X3_init_t_b54 at h
    refine lv_iload_n hx hb dX3_init_54 rfl (lv_at hl 2 rfl) ?_
    refine lv_if_ne (tgt := 62) hx hb dX3_init_55 (by decide) (fun c9 => ?_) (fun c9 => ?_)
    · replace h := gw_ifF c9 h
      refine lv_bipush (v := 9) hx hb dX3_init_62 (by decide) ?_
      exact hb64 K30 hK30 K38 hK38 v1 v2 (9 : Int32) t0_ S h _ _ _ hI (lv_sub hl [0, 1, 2] rfl)
    · replace h := gw_ifT c9 h
      refine lv_iconst (v := 0) hx hb dX3_init_58 (by decide) ?_
      refine lv_goto (tgt := 64) hx hb dX3_init_59 (by decide) ?_
      exact hb64 K30 hK30 K38 hK38 v1 v2 (0 : Int32) t0_ S h _ _ _ hI (lv_sub hl [0, 1, 2] rfl)
  have hb38 : ∀ (K30 : Int32 → gw_S → Option (gw_S)) (_ : ∀ (v1 : Int32) (S : gw_S), K30 v1 S = some zS → ∀ (H : Heap) (locs : List Loc) (ls : Array Slot), gw_I D A s.heap (gw_lw cc a S) H locs → lv_has ls 4 [(0, .ref (a 7)), (1, .int v1)] → W p l e R s m args below meth c H locs cl sl (MQ below (gw_Q none (gw_Pst D A W9) A) args s mc ms A) (F0 m 30 ls [])), ∀ (n : Nat), ∀ (v1 : Int32) (v2 : Int32) (S : gw_S), f_X3_init_t_b38 K30 n v1 v2 S = some zS → ∀ (H : Heap) (locs : List Loc) (ls : Array Slot), gw_I D A s.heap (gw_lw cc a S) H locs → lv_has ls 4 [(0, .ref (a 7)), (1, .int v1), (2, .int v2)] → W p l e R s m args below meth c H locs cl sl (MQ below (gw_Q none (gw_Pst D A W9) A) args s mc ms A) (F0 m 38 ls []) := by
    intro K30 hK30
    intro n
    induction n with
    | zero =>
      intro v1 v2 S h
      cases h
    | succ n ih =>
      intro v1 v2 S h H locs ls hI hl
      unfold f_X3_init_t_b38 at h
      refine lv_iload_n hx hb dX3_init_38 rfl (lv_at hl 2 rfl) ?_
      refine lv_bipush (v := 6) hx hb dX3_init_39 (by decide) ?_
      refine lv_icmp_ge (tgt := 93) hx hb dX3_init_41 (by decide) (fun c10 => ?_) (fun c10 => ?_)
      · replace h := gw_ifT c10 h
        obtain ⟨y11, e12, h⟩ := gw_letE h
        refine lv_iinc (v := y11) (lv' := [(1, .int y11), (0, .ref (a 7)), (2, .int v2)]) hx hb dX3_init_93 hl (k := 1) rfl (by rw [e12]; rfl) (by decide) rfl (fun ls hl => ?_)
        refine lv_goto (tgt := 30) hx hb dX3_init_96 (by decide) ?_
        exact hK30 y11 S h _ _ _ hI (lv_sub hl [1, 0] rfl)
      · replace h := gw_ifF c10 h
        refine lv_iload_n hx hb dX3_init_44 rfl (lv_at hl 1 rfl) ?_
        refine lv_if_ne (tgt := 52) hx hb dX3_init_45 (by decide) (fun c13 => ?_) (fun c13 => ?_)
        · replace h := gw_ifF c13 h
          refine lv_bipush (v := 9) hx hb dX3_init_52 (by decide) ?_
          exact hb54 K30 hK30 (f_X3_init_t_b38 K30 n) ih v1 v2 (9 : Int32) S h _ _ _ hI (lv_sub hl [0, 1, 2] rfl)
        · replace h := gw_ifT c13 h
          refine lv_iconst (v := 0) hx hb dX3_init_48 (by decide) ?_
          refine lv_goto (tgt := 54) hx hb dX3_init_49 (by decide) ?_
          exact hb54 K30 hK30 (f_X3_init_t_b38 K30 n) ih v1 v2 (0 : Int32) S h _ _ _ hI (lv_sub hl [0, 1, 2] rfl)
  have hb30 :  ∀ (n : Nat), ∀ (v1 : Int32) (S : gw_S), f_X3_init_t_b30  n v1 S = some zS → ∀ (H : Heap) (locs : List Loc) (ls : Array Slot), gw_I D A s.heap (gw_lw cc a S) H locs → lv_has ls 4 [(0, .ref (a 7)), (1, .int v1)] → W p l e R s m args below meth c H locs cl sl (MQ below (gw_Q none (gw_Pst D A W9) A) args s mc ms A) (F0 m 30 ls []) := by
    intro n
    induction n with
    | zero =>
      intro v1 S h
      cases h
    | succ n ih =>
      intro v1 S h H locs ls hI hl
      unfold f_X3_init_t_b30 at h
      refine lv_iload_n hx hb dX3_init_30 rfl (lv_at hl 1 rfl) ?_
      refine lv_bipush (v := 6) hx hb dX3_init_31 (by decide) ?_
      refine lv_icmp_ge (tgt := 99) hx hb dX3_init_33 (by decide) (fun c14 => ?_) (fun c14 => ?_)
      · replace h := gw_ifT c14 h
        refine lv_aload_n hx hb dX3_init_99 rfl (lv_at hl 0 rfl) ?_
        obtain ⟨S15, e16, h⟩ := gw_bdE h
        refine gw_callVv (As := []) (n := 0) B hI (k_X3_readEnds_l  S e16) gX3_init_X3_readEnds rfl rfl rfl nd_X3_readEnds ⟨Nat.le_trans (Nat.le_of_ble_eq_true rfl) hR.1, Nat.le_trans (Nat.le_of_ble_eq_true rfl) hR.2⟩ gl_g7 rfl rfl rfl hl.1 (Nat.zero_le _) dX3_init_100 ⟨hc1, hc2⟩ rfl (fun w' H locs hw hI => ?_)
        subst hw
        rw [Option.some.inj h] at hI
        exact gw_vret (W' := W9) B hI hW9 hm1 hm2 dX3_init_103
      · replace h := gw_ifF c14 h
        refine lv_iconst (v := 0) hx hb dX3_init_36 (by decide) ?_
        refine lv_istore_n (lv' := [(2, .int (0 : Int32)), (0, .ref (a 7)), (1, .int v1)]) hx hb dX3_init_37 rfl hl (by decide) rfl (fun ls hl => ?_)
        exact hb38 (f_X3_init_t_b30  n) ih gw_F v1 (0 : Int32) S h _ _ _ hI (lv_sub hl [1, 2, 0] rfl)
  unfold f_X3_init_t at h
  refine lv_iconst (v := 0) hx hb dX3_init_28 (by decide) ?_
  refine lv_istore_n (lv' := [(1, .int (0 : Int32)), (0, .ref (a 7))]) hx hb dX3_init_29 rfl hl (by decide) rfl (fun ls hl => ?_)
  exact hb30  gw_F (0 : Int32) S h _ _ _ hI (lv_sub hl [1, 0] rfl)
theorem m_X2_init_25 : Cond.fieldLink RX2 25 "GownLet$House" "post" "[I" ∈ wsX2_init := by decide +kernel
theorem ly_X2_init_2 : ∀ w ∈ wsX20, w ∈ wsX2_init := fun w h => List.mem_cons_of_mem _ (List.mem_append_left _ (List.mem_append_right _ h))
set_option maxRecDepth 100000 in
set_option maxHeartbeats 4000000 in
theorem k_X2_init_t {p : Program} {e : Env} {R : Room} {s : State} {m : MethodId} {args : Array Value} {below : List Frame} {meth : Method} {c : Code} {A : Nat → Prop} {cl sl mc ms : Nat} {W9 : va_W → Prop} (hR : 24 ≤ R.frames ∧ 900 ≤ R.locals) (hc1 : cl ≤ R.cells) (hc2 : sl ≤ R.slots) (hm1 : cl ≤ mc) (hm2 : sl ≤ ms) (B : gw_B p s m args meth c cX2_init 3 wsX2_init RX2 none D (gw_ty cc) t1 t2 A) (S : gw_S) {zS : gw_S} (h : f_X2_init_t S = some zS) (hW9 : W9 (gw_hw cc a b d zS)) (H : Heap) (locs : List Loc) (ls : Array Slot) (hI : gw_I D A s.heap (gw_hw cc a b d S) H locs) (hl : lv_has ls 3 [(0, .ref (a 3))]) : W p l e R s m args below meth c H locs cl sl (MQ below (gw_Q none (gw_Pst D A W9) A) args s mc ms A) (F0 m 60 ls []) := by
  have hx := B.1.1
  have hb := B.1.2.1
  have hown : s.vm.findClass RX2 = some m.cls := B.1.2.2.2.1
  have hts := B.1.2.2.2.2
  have hb96 : ∀ (K62 : Int32 → gw_S → Option (gw_S)) (_ : ∀ (v1 : Int32) (S : gw_S), K62 v1 S = some zS → ∀ (H : Heap) (locs : List Loc) (ls : Array Slot), gw_I D A s.heap (gw_hw cc a b d S) H locs → lv_has ls 3 [(0, .ref (a 3)), (1, .int v1)] → W p l e R s m args below meth c H locs cl sl (MQ below (gw_Q none (gw_Pst D A W9) A) args s mc ms A) (F0 m 62 ls [])), ∀ (K70 : Int32 → Int32 → gw_S → Option (gw_S)) (_ : ∀ (v1 : Int32) (v2 : Int32) (S : gw_S), K70 v1 v2 S = some zS → ∀ (H : Heap) (locs : List Loc) (ls : Array Slot), gw_I D A s.heap (gw_hw cc a b d S) H locs → lv_has ls 3 [(0, .ref (a 3)), (1, .int v1), (2, .int v2)] → W p l e R s m args below meth c H locs cl sl (MQ below (gw_Q none (gw_Pst D A W9) A) args s mc ms A) (F0 m 70 ls [])), ∀ (v1 : Int32) (v2 : Int32) (t0_ : Int32) (t1_ : Int32) (S : gw_S), f_X2_init_t_b96 K62 K70 v1 v2 t0_ t1_ S = some zS → ∀ (H : Heap) (locs : List Loc) (ls : Array Slot), gw_I D A s.heap (gw_hw cc a b d S) H locs → lv_has ls 3 [(0, .ref (a 3)), (1, .int v1), (2, .int v2)] → W p l e R s m args below meth c H locs cl sl (MQ below (gw_Q none (gw_Pst D A W9) A) args s mc ms A) (F0 m 96 ls [.int t0_, .int t1_, .ref (a 11)]) := by
    intro K62 hK62 K70 hK70
    intro v1 v2 t0_ t1_ S h H locs ls hI hl
    unfold f_X2_init_t_b96 at h
    obtain ⟨g1, h⟩ := gw_gdE h
    obtain ⟨S2, e3, h⟩ := gw_letE h
    refine gw_iast (t0 := 0) (w' := gw_hw cc a b d S2) B hI gh_g11 rfl g1 (gh_s11 e3) dX2_init_96 (fun H locs hI => ?_)
    obtain ⟨y4, e5, h⟩ := gw_letE h
    refine lv_iinc (v := y4) (lv' := [(2, .int y4), (0, .ref (a 3)), (1, .int v1)]) hx hb dX2_init_97 hl (k := 2) rfl (by rw [e5]; rfl) (by decide) rfl (fun ls hl => ?_)
    refine lv_goto (tgt := 70) hx hb dX2_init_100 (by decide) ?_
    exact hK70 v1 y4 S2 h _ _ _ hI (lv_sub hl [1, 2, 0] rfl)
  have hb70 : ∀ (K62 : Int32 → gw_S → Option (gw_S)) (_ : ∀ (v1 : Int32) (S : gw_S), K62 v1 S = some zS → ∀ (H : Heap) (locs : List Loc) (ls : Array Slot), gw_I D A s.heap (gw_hw cc a b d S) H locs → lv_has ls 3 [(0, .ref (a 3)), (1, .int v1)] → W p l e R s m args below meth c H locs cl sl (MQ below (gw_Q none (gw_Pst D A W9) A) args s mc ms A) (F0 m 62 ls [])), ∀ (n : Nat), ∀ (v1 : Int32) (v2 : Int32) (S : gw_S), f_X2_init_t_b70 K62 n v1 v2 S = some zS → ∀ (H : Heap) (locs : List Loc) (ls : Array Slot), gw_I D A s.heap (gw_hw cc a b d S) H locs → lv_has ls 3 [(0, .ref (a 3)), (1, .int v1), (2, .int v2)] → W p l e R s m args below meth c H locs cl sl (MQ below (gw_Q none (gw_Pst D A W9) A) args s mc ms A) (F0 m 70 ls []) := by
    intro K62 hK62
    intro n
    induction n with
    | zero =>
      intro v1 v2 S h
      cases h
    | succ n ih =>
      intro v1 v2 S h H locs ls hI hl
      unfold f_X2_init_t_b70 at h
      refine lv_iload_n hx hb dX2_init_70 rfl (lv_at hl 2 rfl) ?_
      refine lv_bipush (v := 9) hx hb dX2_init_71 (by decide) ?_
      refine lv_icmp_ge (tgt := 103) hx hb dX2_init_73 (by decide) (fun c6 => ?_) (fun c6 => ?_)
      · replace h := gw_ifT c6 h
        obtain ⟨y7, e8, h⟩ := gw_letE h
        refine lv_iinc (v := y7) (lv' := [(1, .int y7), (0, .ref (a 3)), (2, .int v2)]) hx hb dX2_init_103 hl (k := 1) rfl (by rw [e8]; rfl) (by decide) rfl (fun ls hl => ?_)
        refine lv_goto (tgt := 62) hx hb dX2_init_106 (by decide) ?_
        exact hK62 y7 S h _ _ _ hI (lv_sub hl [1, 0] rfl)
      · replace h := gw_ifF c6 h
        refine lv_aload_n hx hb dX2_init_76 rfl (lv_at hl 0 rfl) ?_
        refine gw_get (T := TX2) (k := 2) (v := .ref (a 11)) B hI gh_g3 rfl ly_X2_init_2 (by decide) m_X2_init_25 rfl rfl dX2_init_77 ?_
        refine lv_iload_n hx hb dX2_init_80 rfl (lv_at hl 1 rfl) ?_
        refine lv_bipush (v := 9) hx hb dX2_init_81 (by decide) ?_
        refine lv_imul hx hb dX2_init_83 ?_
        refine lv_iload_n hx hb dX2_init_84 rfl (lv_at hl 2 rfl) ?_
        refine lv_iadd hx hb dX2_init_85 ?_
        refine lv_iload_n hx hb dX2_init_86 rfl (lv_at hl 1 rfl) ?_
        refine lv_iload_n hx hb dX2_init_87 rfl (lv_at hl 2 rfl) ?_
        refine lv_icmp_ne (tgt := 95) hx hb dX2_init_88 (by decide) (fun c9 => ?_) (fun c9 => ?_)
        · replace h := gw_ifF c9 h
          refine lv_iconst (v := 1) hx hb dX2_init_95 (by decide) ?_
          exact hb96 K62 hK62 (f_X2_init_t_b70 K62 n) ih v1 v2 (1 : Int32) ((v1 * (9 : Int32)) + v2) S h _ _ _ hI (lv_sub hl [0, 1, 2] rfl)
        · replace h := gw_ifT c9 h
          refine lv_iconst (v := 0) hx hb dX2_init_91 (by decide) ?_
          refine lv_goto (tgt := 96) hx hb dX2_init_92 (by decide) ?_
          exact hb96 K62 hK62 (f_X2_init_t_b70 K62 n) ih v1 v2 (0 : Int32) ((v1 * (9 : Int32)) + v2) S h _ _ _ hI (lv_sub hl [0, 1, 2] rfl)
  have hb62 :  ∀ (n : Nat), ∀ (v1 : Int32) (S : gw_S), f_X2_init_t_b62  n v1 S = some zS → ∀ (H : Heap) (locs : List Loc) (ls : Array Slot), gw_I D A s.heap (gw_hw cc a b d S) H locs → lv_has ls 3 [(0, .ref (a 3)), (1, .int v1)] → W p l e R s m args below meth c H locs cl sl (MQ below (gw_Q none (gw_Pst D A W9) A) args s mc ms A) (F0 m 62 ls []) := by
    intro n
    induction n with
    | zero =>
      intro v1 S h
      cases h
    | succ n ih =>
      intro v1 S h H locs ls hI hl
      unfold f_X2_init_t_b62 at h
      refine lv_iload_n hx hb dX2_init_62 rfl (lv_at hl 1 rfl) ?_
      refine lv_bipush (v := 9) hx hb dX2_init_63 (by decide) ?_
      refine lv_icmp_ge (tgt := 109) hx hb dX2_init_65 (by decide) (fun c10 => ?_) (fun c10 => ?_)
      · replace h := gw_ifT c10 h
        rw [Option.some.inj h] at hI
        exact gw_vret (W' := W9) B hI hW9 hm1 hm2 dX2_init_109
      · replace h := gw_ifF c10 h
        refine lv_iconst (v := 0) hx hb dX2_init_68 (by decide) ?_
        refine lv_istore_n (lv' := [(2, .int (0 : Int32)), (0, .ref (a 3)), (1, .int v1)]) hx hb dX2_init_69 rfl hl (by decide) rfl (fun ls hl => ?_)
        exact hb70 (f_X2_init_t_b62  n) ih gw_F v1 (0 : Int32) S h _ _ _ hI (lv_sub hl [1, 2, 0] rfl)
  unfold f_X2_init_t at h
  refine lv_iconst (v := 0) hx hb dX2_init_60 (by decide) ?_
  refine lv_istore_n (lv' := [(1, .int (0 : Int32)), (0, .ref (a 3))]) hx hb dX2_init_61 rfl hl (by decide) rfl (fun ls hl => ?_)
  exact hb62  gw_F (0 : Int32) S h _ _ _ hI (lv_sub hl [1, 0] rfl)
theorem m_X9_init_137 : Cond.fieldLink RX9 137 "GownLetModel" "lanes" "[I" ∈ wsX9_init := by decide +kernel
theorem m_X9_init_25 : Cond.fieldLink RX9 25 "GownLetModel" "posts" "[I" ∈ wsX9_init := by decide +kernel
theorem ly_X9_init_9 : ∀ w ∈ wsX90, w ∈ wsX9_init := fun w h => List.mem_cons_of_mem _ (List.mem_append_right _ h)
set_option maxRecDepth 100000 in
set_option maxHeartbeats 4000000 in
theorem k_X9_init_t {p : Program} {e : Env} {R : Room} {s : State} {m : MethodId} {args : Array Value} {below : List Frame} {meth : Method} {c : Code} {A : Nat → Prop} {cl sl mc ms : Nat} {W9 : va_W → Prop} (hR : 24 ≤ R.frames ∧ 900 ≤ R.locals) (hc1 : cl ≤ R.cells) (hc2 : sl ≤ R.slots) (hm1 : cl ≤ mc) (hm2 : sl ≤ ms) (B : gw_B p s m args meth c cX9_init 3 wsX9_init RX9 none D (gw_ty cc) t1 t2 A) (S : gw_S) {zS : gw_S} (h : f_X9_init_t S = some zS) (hW9 : W9 (gw_mw cc a zS)) (H : Heap) (locs : List Loc) (ls : Array Slot) (hI : gw_I D A s.heap (gw_mw cc a S) H locs) (hl : lv_has ls 3 [(0, .ref (a 0))]) : W p l e R s m args below meth c H locs cl sl (MQ below (gw_Q none (gw_Pst D A W9) A) args s mc ms A) (F0 m 489 ls []) := by
  have hx := B.1.1
  have hb := B.1.2.1
  have hown : s.vm.findClass RX9 = some m.cls := B.1.2.2.2.1
  have hts := B.1.2.2.2.2
  have hb540 :  ∀ (n : Nat), ∀ (v1 : Int32) (S : gw_S), f_X9_init_t_b540  n v1 S = some zS → ∀ (H : Heap) (locs : List Loc) (ls : Array Slot), gw_I D A s.heap (gw_mw cc a S) H locs → lv_has ls 3 [(0, .ref (a 0)), (1, .int v1)] → W p l e R s m args below meth c H locs cl sl (MQ below (gw_Q none (gw_Pst D A W9) A) args s mc ms A) (F0 m 540 ls []) := by
    intro n
    induction n with
    | zero =>
      intro v1 S h
      cases h
    | succ n ih =>
      intro v1 S h H locs ls hI hl
      unfold f_X9_init_t_b540 at h
      refine lv_iload_n hx hb dX9_init_540 rfl (lv_at hl 1 rfl) ?_
      refine lv_iconst (v := 4) hx hb dX9_init_541 (by decide) ?_
      refine lv_icmp_ge (tgt := 558) hx hb dX9_init_542 (by decide) (fun c1 => ?_) (fun c1 => ?_)
      · replace h := gw_ifT c1 h
        rw [Option.some.inj h] at hI
        exact gw_vret (W' := W9) B hI hW9 hm1 hm2 dX9_init_558
      · replace h := gw_ifF c1 h
        refine lv_aload_n hx hb dX9_init_545 rfl (lv_at hl 0 rfl) ?_
        refine gw_get (T := TX9) (k := 48) (v := .ref (a 43)) B hI gm_g0 rfl ly_X9_init_9 (by decide) m_X9_init_137 rfl rfl dX9_init_546 ?_
        refine lv_iload_n hx hb dX9_init_549 rfl (lv_at hl 1 rfl) ?_
        refine lv_iconst (v := -1) hx hb dX9_init_550 (by decide) ?_
        obtain ⟨g2, h⟩ := gw_gdE h
        obtain ⟨S3, e4, h⟩ := gw_letE h
        refine gw_iast (t0 := 0) (w' := gw_mw cc a S3) B hI gm_g43 rfl g2 (gm_s43 e4) dX9_init_551 (fun H locs hI => ?_)
        obtain ⟨y5, e6, h⟩ := gw_letE h
        refine lv_iinc (v := y5) (lv' := [(1, .int y5), (0, .ref (a 0))]) hx hb dX9_init_552 hl (k := 1) rfl (by rw [e6]; rfl) (by decide) rfl (fun ls hl => ?_)
        refine lv_goto (tgt := 540) hx hb dX9_init_555 (by decide) ?_
        exact ih y5 S3 h _ _ _ hI (lv_sub hl [1, 0] rfl)
  have hb525 : ∀ (K491 : Int32 → gw_S → Option (gw_S)) (_ : ∀ (v1 : Int32) (S : gw_S), K491 v1 S = some zS → ∀ (H : Heap) (locs : List Loc) (ls : Array Slot), gw_I D A s.heap (gw_mw cc a S) H locs → lv_has ls 3 [(0, .ref (a 0)), (1, .int v1)] → W p l e R s m args below meth c H locs cl sl (MQ below (gw_Q none (gw_Pst D A W9) A) args s mc ms A) (F0 m 491 ls [])), ∀ (K499 : Int32 → Int32 → gw_S → Option (gw_S)) (_ : ∀ (v1 : Int32) (v2 : Int32) (S : gw_S), K499 v1 v2 S = some zS → ∀ (H : Heap) (locs : List Loc) (ls : Array Slot), gw_I D A s.heap (gw_mw cc a S) H locs → lv_has ls 3 [(0, .ref (a 0)), (1, .int v1), (2, .int v2)] → W p l e R s m args below meth c H locs cl sl (MQ below (gw_Q none (gw_Pst D A W9) A) args s mc ms A) (F0 m 499 ls [])), ∀ (v1 : Int32) (v2 : Int32) (t0_ : Int32) (t1_ : Int32) (S : gw_S), f_X9_init_t_b525 K491 K499 v1 v2 t0_ t1_ S = some zS → ∀ (H : Heap) (locs : List Loc) (ls : Array Slot), gw_I D A s.heap (gw_mw cc a S) H locs → lv_has ls 3 [(0, .ref (a 0)), (1, .int v1), (2, .int v2)] → W p l e R s m args below meth c H locs cl sl (MQ below (gw_Q none (gw_Pst D A W9) A) args s mc ms A) (F0 m 525 ls [.int t0_, .int t1_, .ref (a 6)]) := by
    intro K491 hK491 K499 hK499
    intro v1 v2 t0_ t1_ S h H locs ls hI hl
    unfold f_X9_init_t_b525 at h
    obtain ⟨g7, h⟩ := gw_gdE h
    obtain ⟨S8, e9, h⟩ := gw_letE h
    refine gw_iast (t0 := 0) (w' := gw_mw cc a S8) B hI gm_g6 rfl g7 (gm_s6 e9) dX9_init_525 (fun H locs hI => ?_)
    obtain ⟨y10, e11, h⟩ := gw_letE h
    refine lv_iinc (v := y10) (lv' := [(2, .int y10), (0, .ref (a 0)), (1, .int v1)]) hx hb dX9_init_526 hl (k := 2) rfl (by rw [e11]; rfl) (by decide) rfl (fun ls hl => ?_)
    refine lv_goto (tgt := 499) hx hb dX9_init_529 (by decide) ?_
    exact hK499 v1 y10 S8 h _ _ _ hI (lv_sub hl [1, 2, 0] rfl)
  have hb499 : ∀ (K491 : Int32 → gw_S → Option (gw_S)) (_ : ∀ (v1 : Int32) (S : gw_S), K491 v1 S = some zS → ∀ (H : Heap) (locs : List Loc) (ls : Array Slot), gw_I D A s.heap (gw_mw cc a S) H locs → lv_has ls 3 [(0, .ref (a 0)), (1, .int v1)] → W p l e R s m args below meth c H locs cl sl (MQ below (gw_Q none (gw_Pst D A W9) A) args s mc ms A) (F0 m 491 ls [])), ∀ (n : Nat), ∀ (v1 : Int32) (v2 : Int32) (S : gw_S), f_X9_init_t_b499 K491 n v1 v2 S = some zS → ∀ (H : Heap) (locs : List Loc) (ls : Array Slot), gw_I D A s.heap (gw_mw cc a S) H locs → lv_has ls 3 [(0, .ref (a 0)), (1, .int v1), (2, .int v2)] → W p l e R s m args below meth c H locs cl sl (MQ below (gw_Q none (gw_Pst D A W9) A) args s mc ms A) (F0 m 499 ls []) := by
    intro K491 hK491
    intro n
    induction n with
    | zero =>
      intro v1 v2 S h
      cases h
    | succ n ih =>
      intro v1 v2 S h H locs ls hI hl
      unfold f_X9_init_t_b499 at h
      refine lv_iload_n hx hb dX9_init_499 rfl (lv_at hl 2 rfl) ?_
      refine lv_bipush (v := 9) hx hb dX9_init_500 (by decide) ?_
      refine lv_icmp_ge (tgt := 532) hx hb dX9_init_502 (by decide) (fun c12 => ?_) (fun c12 => ?_)
      · replace h := gw_ifT c12 h
        obtain ⟨y13, e14, h⟩ := gw_letE h
        refine lv_iinc (v := y13) (lv' := [(1, .int y13), (0, .ref (a 0)), (2, .int v2)]) hx hb dX9_init_532 hl (k := 1) rfl (by rw [e14]; rfl) (by decide) rfl (fun ls hl => ?_)
        refine lv_goto (tgt := 491) hx hb dX9_init_535 (by decide) ?_
        exact hK491 y13 S h _ _ _ hI (lv_sub hl [1, 0] rfl)
      · replace h := gw_ifF c12 h
        refine lv_aload_n hx hb dX9_init_505 rfl (lv_at hl 0 rfl) ?_
        refine gw_get (T := TX9) (k := 7) (v := .ref (a 6)) B hI gm_g0 rfl ly_X9_init_9 (by decide) m_X9_init_25 rfl rfl dX9_init_506 ?_
        refine lv_bipush (v := 9) hx hb dX9_init_509 (by decide) ?_
        refine lv_iload_n hx hb dX9_init_511 rfl (lv_at hl 1 rfl) ?_
        refine lv_imul hx hb dX9_init_512 ?_
        refine lv_iload_n hx hb dX9_init_513 rfl (lv_at hl 2 rfl) ?_
        refine lv_iadd hx hb dX9_init_514 ?_
        refine lv_iload_n hx hb dX9_init_515 rfl (lv_at hl 1 rfl) ?_
        refine lv_iload_n hx hb dX9_init_516 rfl (lv_at hl 2 rfl) ?_
        refine lv_icmp_ne (tgt := 524) hx hb dX9_init_517 (by decide) (fun c15 => ?_) (fun c15 => ?_)
        · replace h := gw_ifF c15 h
          refine lv_iconst (v := 1) hx hb dX9_init_524 (by decide) ?_
          exact hb525 K491 hK491 (f_X9_init_t_b499 K491 n) ih v1 v2 (1 : Int32) (((9 : Int32) * v1) + v2) S h _ _ _ hI (lv_sub hl [0, 1, 2] rfl)
        · replace h := gw_ifT c15 h
          refine lv_iconst (v := 0) hx hb dX9_init_520 (by decide) ?_
          refine lv_goto (tgt := 525) hx hb dX9_init_521 (by decide) ?_
          exact hb525 K491 hK491 (f_X9_init_t_b499 K491 n) ih v1 v2 (0 : Int32) (((9 : Int32) * v1) + v2) S h _ _ _ hI (lv_sub hl [0, 1, 2] rfl)
  have hb491 :  ∀ (n : Nat), ∀ (v1 : Int32) (S : gw_S), f_X9_init_t_b491  n v1 S = some zS → ∀ (H : Heap) (locs : List Loc) (ls : Array Slot), gw_I D A s.heap (gw_mw cc a S) H locs → lv_has ls 3 [(0, .ref (a 0)), (1, .int v1)] → W p l e R s m args below meth c H locs cl sl (MQ below (gw_Q none (gw_Pst D A W9) A) args s mc ms A) (F0 m 491 ls []) := by
    intro n
    induction n with
    | zero =>
      intro v1 S h
      cases h
    | succ n ih =>
      intro v1 S h H locs ls hI hl
      unfold f_X9_init_t_b491 at h
      refine lv_iload_n hx hb dX9_init_491 rfl (lv_at hl 1 rfl) ?_
      refine lv_bipush (v := 9) hx hb dX9_init_492 (by decide) ?_
      refine lv_icmp_ge (tgt := 538) hx hb dX9_init_494 (by decide) (fun c16 => ?_) (fun c16 => ?_)
      · replace h := gw_ifT c16 h
        refine lv_iconst (v := 0) hx hb dX9_init_538 (by decide) ?_
        refine lv_istore_n (lv' := [(1, .int (0 : Int32)), (0, .ref (a 0))]) hx hb dX9_init_539 rfl hl (by decide) rfl (fun ls hl => ?_)
        exact hb540  gw_F (0 : Int32) S h _ _ _ hI (lv_sub hl [1, 0] rfl)
      · replace h := gw_ifF c16 h
        refine lv_iconst (v := 0) hx hb dX9_init_497 (by decide) ?_
        refine lv_istore_n (lv' := [(2, .int (0 : Int32)), (0, .ref (a 0)), (1, .int v1)]) hx hb dX9_init_498 rfl hl (by decide) rfl (fun ls hl => ?_)
        exact hb499 (f_X9_init_t_b491  n) ih gw_F v1 (0 : Int32) S h _ _ _ hI (lv_sub hl [1, 2, 0] rfl)
  unfold f_X9_init_t at h
  refine lv_iconst (v := 0) hx hb dX9_init_489 (by decide) ?_
  refine lv_istore_n (lv' := [(1, .int (0 : Int32)), (0, .ref (a 0))]) hx hb dX9_init_490 rfl hl (by decide) rfl (fun ls hl => ?_)
  exact hb491  gw_F (0 : Int32) S h _ _ _ hI (lv_sub hl [1, 0] rfl)
end
