theorem nds_L_cell : yL_cell.cls ≠ "java/lang/invoke/MethodHandle" ∧ yL_cell.cls ≠ "java/lang/invoke/VarHandle" ∧ (parseMethodDescriptor yL_cell.desc).map (fun d => d.parameters.length) = some 2 := by decide +kernel
theorem nds_L_some : yL_some.cls ≠ "java/lang/invoke/MethodHandle" ∧ yL_some.cls ≠ "java/lang/invoke/VarHandle" ∧ (parseMethodDescriptor yL_some.desc).map (fun d => d.parameters.length) = some 2 := by decide +kernel
theorem nds_L_pieces : yL_pieces.cls ≠ "java/lang/invoke/MethodHandle" ∧ yL_pieces.cls ≠ "java/lang/invoke/VarHandle" ∧ (parseMethodDescriptor yL_pieces.desc).map (fun d => d.parameters.length) = some 5 := by decide +kernel
theorem nds_L_books : yL_books.cls ≠ "java/lang/invoke/MethodHandle" ∧ yL_books.cls ≠ "java/lang/invoke/VarHandle" ∧ (parseMethodDescriptor yL_books.desc).map (fun d => d.parameters.length) = some 5 := by decide +kernel
theorem ndl_X8_away : yX8_away.cls = RX8 ∧ yX8_away.cls ≠ "java/lang/invoke/MethodHandle" ∧ yX8_away.cls ≠ "java/lang/invoke/VarHandle" ∧ (parseMethodDescriptor yX8_away.desc).map (fun d => d.parameters.length) = some 3 := by decide +kernel
theorem ndl_X8_book : yX8_book.cls = RX8 ∧ yX8_book.cls ≠ "java/lang/invoke/MethodHandle" ∧ yX8_book.cls ≠ "java/lang/invoke/VarHandle" ∧ (parseMethodDescriptor yX8_book.desc).map (fun d => d.parameters.length) = some 6 := by decide +kernel
theorem ndl_X8_chain : yX8_chain.cls = RX8 ∧ yX8_chain.cls ≠ "java/lang/invoke/MethodHandle" ∧ yX8_chain.cls ≠ "java/lang/invoke/VarHandle" ∧ (parseMethodDescriptor yX8_chain.desc).map (fun d => d.parameters.length) = some 1 := by decide +kernel
theorem ndl_X8_count : yX8_count.cls = RX8 ∧ yX8_count.cls ≠ "java/lang/invoke/MethodHandle" ∧ yX8_count.cls ≠ "java/lang/invoke/VarHandle" ∧ (parseMethodDescriptor yX8_count.desc).map (fun d => d.parameters.length) = some 1 := by decide +kernel
theorem ndl_X8_fits : yX8_fits.cls = RX8 ∧ yX8_fits.cls ≠ "java/lang/invoke/MethodHandle" ∧ yX8_fits.cls ≠ "java/lang/invoke/VarHandle" ∧ (parseMethodDescriptor yX8_fits.desc).map (fun d => d.parameters.length) = some 3 := by decide +kernel
theorem ndl_X8_free : yX8_free.cls = RX8 ∧ yX8_free.cls ≠ "java/lang/invoke/MethodHandle" ∧ yX8_free.cls ≠ "java/lang/invoke/VarHandle" ∧ (parseMethodDescriptor yX8_free.desc).map (fun d => d.parameters.length) = some 2 := by decide +kernel
theorem ndl_X8_give : yX8_give.cls = RX8 ∧ yX8_give.cls ≠ "java/lang/invoke/MethodHandle" ∧ yX8_give.cls ≠ "java/lang/invoke/VarHandle" ∧ (parseMethodDescriptor yX8_give.desc).map (fun d => d.parameters.length) = some 1 := by decide +kernel
theorem ndl_X8_gown : yX8_gown.cls = RX8 ∧ yX8_gown.cls ≠ "java/lang/invoke/MethodHandle" ∧ yX8_gown.cls ≠ "java/lang/invoke/VarHandle" ∧ (parseMethodDescriptor yX8_gown.desc).map (fun d => d.parameters.length) = some 6 := by decide +kernel
theorem ndl_X8_has : yX8_has.cls = RX8 ∧ yX8_has.cls ≠ "java/lang/invoke/MethodHandle" ∧ yX8_has.cls ≠ "java/lang/invoke/VarHandle" ∧ (parseMethodDescriptor yX8_has.desc).map (fun d => d.parameters.length) = some 1 := by decide +kernel
theorem ndl_X8_longGown : yX8_longGown.cls = RX8 ∧ yX8_longGown.cls ≠ "java/lang/invoke/MethodHandle" ∧ yX8_longGown.cls ≠ "java/lang/invoke/VarHandle" ∧ (parseMethodDescriptor yX8_longGown.desc).map (fun d => d.parameters.length) = some 6 := by decide +kernel
theorem ndl_X8_mend : yX8_mend.cls = RX8 ∧ yX8_mend.cls ≠ "java/lang/invoke/MethodHandle" ∧ yX8_mend.cls ≠ "java/lang/invoke/VarHandle" ∧ (parseMethodDescriptor yX8_mend.desc).map (fun d => d.parameters.length) = some 1 := by decide +kernel
theorem ndl_X8_post : yX8_post.cls = RX8 ∧ yX8_post.cls ≠ "java/lang/invoke/MethodHandle" ∧ yX8_post.cls ≠ "java/lang/invoke/VarHandle" ∧ (parseMethodDescriptor yX8_post.desc).map (fun d => d.parameters.length) = some 3 := by decide +kernel
theorem ndl_X8_suit : yX8_suit.cls = RX8 ∧ yX8_suit.cls ≠ "java/lang/invoke/MethodHandle" ∧ yX8_suit.cls ≠ "java/lang/invoke/VarHandle" ∧ (parseMethodDescriptor yX8_suit.desc).map (fun d => d.parameters.length) = some 6 := by decide +kernel
theorem ndl_X8_swap : yX8_swap.cls = RX8 ∧ yX8_swap.cls ≠ "java/lang/invoke/MethodHandle" ∧ yX8_swap.cls ≠ "java/lang/invoke/VarHandle" ∧ (parseMethodDescriptor yX8_swap.desc).map (fun d => d.parameters.length) = some 1 := by decide +kernel
theorem ndl_X8_tear : yX8_tear.cls = RX8 ∧ yX8_tear.cls ≠ "java/lang/invoke/MethodHandle" ∧ yX8_tear.cls ≠ "java/lang/invoke/VarHandle" ∧ (parseMethodDescriptor yX8_tear.desc).map (fun d => d.parameters.length) = some 2 := by decide +kernel
theorem ndl_X8_term : yX8_term.cls = RX8 ∧ yX8_term.cls ≠ "java/lang/invoke/MethodHandle" ∧ yX8_term.cls ≠ "java/lang/invoke/VarHandle" ∧ (parseMethodDescriptor yX8_term.desc).map (fun d => d.parameters.length) = some 1 := by decide +kernel
theorem ndl_X8_told : yX8_told.cls = RX8 ∧ yX8_told.cls ≠ "java/lang/invoke/MethodHandle" ∧ yX8_told.cls ≠ "java/lang/invoke/VarHandle" ∧ (parseMethodDescriptor yX8_told.desc).map (fun d => d.parameters.length) = some 2 := by decide +kernel
section
variable {l : Launch} {D : va_G} {t1 t2 : Nat} {cc : Nat → ClassId} {a b d : Nat → Nat}
set_option maxRecDepth 100000 in
set_option maxHeartbeats 4000000 in
theorem k_L_cell {b0 L : Nat} {xs : Nat → Int32} (x1 : Int32) (w : va_W) {zr : Int32} (h : f_L_cell xs L x1 = some zr) : gw_MX b0 L xs l yL_cell wsL_cell rm_L_cell 0 0 D (gw_ty cc) t1 t2 [.ref b0, .int x1] w (fun w9 => w9 = w) (some (.int zr)) := by
  refine gw_enterX (cc := cL_cell) (maxL := 2) (ret := (some .int)) (own := RL) rfl (by decide) rfl (Nat.le_of_ble_eq_true rfl) ?_
  intro p e s m below meth c A B hin hXX hI ls hl
  have hl : lv_has ls 2 [(0, .ref b0), (1, .int x1)] := hl
  generalize ([.ref b0, .int x1] : List Value).toArray = args at B ⊢
  have hx := B.1.1
  have hb := B.1.2.1
  have hown : s.vm.findClass RL = some m.cls := B.1.2.2.2.1
  have hts := B.1.2.2.2.2
  obtain ⟨hX, hbl, hbA⟩ := hXX
  unfold f_L_cell at h
  refine lv_iload_n hx hb dL_cell_0 rfl (lv_at hl 1 rfl) ?_
  refine lv_aload_n hx hb dL_cell_1 rfl (lv_at hl 0 rfl) ?_
  refine va_slen hx hb hX hbl hbA hI.2.2 dL_cell_2 ?_
  refine lv_icmp_ge (tgt := 12) hx hb dL_cell_3 (by decide) (fun c1 => ?_) (fun c1 => ?_)
  · replace h := gw_ifT c1 h
    refine lv_ldc (v := 625341585) hx hb hown (hts (.constant RL 7 (625341585)) (by decide +kernel)) dL_cell_12 ?_
    refine lv_iload_n hx hb dL_cell_14 rfl (lv_at hl 1 rfl) ?_
    refine lv_iconst (v := 3) hx hb dL_cell_15 (by decide) ?_
    refine lv_iadd hx hb dL_cell_16 ?_
    refine lv_imul hx hb dL_cell_17 ?_
    rw [← Option.some.inj h]
    exact gw_iret (W' := (fun w9 => w9 = w)) B hI rfl (Nat.zero_le _) (Nat.zero_le _) dL_cell_18
  · replace h := gw_ifF c1 h
    refine lv_aload_n hx hb dL_cell_6 rfl (lv_at hl 0 rfl) ?_
    refine lv_iload_n hx hb dL_cell_7 rfl (lv_at hl 1 rfl) ?_
    obtain ⟨g2, h⟩ := gw_gdE h
    refine va_sld hx hb hX hbl hbA hI.2.2 g2 dL_cell_8 ?_
    refine lv_goto (tgt := 18) hx hb dL_cell_9 (by decide) ?_
    rw [← Option.some.inj h]
    exact gw_iret (W' := (fun w9 => w9 = w)) B hI rfl (Nat.zero_le _) (Nat.zero_le _) dL_cell_18
set_option maxRecDepth 100000 in
set_option maxHeartbeats 4000000 in
theorem k_L_some (x0 x1 : Int32) (w : va_W) {zr : Int32} (h : f_L_some x0 x1 = some zr) : gw_M l yL_some wsL_some rm_L_some 0 0 D (gw_ty cc) t1 t2 [.int x0, .int x1] w (fun w9 => w9 = w) (some (.int zr)) := by
  refine gw_enter (cc := cL_some) (maxL := 2) (ret := (some .int)) (own := RL) rfl (by decide) rfl (Nat.le_of_ble_eq_true rfl) ?_
  intro p e s m below meth c A B hin hI ls hl
  have hl : lv_has ls 2 [(0, .int x0), (1, .int x1)] := hl
  generalize ([.int x0, .int x1] : List Value).toArray = args at B ⊢
  have hx := B.1.1
  have hb := B.1.2.1
  have hown : s.vm.findClass RL = some m.cls := B.1.2.2.2.1
  have hts := B.1.2.2.2.2
  unfold f_L_some at h
  refine lv_iload_n hx hb dL_some_0 rfl (lv_at hl 0 rfl) ?_
  refine lv_ldc (v := 2147483647) hx hb hown (hts (.constant RL 8 (2147483647)) (by decide +kernel)) dL_some_1 ?_
  refine lv_iand hx hb dL_some_3 ?_
  refine lv_iload_n hx hb dL_some_4 rfl (lv_at hl 1 rfl) ?_
  obtain ⟨g3, h⟩ := gw_gdE h
  refine lv_irem hx hb dL_some_5 g3 ?_
  rw [← Option.some.inj h]
  exact gw_iret (W' := (fun w9 => w9 = w)) B hI rfl (Nat.zero_le _) (Nat.zero_le _) dL_some_6
set_option maxRecDepth 100000 in
set_option maxHeartbeats 4000000 in
theorem k_L_pieces {b0 L : Nat} {xs : Nat → Int32} {am : Nat → Nat} (x2 x3 : Int32) (S M : gw_S) {zr : Int32} {zS zM : gw_S} (h : f_L_pieces xs L x2 x3 S M = some (zr, zS, zM)) : gw_MX b0 L xs l yL_pieces wsL_pieces rm_L_pieces 7 84 D (gw_ty cc) t1 t2 [.ref (a 0), .ref b0, .int x2, .int x3, .ref (am 0)] (gw_o2 cc am M ++ gw_cw cc a b d S) (fun w => ∃ b1 d1, w = gw_o2 cc am zM ++ gw_cw cc a b1 d1 zS) (some (.int zr)) := by
  refine gw_enterX (cc := cL_pieces) (maxL := 10) (ret := (some .boolean)) (own := RL) rfl (by decide) rfl (Nat.le_of_ble_eq_true rfl) ?_
  intro p e s m below meth c A B hin hXX hI ls hl
  have hl : lv_has ls 10 [(0, .ref (a 0)), (1, .ref b0), (2, .int x2), (3, .int x3), (4, .ref (am 0))] := hl
  generalize ([.ref (a 0), .ref b0, .int x2, .int x3, .ref (am 0)] : List Value).toArray = args at B ⊢
  have hx := B.1.1
  have hb := B.1.2.1
  have hown : s.vm.findClass RL = some m.cls := B.1.2.2.2.1
  have hts := B.1.2.2.2.2
  obtain ⟨hX, hbl, hbA⟩ := hXX
  have hb3 : ∀ (n : Nat) (b d : Nat → Nat) (cl sl : Nat), cl + n ≤ 7 → sl + 12 * n ≤ 84 → ∀ (v2 v3 v5 : Int32) (S M : gw_S), f_L_pieces_b3 xs L n v2 v3 v5 S M = some (zr, zS, zM) → ∀ (H : Heap) (locs : List Loc) (ls : Array Slot), gw_I D A s.heap (gw_o2 cc am M ++ gw_cw cc a b d S) H locs → lv_has ls 10 [(0, .ref (a 0)), (1, .ref b0), (2, .int v2), (3, .int v3), (4, .ref (am 0)), (5, .int v5)] → W p l e rm_L_pieces s m args below meth c H locs cl sl (MQ below (gw_Q (some (.int zr)) (gw_Pst D A (fun w => ∃ b1 d1, w = gw_o2 cc am zM ++ gw_cw cc a b1 d1 zS)) A) args s 7 84 A) (F0 m 3 ls []) := by
    intro n
    induction n with
    | zero =>
      intro b d cl sl _ _ v2 v3 v5 S M h
      cases h
    | succ n ih =>
      intro b d cl sl hc1 hc2 v2 v3 v5 S M h H locs ls hI hl
      unfold f_L_pieces_b3 at h
      refine lv_iload hx hb dL_pieces_3 (lv_at hl 5 rfl) ?_
      refine lv_iload_n hx hb dL_pieces_5 rfl (lv_at hl 3 rfl) ?_
      refine lv_icmp_ge (tgt := 270) hx hb dL_pieces_6 (by decide) (fun c4 => ?_) (fun c4 => ?_)
      · replace h := gw_ifT c4 h
        refine lv_iconst (v := 1) hx hb dL_pieces_270 (by decide) ?_
        obtain ⟨h1, h2⟩ := Prod.mk.inj (Option.some.inj h)
        obtain ⟨h2, h3⟩ := Prod.mk.inj h2
        rw [h2, h3] at hI
        rw [← h1]
        exact gw_zret (W' := (fun w => ∃ b1 d1, w = gw_o2 cc am zM ++ gw_cw cc a b1 d1 zS)) B hI ⟨b, d, rfl⟩ (Or.inr rfl) (by omega) (by omega) dL_pieces_271
      · replace h := gw_ifF c4 h
        refine lv_aload_n hx hb dL_pieces_9 rfl (lv_at hl 1 rfl) ?_
        refine lv_iload_n hx hb dL_pieces_10 rfl (lv_at hl 2 rfl) ?_
        refine lv_iload hx hb dL_pieces_11 (lv_at hl 5 rfl) ?_
        refine lv_iadd hx hb dL_pieces_13 ?_
        obtain ⟨r5, e6, h⟩ := gw_bdE h
        refine gw_callSX (As := [.ref b0, .int (v2 + v5)]) (n := 2) ⟨hX, hbl, hbA⟩ B hI (k_L_cell (b0 := b0) (xs := xs) (L := L) (v2 + v5) _ e6) gL_pieces_L_cell rfl rfl rfl nds_L_cell ⟨Nat.le_of_ble_eq_true rfl, Nat.le_of_ble_eq_true rfl⟩ rfl hl.1 (Nat.zero_le _) dL_pieces_14 ⟨by show cl + 0 ≤ 7; omega, by show sl + 0 ≤ 84; omega⟩ rfl (fun w' H locs hw hI => ?_)
        subst hw
        refine lv_istore (lv' := [(6, .int r5), (0, .ref (a 0)), (1, .ref b0), (2, .int v2), (3, .int v3), (4, .ref (am 0)), (5, .int v5)]) hx hb dL_pieces_17 hl (by decide) rfl (fun ls hl => ?_)
        refine lv_aload hx hb dL_pieces_19 (lv_at hl 5 rfl) ?_
        refine lv_iconst (v := 4) hx hb dL_pieces_21 (by decide) ?_
        refine lv_iload hx hb dL_pieces_22 (lv_at hl 6 rfl) ?_
        refine lv_imul hx hb dL_pieces_24 ?_
        refine lv_iload hx hb dL_pieces_25 (lv_at hl 0 rfl) ?_
        refine lv_iconst (v := 3) hx hb dL_pieces_27 (by decide) ?_
        obtain ⟨r7, e8, h⟩ := gw_bdE h
        refine gw_callS (As := [.int r5, .int (3 : Int32)]) (n := 2)  B hI (k_L_some r5 (3 : Int32) _ e8) gL_pieces_L_some rfl rfl rfl nds_L_some ⟨Nat.le_of_ble_eq_true rfl, Nat.le_of_ble_eq_true rfl⟩ rfl hl.1 (Nat.le_of_ble_eq_true rfl) dL_pieces_28 ⟨by show cl + 0 ≤ 7; omega, by show sl + 0 ≤ 84; omega⟩ rfl (fun w' H locs hw hI => ?_)
        subst hw
        obtain ⟨g9, h⟩ := gw_gdE h
        obtain ⟨M10, e11, h⟩ := gw_letE h
        refine gw_iast (q0 := 0) (t0 := 0) (w' := gw_o2 cc am M10 ++ gw_cw cc a b d S) B hI rfl rfl g9 (by rw [e11]; rfl) dL_pieces_31 (fun H locs hI => ?_)
        refine lv_aload hx hb dL_pieces_32 (lv_at hl 5 rfl) ?_
        refine lv_iconst (v := 4) hx hb dL_pieces_34 (by decide) ?_
        refine lv_iload hx hb dL_pieces_35 (lv_at hl 6 rfl) ?_
        refine lv_imul hx hb dL_pieces_37 ?_
        refine lv_iconst (v := 1) hx hb dL_pieces_38 (by decide) ?_
        refine lv_iadd hx hb dL_pieces_39 ?_
        refine lv_bipush (v := 10) hx hb dL_pieces_40 (by decide) ?_
        refine lv_iload hx hb dL_pieces_42 (lv_at hl 0 rfl) ?_
        refine lv_iconst (v := 2) hx hb dL_pieces_44 (by decide) ?_
        refine lv_ishr hx hb dL_pieces_45 ?_
        refine lv_iconst (v := 4) hx hb dL_pieces_46 (by decide) ?_
        obtain ⟨r12, e13, h⟩ := gw_bdE h
        refine gw_callS (As := [.int (r5 >>> ((2 : Int32) &&& 31)), .int (4 : Int32)]) (n := 2)  B hI (k_L_some (r5 >>> ((2 : Int32) &&& 31)) (4 : Int32) _ e13) gL_pieces_L_some rfl rfl rfl nds_L_some ⟨Nat.le_of_ble_eq_true rfl, Nat.le_of_ble_eq_true rfl⟩ rfl hl.1 (Nat.le_of_ble_eq_true rfl) dL_pieces_47 ⟨by show cl + 0 ≤ 7; omega, by show sl + 0 ≤ 84; omega⟩ rfl (fun w' H locs hw hI => ?_)
        subst hw
        refine lv_iadd hx hb dL_pieces_50 ?_
        obtain ⟨g14, h⟩ := gw_gdE h
        obtain ⟨M15, e16, h⟩ := gw_letE h
        refine gw_iast (q0 := 0) (t0 := 0) (w' := gw_o2 cc am M15 ++ gw_cw cc a b d S) B hI rfl rfl g14 (by rw [e16]; rfl) dL_pieces_51 (fun H locs hI => ?_)
        refine lv_aload hx hb dL_pieces_52 (lv_at hl 5 rfl) ?_
        refine lv_iconst (v := 4) hx hb dL_pieces_54 (by decide) ?_
        refine lv_iload hx hb dL_pieces_55 (lv_at hl 6 rfl) ?_
        refine lv_imul hx hb dL_pieces_57 ?_
        refine lv_iconst (v := 2) hx hb dL_pieces_58 (by decide) ?_
        refine lv_iadd hx hb dL_pieces_59 ?_
        refine lv_iload hx hb dL_pieces_60 (lv_at hl 0 rfl) ?_
        refine lv_iconst (v := 4) hx hb dL_pieces_62 (by decide) ?_
        refine lv_ishr hx hb dL_pieces_63 ?_
        refine lv_iconst (v := 3) hx hb dL_pieces_64 (by decide) ?_
        obtain ⟨r17, e18, h⟩ := gw_bdE h
        refine gw_callS (As := [.int (r5 >>> ((4 : Int32) &&& 31)), .int (3 : Int32)]) (n := 2)  B hI (k_L_some (r5 >>> ((4 : Int32) &&& 31)) (3 : Int32) _ e18) gL_pieces_L_some rfl rfl rfl nds_L_some ⟨Nat.le_of_ble_eq_true rfl, Nat.le_of_ble_eq_true rfl⟩ rfl hl.1 (Nat.le_of_ble_eq_true rfl) dL_pieces_65 ⟨by show cl + 0 ≤ 7; omega, by show sl + 0 ≤ 84; omega⟩ rfl (fun w' H locs hw hI => ?_)
        subst hw
        obtain ⟨g19, h⟩ := gw_gdE h
        obtain ⟨M20, e21, h⟩ := gw_letE h
        refine gw_iast (q0 := 0) (t0 := 0) (w' := gw_o2 cc am M20 ++ gw_cw cc a b d S) B hI rfl rfl g19 (by rw [e21]; rfl) dL_pieces_68 (fun H locs hI => ?_)
        refine lv_aload hx hb dL_pieces_69 (lv_at hl 5 rfl) ?_
        refine lv_iconst (v := 4) hx hb dL_pieces_71 (by decide) ?_
        refine lv_iload hx hb dL_pieces_72 (lv_at hl 6 rfl) ?_
        refine lv_imul hx hb dL_pieces_74 ?_
        refine lv_iconst (v := 3) hx hb dL_pieces_75 (by decide) ?_
        refine lv_iadd hx hb dL_pieces_76 ?_
        refine lv_iload hx hb dL_pieces_77 (lv_at hl 0 rfl) ?_
        refine lv_bipush (v := 6) hx hb dL_pieces_79 (by decide) ?_
        refine lv_ishr hx hb dL_pieces_81 ?_
        refine lv_iconst (v := 3) hx hb dL_pieces_82 (by decide) ?_
        obtain ⟨r22, e23, h⟩ := gw_bdE h
        refine gw_callS (As := [.int (r5 >>> ((6 : Int32) &&& 31)), .int (3 : Int32)]) (n := 2)  B hI (k_L_some (r5 >>> ((6 : Int32) &&& 31)) (3 : Int32) _ e23) gL_pieces_L_some rfl rfl rfl nds_L_some ⟨Nat.le_of_ble_eq_true rfl, Nat.le_of_ble_eq_true rfl⟩ rfl hl.1 (Nat.le_of_ble_eq_true rfl) dL_pieces_83 ⟨by show cl + 0 ≤ 7; omega, by show sl + 0 ≤ 84; omega⟩ rfl (fun w' H locs hw hI => ?_)
        subst hw
        obtain ⟨g24, h⟩ := gw_gdE h
        obtain ⟨M25, e26, h⟩ := gw_letE h
        refine gw_iast (q0 := 0) (t0 := 0) (w' := gw_o2 cc am M25 ++ gw_cw cc a b d S) B hI rfl rfl g24 (by rw [e26]; rfl) dL_pieces_86 (fun H locs hI => ?_)
        refine lv_sipush (v := 1000) hx hb dL_pieces_87 (by decide) ?_
        refine lv_iload hx hb dL_pieces_90 (lv_at hl 0 rfl) ?_
        refine lv_bipush (v := 8) hx hb dL_pieces_92 (by decide) ?_
        refine lv_ishr hx hb dL_pieces_94 ?_
        refine lv_sipush (v := 5000) hx hb dL_pieces_95 (by decide) ?_
        obtain ⟨r27, e28, h⟩ := gw_bdE h
        refine gw_callS (As := [.int (r5 >>> ((8 : Int32) &&& 31)), .int (5000 : Int32)]) (n := 2)  B hI (k_L_some (r5 >>> ((8 : Int32) &&& 31)) (5000 : Int32) _ e28) gL_pieces_L_some rfl rfl rfl nds_L_some ⟨Nat.le_of_ble_eq_true rfl, Nat.le_of_ble_eq_true rfl⟩ rfl hl.1 (Nat.le_of_ble_eq_true rfl) dL_pieces_98 ⟨by show cl + 0 ≤ 7; omega, by show sl + 0 ≤ 84; omega⟩ rfl (fun w' H locs hw hI => ?_)
        subst hw
        refine lv_iadd hx hb dL_pieces_101 ?_
        obtain ⟨y29, e30, h⟩ := gw_letE h
        rw [← e30]
        refine lv_istore (lv' := [(7, .int y29), (6, .int r5), (0, .ref (a 0)), (1, .ref b0), (2, .int v2), (3, .int v3), (4, .ref (am 0)), (5, .int v5)]) hx hb dL_pieces_102 hl (by decide) rfl (fun ls hl => ?_)
        refine lv_iconst (v := 1) hx hb dL_pieces_104 (by decide) ?_
        refine lv_iload hx hb dL_pieces_105 (lv_at hl 1 rfl) ?_
        refine lv_bipush (v := 20) hx hb dL_pieces_107 (by decide) ?_
        refine lv_ishr hx hb dL_pieces_109 ?_
        refine lv_bipush (v := 30) hx hb dL_pieces_110 (by decide) ?_
        obtain ⟨r31, e32, h⟩ := gw_bdE h
        refine gw_callS (As := [.int (r5 >>> ((20 : Int32) &&& 31)), .int (30 : Int32)]) (n := 2)  B hI (k_L_some (r5 >>> ((20 : Int32) &&& 31)) (30 : Int32) _ e32) gL_pieces_L_some rfl rfl rfl nds_L_some ⟨Nat.le_of_ble_eq_true rfl, Nat.le_of_ble_eq_true rfl⟩ rfl hl.1 (Nat.le_of_ble_eq_true rfl) dL_pieces_112 ⟨by show cl + 0 ≤ 7; omega, by show sl + 0 ≤ 84; omega⟩ rfl (fun w' H locs hw hI => ?_)
        subst hw
        refine lv_iadd hx hb dL_pieces_115 ?_
        obtain ⟨y33, e34, h⟩ := gw_letE h
        rw [← e34]
        refine lv_istore (lv' := [(8, .int y33), (7, .int y29), (6, .int r5), (0, .ref (a 0)), (1, .ref b0), (2, .int v2), (3, .int v3), (4, .ref (am 0)), (5, .int v5)]) hx hb dL_pieces_116 hl (by decide) rfl (fun ls hl => ?_)
        refine lv_aload hx hb dL_pieces_118 (lv_at hl 7 rfl) ?_
        refine lv_iconst (v := 4) hx hb dL_pieces_120 (by decide) ?_
        refine lv_iload hx hb dL_pieces_121 (lv_at hl 8 rfl) ?_
        refine lv_imul hx hb dL_pieces_123 ?_
        refine gw_iald (q0 := 0) (t0 := 0) B hI rfl rfl g9 dL_pieces_124 ?_
        refine lv_if_ne (tgt := 167) hx hb dL_pieces_125 (by decide) (fun c35 => ?_) (fun c35 => ?_)
        · replace h := gw_ifF c35 h
          refine lv_aload hx hb dL_pieces_167 (lv_at hl 7 rfl) ?_
          refine lv_iconst (v := 4) hx hb dL_pieces_169 (by decide) ?_
          refine lv_iload hx hb dL_pieces_170 (lv_at hl 8 rfl) ?_
          refine lv_imul hx hb dL_pieces_172 ?_
          refine gw_iald (q0 := 0) (t0 := 0) B hI rfl rfl g9 dL_pieces_173 ?_
          refine lv_iconst (v := 1) hx hb dL_pieces_174 (by decide) ?_
          refine lv_icmp_ne (tgt := 217) hx hb dL_pieces_175 (by decide) (fun c36 => ?_) (fun c36 => ?_)
          · replace h := gw_ifF c36 h
            refine lv_aload_n hx hb dL_pieces_217 rfl (lv_at hl 3 rfl) ?_
            refine lv_iconst (v := 0) hx hb dL_pieces_218 (by decide) ?_
            refine lv_aload hx hb dL_pieces_219 (lv_at hl 7 rfl) ?_
            refine lv_iconst (v := 4) hx hb dL_pieces_221 (by decide) ?_
            refine lv_iload hx hb dL_pieces_222 (lv_at hl 8 rfl) ?_
            refine lv_imul hx hb dL_pieces_224 ?_
            refine lv_iconst (v := 1) hx hb dL_pieces_225 (by decide) ?_
            refine lv_iadd hx hb dL_pieces_226 ?_
            refine gw_iald (q0 := 0) (t0 := 0) B hI rfl rfl g14 dL_pieces_227 ?_
            refine lv_aload hx hb dL_pieces_228 (lv_at hl 7 rfl) ?_
            refine lv_iconst (v := 4) hx hb dL_pieces_230 (by decide) ?_
            refine lv_iload hx hb dL_pieces_231 (lv_at hl 8 rfl) ?_
            refine lv_imul hx hb dL_pieces_233 ?_
            refine lv_iconst (v := 2) hx hb dL_pieces_234 (by decide) ?_
            refine lv_iadd hx hb dL_pieces_235 ?_
            refine gw_iald (q0 := 0) (t0 := 0) B hI rfl rfl g19 dL_pieces_236 ?_
            refine lv_aload hx hb dL_pieces_237 (lv_at hl 7 rfl) ?_
            refine lv_iconst (v := 4) hx hb dL_pieces_239 (by decide) ?_
            refine lv_iload hx hb dL_pieces_240 (lv_at hl 8 rfl) ?_
            refine lv_imul hx hb dL_pieces_242 ?_
            refine lv_iconst (v := 3) hx hb dL_pieces_243 (by decide) ?_
            refine lv_iadd hx hb dL_pieces_244 ?_
            refine gw_iald (q0 := 0) (t0 := 0) B hI rfl rfl g24 dL_pieces_245 ?_
            refine lv_iload hx hb dL_pieces_246 (lv_at hl 1 rfl) ?_
            refine lv_iload hx hb dL_pieces_248 (lv_at hl 0 rfl) ?_
            obtain ⟨r37, S39, e38, h⟩ := gw_b2E h
            refine gw_callVF (w := gw_o2 cc am M25) (wc := gw_cw cc a b d S) (As := [.int (0 : Int32), .int (M25 0 (((4 : Int32) * v5) + (1 : Int32)).toNatClampNeg), .int (M25 0 (((4 : Int32) * v5) + (2 : Int32)).toNatClampNeg), .int (M25 0 (((4 : Int32) * v5) + (3 : Int32)).toNatClampNeg), .int y29, .int y33]) (n := 6) B hI (k_X8_suit (0 : Int32) (M25 0 (((4 : Int32) * v5) + (1 : Int32)).toNatClampNeg) (M25 0 (((4 : Int32) * v5) + (2 : Int32)).toNatClampNeg) (M25 0 (((4 : Int32) * v5) + (3 : Int32)).toNatClampNeg) y29 y33 S e38) gL_pieces_X8_suit rfl rfl rfl ndl_X8_suit ⟨Nat.le_of_ble_eq_true rfl, Nat.le_of_ble_eq_true rfl⟩ gc_g0 rfl rfl rfl hl.1 (Nat.zero_le _) dL_pieces_250 ⟨by show cl + 1 ≤ 7; omega, by show sl + 12 ≤ 84; omega⟩ rfl (fun w' H locs hw hI => ?_)
            obtain ⟨b40, d41, rfl⟩ := hw
            refine lv_istore (lv' := [(9, .int r37), (8, .int y33), (7, .int y29), (6, .int r5), (0, .ref (a 0)), (1, .ref b0), (2, .int v2), (3, .int v3), (4, .ref (am 0)), (5, .int v5)]) hx hb dL_pieces_253 hl (by decide) rfl (fun ls hl => ?_)
            refine lv_iload hx hb dL_pieces_255 (lv_at hl 0 rfl) ?_
            refine lv_iload hx hb dL_pieces_257 (lv_at hl 9 rfl) ?_
            refine lv_icmp_eq (tgt := 264) hx hb dL_pieces_259 (by decide) (fun c42 => ?_) (fun c42 => ?_)
            · replace h := gw_ifT c42 h
              obtain ⟨y43, e44, h⟩ := gw_letE h
              refine lv_iinc (v := y43) (lv' := [(5, .int y43), (9, .int r37), (8, .int y33), (7, .int y29), (6, .int r5), (0, .ref (a 0)), (1, .ref b0), (2, .int v2), (3, .int v3), (4, .ref (am 0))]) hx hb dL_pieces_264 hl (k := 9) rfl (by rw [e44]; rfl) (by decide) rfl (fun ls hl => ?_)
              refine lv_goto (tgt := 3) hx hb dL_pieces_267 (by decide) ?_
              exact ih b40 d41 (cl + 1) (sl + 12) (by omega) (by omega) v2 v3 y43 S39 M25 h _ _ _ hI (lv_sub hl [5, 6, 7, 8, 9, 0] rfl)
            · replace h := gw_ifF c42 h
              refine lv_iconst (v := 0) hx hb dL_pieces_262 (by decide) ?_
              obtain ⟨h1, h2⟩ := Prod.mk.inj (Option.some.inj h)
              obtain ⟨h2, h3⟩ := Prod.mk.inj h2
              rw [h2, h3] at hI
              rw [← h1]
              exact gw_zret (W' := (fun w => ∃ b1 d1, w = gw_o2 cc am zM ++ gw_cw cc a b1 d1 zS)) B hI ⟨b40, d41, rfl⟩ (Or.inl rfl) (by omega) (by omega) dL_pieces_263
          · replace h := gw_ifT c36 h
            refine lv_aload_n hx hb dL_pieces_178 rfl (lv_at hl 3 rfl) ?_
            refine lv_iconst (v := 0) hx hb dL_pieces_179 (by decide) ?_
            refine lv_aload hx hb dL_pieces_180 (lv_at hl 7 rfl) ?_
            refine lv_iconst (v := 4) hx hb dL_pieces_182 (by decide) ?_
            refine lv_iload hx hb dL_pieces_183 (lv_at hl 8 rfl) ?_
            refine lv_imul hx hb dL_pieces_185 ?_
            refine lv_iconst (v := 1) hx hb dL_pieces_186 (by decide) ?_
            refine lv_iadd hx hb dL_pieces_187 ?_
            refine gw_iald (q0 := 0) (t0 := 0) B hI rfl rfl g14 dL_pieces_188 ?_
            refine lv_aload hx hb dL_pieces_189 (lv_at hl 7 rfl) ?_
            refine lv_iconst (v := 4) hx hb dL_pieces_191 (by decide) ?_
            refine lv_iload hx hb dL_pieces_192 (lv_at hl 8 rfl) ?_
            refine lv_imul hx hb dL_pieces_194 ?_
            refine lv_iconst (v := 2) hx hb dL_pieces_195 (by decide) ?_
            refine lv_iadd hx hb dL_pieces_196 ?_
            refine gw_iald (q0 := 0) (t0 := 0) B hI rfl rfl g19 dL_pieces_197 ?_
            refine lv_aload hx hb dL_pieces_198 (lv_at hl 7 rfl) ?_
            refine lv_iconst (v := 4) hx hb dL_pieces_200 (by decide) ?_
            refine lv_iload hx hb dL_pieces_201 (lv_at hl 8 rfl) ?_
            refine lv_imul hx hb dL_pieces_203 ?_
            refine lv_iconst (v := 3) hx hb dL_pieces_204 (by decide) ?_
            refine lv_iadd hx hb dL_pieces_205 ?_
            refine gw_iald (q0 := 0) (t0 := 0) B hI rfl rfl g24 dL_pieces_206 ?_
            refine lv_iload hx hb dL_pieces_207 (lv_at hl 1 rfl) ?_
            refine lv_iload hx hb dL_pieces_209 (lv_at hl 0 rfl) ?_
            obtain ⟨r45, S47, e46, h⟩ := gw_b2E h
            refine gw_callVF (w := gw_o2 cc am M25) (wc := gw_cw cc a b d S) (As := [.int (0 : Int32), .int (M25 0 (((4 : Int32) * v5) + (1 : Int32)).toNatClampNeg), .int (M25 0 (((4 : Int32) * v5) + (2 : Int32)).toNatClampNeg), .int (M25 0 (((4 : Int32) * v5) + (3 : Int32)).toNatClampNeg), .int y29, .int y33]) (n := 6) B hI (k_X8_longGown (0 : Int32) (M25 0 (((4 : Int32) * v5) + (1 : Int32)).toNatClampNeg) (M25 0 (((4 : Int32) * v5) + (2 : Int32)).toNatClampNeg) (M25 0 (((4 : Int32) * v5) + (3 : Int32)).toNatClampNeg) y29 y33 S e46) gL_pieces_X8_longGown rfl rfl rfl ndl_X8_longGown ⟨Nat.le_of_ble_eq_true rfl, Nat.le_of_ble_eq_true rfl⟩ gc_g0 rfl rfl rfl hl.1 (Nat.zero_le _) dL_pieces_211 ⟨by show cl + 1 ≤ 7; omega, by show sl + 12 ≤ 84; omega⟩ rfl (fun w' H locs hw hI => ?_)
            obtain ⟨b48, d49, rfl⟩ := hw
            refine lv_goto (tgt := 253) hx hb dL_pieces_214 (by decide) ?_
            refine lv_istore (lv' := [(9, .int r45), (8, .int y33), (7, .int y29), (6, .int r5), (0, .ref (a 0)), (1, .ref b0), (2, .int v2), (3, .int v3), (4, .ref (am 0)), (5, .int v5)]) hx hb dL_pieces_253 hl (by decide) rfl (fun ls hl => ?_)
            refine lv_iload hx hb dL_pieces_255 (lv_at hl 0 rfl) ?_
            refine lv_iload hx hb dL_pieces_257 (lv_at hl 9 rfl) ?_
            refine lv_icmp_eq (tgt := 264) hx hb dL_pieces_259 (by decide) (fun c50 => ?_) (fun c50 => ?_)
            · replace h := gw_ifT c50 h
              obtain ⟨y51, e52, h⟩ := gw_letE h
              refine lv_iinc (v := y51) (lv' := [(5, .int y51), (9, .int r45), (8, .int y33), (7, .int y29), (6, .int r5), (0, .ref (a 0)), (1, .ref b0), (2, .int v2), (3, .int v3), (4, .ref (am 0))]) hx hb dL_pieces_264 hl (k := 9) rfl (by rw [e52]; rfl) (by decide) rfl (fun ls hl => ?_)
              refine lv_goto (tgt := 3) hx hb dL_pieces_267 (by decide) ?_
              exact ih b48 d49 (cl + 1) (sl + 12) (by omega) (by omega) v2 v3 y51 S47 M25 h _ _ _ hI (lv_sub hl [5, 6, 7, 8, 9, 0] rfl)
            · replace h := gw_ifF c50 h
              refine lv_iconst (v := 0) hx hb dL_pieces_262 (by decide) ?_
              obtain ⟨h1, h2⟩ := Prod.mk.inj (Option.some.inj h)
              obtain ⟨h2, h3⟩ := Prod.mk.inj h2
              rw [h2, h3] at hI
              rw [← h1]
              exact gw_zret (W' := (fun w => ∃ b1 d1, w = gw_o2 cc am zM ++ gw_cw cc a b1 d1 zS)) B hI ⟨b48, d49, rfl⟩ (Or.inl rfl) (by omega) (by omega) dL_pieces_263
        · replace h := gw_ifT c35 h
          refine lv_aload_n hx hb dL_pieces_128 rfl (lv_at hl 3 rfl) ?_
          refine lv_iconst (v := 0) hx hb dL_pieces_129 (by decide) ?_
          refine lv_aload hx hb dL_pieces_130 (lv_at hl 7 rfl) ?_
          refine lv_iconst (v := 4) hx hb dL_pieces_132 (by decide) ?_
          refine lv_iload hx hb dL_pieces_133 (lv_at hl 8 rfl) ?_
          refine lv_imul hx hb dL_pieces_135 ?_
          refine lv_iconst (v := 1) hx hb dL_pieces_136 (by decide) ?_
          refine lv_iadd hx hb dL_pieces_137 ?_
          refine gw_iald (q0 := 0) (t0 := 0) B hI rfl rfl g14 dL_pieces_138 ?_
          refine lv_aload hx hb dL_pieces_139 (lv_at hl 7 rfl) ?_
          refine lv_iconst (v := 4) hx hb dL_pieces_141 (by decide) ?_
          refine lv_iload hx hb dL_pieces_142 (lv_at hl 8 rfl) ?_
          refine lv_imul hx hb dL_pieces_144 ?_
          refine lv_iconst (v := 2) hx hb dL_pieces_145 (by decide) ?_
          refine lv_iadd hx hb dL_pieces_146 ?_
          refine gw_iald (q0 := 0) (t0 := 0) B hI rfl rfl g19 dL_pieces_147 ?_
          refine lv_aload hx hb dL_pieces_148 (lv_at hl 7 rfl) ?_
          refine lv_iconst (v := 4) hx hb dL_pieces_150 (by decide) ?_
          refine lv_iload hx hb dL_pieces_151 (lv_at hl 8 rfl) ?_
          refine lv_imul hx hb dL_pieces_153 ?_
          refine lv_iconst (v := 3) hx hb dL_pieces_154 (by decide) ?_
          refine lv_iadd hx hb dL_pieces_155 ?_
          refine gw_iald (q0 := 0) (t0 := 0) B hI rfl rfl g24 dL_pieces_156 ?_
          refine lv_iload hx hb dL_pieces_157 (lv_at hl 1 rfl) ?_
          refine lv_iload hx hb dL_pieces_159 (lv_at hl 0 rfl) ?_
          obtain ⟨r53, S55, e54, h⟩ := gw_b2E h
          refine gw_callVF (w := gw_o2 cc am M25) (wc := gw_cw cc a b d S) (As := [.int (0 : Int32), .int (M25 0 (((4 : Int32) * v5) + (1 : Int32)).toNatClampNeg), .int (M25 0 (((4 : Int32) * v5) + (2 : Int32)).toNatClampNeg), .int (M25 0 (((4 : Int32) * v5) + (3 : Int32)).toNatClampNeg), .int y29, .int y33]) (n := 6) B hI (k_X8_gown (0 : Int32) (M25 0 (((4 : Int32) * v5) + (1 : Int32)).toNatClampNeg) (M25 0 (((4 : Int32) * v5) + (2 : Int32)).toNatClampNeg) (M25 0 (((4 : Int32) * v5) + (3 : Int32)).toNatClampNeg) y29 y33 S e54) gL_pieces_X8_gown rfl rfl rfl ndl_X8_gown ⟨Nat.le_of_ble_eq_true rfl, Nat.le_of_ble_eq_true rfl⟩ gc_g0 rfl rfl rfl hl.1 (Nat.zero_le _) dL_pieces_161 ⟨by show cl + 1 ≤ 7; omega, by show sl + 12 ≤ 84; omega⟩ rfl (fun w' H locs hw hI => ?_)
          obtain ⟨b56, d57, rfl⟩ := hw
          refine lv_goto (tgt := 253) hx hb dL_pieces_164 (by decide) ?_
          refine lv_istore (lv' := [(9, .int r53), (8, .int y33), (7, .int y29), (6, .int r5), (0, .ref (a 0)), (1, .ref b0), (2, .int v2), (3, .int v3), (4, .ref (am 0)), (5, .int v5)]) hx hb dL_pieces_253 hl (by decide) rfl (fun ls hl => ?_)
          refine lv_iload hx hb dL_pieces_255 (lv_at hl 0 rfl) ?_
          refine lv_iload hx hb dL_pieces_257 (lv_at hl 9 rfl) ?_
          refine lv_icmp_eq (tgt := 264) hx hb dL_pieces_259 (by decide) (fun c58 => ?_) (fun c58 => ?_)
          · replace h := gw_ifT c58 h
            obtain ⟨y59, e60, h⟩ := gw_letE h
            refine lv_iinc (v := y59) (lv' := [(5, .int y59), (9, .int r53), (8, .int y33), (7, .int y29), (6, .int r5), (0, .ref (a 0)), (1, .ref b0), (2, .int v2), (3, .int v3), (4, .ref (am 0))]) hx hb dL_pieces_264 hl (k := 9) rfl (by rw [e60]; rfl) (by decide) rfl (fun ls hl => ?_)
            refine lv_goto (tgt := 3) hx hb dL_pieces_267 (by decide) ?_
            exact ih b56 d57 (cl + 1) (sl + 12) (by omega) (by omega) v2 v3 y59 S55 M25 h _ _ _ hI (lv_sub hl [5, 6, 7, 8, 9, 0] rfl)
          · replace h := gw_ifF c58 h
            refine lv_iconst (v := 0) hx hb dL_pieces_262 (by decide) ?_
            obtain ⟨h1, h2⟩ := Prod.mk.inj (Option.some.inj h)
            obtain ⟨h2, h3⟩ := Prod.mk.inj h2
            rw [h2, h3] at hI
            rw [← h1]
            exact gw_zret (W' := (fun w => ∃ b1 d1, w = gw_o2 cc am zM ++ gw_cw cc a b1 d1 zS)) B hI ⟨b56, d57, rfl⟩ (Or.inl rfl) (by omega) (by omega) dL_pieces_263
  unfold f_L_pieces at h
  refine lv_iconst (v := 0) hx hb dL_pieces_0 (by decide) ?_
  refine lv_istore (lv' := [(5, .int (0 : Int32)), (0, .ref (a 0)), (1, .ref b0), (2, .int x2), (3, .int x3), (4, .ref (am 0))]) hx hb dL_pieces_1 hl (by decide) rfl (fun ls hl => ?_)
  exact hb3 7 b d 0 0 (by decide) (by decide) x2 x3 (0 : Int32) S M h _ _ _ hI (lv_sub hl [1, 2, 3, 4, 5, 0] rfl)
set_option maxRecDepth 100000 in
set_option maxHeartbeats 4000000 in
theorem k_L_books {b0 L : Nat} {xs : Nat → Int32} {am : Nat → Nat} (x2 x3 : Int32) (S M : gw_S) {zr : Int32} {zS zM : gw_S} (h : f_L_books xs L x2 x3 S M = some (zr, zS, zM)) : gw_MX b0 L xs l yL_books wsL_books rm_L_books 11 154 D (gw_ty cc) t1 t2 [.ref (a 0), .ref b0, .int x2, .int x3, .ref (am 1)] (gw_o2 cc am M ++ gw_cw cc a b d S) (fun w => ∃ b1 d1, w = gw_o2 cc am zM ++ gw_cw cc a b1 d1 zS) (some (.int zr)) := by
  refine gw_enterX (cc := cL_books) (maxL := 7) (ret := (some .boolean)) (own := RL) rfl (by decide) rfl (Nat.le_of_ble_eq_true rfl) ?_
  intro p e s m below meth c A B hin hXX hI ls hl
  have hl : lv_has ls 7 [(0, .ref (a 0)), (1, .ref b0), (2, .int x2), (3, .int x3), (4, .ref (am 1))] := hl
  generalize ([.ref (a 0), .ref b0, .int x2, .int x3, .ref (am 1)] : List Value).toArray = args at B ⊢
  have hx := B.1.1
  have hb := B.1.2.1
  have hown : s.vm.findClass RL = some m.cls := B.1.2.2.2.1
  have hts := B.1.2.2.2.2
  obtain ⟨hX, hbl, hbA⟩ := hXX
  have hb3 : ∀ (n : Nat) (b d : Nat → Nat) (cl sl : Nat), cl + n ≤ 11 → sl + 14 * n ≤ 154 → ∀ (v2 v3 v5 : Int32) (S M : gw_S), f_L_books_b3 xs L n v2 v3 v5 S M = some (zr, zS, zM) → ∀ (H : Heap) (locs : List Loc) (ls : Array Slot), gw_I D A s.heap (gw_o2 cc am M ++ gw_cw cc a b d S) H locs → lv_has ls 7 [(0, .ref (a 0)), (1, .ref b0), (2, .int v2), (3, .int v3), (4, .ref (am 1)), (5, .int v5)] → W p l e rm_L_books s m args below meth c H locs cl sl (MQ below (gw_Q (some (.int zr)) (gw_Pst D A (fun w => ∃ b1 d1, w = gw_o2 cc am zM ++ gw_cw cc a b1 d1 zS)) A) args s 11 154 A) (F0 m 3 ls []) := by
    intro n
    induction n with
    | zero =>
      intro b d cl sl _ _ v2 v3 v5 S M h
      cases h
    | succ n ih =>
      intro b d cl sl hc1 hc2 v2 v3 v5 S M h H locs ls hI hl
      unfold f_L_books_b3 at h
      refine lv_iload hx hb dL_books_3 (lv_at hl 5 rfl) ?_
      refine lv_iload_n hx hb dL_books_5 rfl (lv_at hl 3 rfl) ?_
      refine lv_icmp_ge (tgt := 178) hx hb dL_books_6 (by decide) (fun c61 => ?_) (fun c61 => ?_)
      · replace h := gw_ifT c61 h
        refine lv_iconst (v := 1) hx hb dL_books_178 (by decide) ?_
        obtain ⟨h1, h2⟩ := Prod.mk.inj (Option.some.inj h)
        obtain ⟨h2, h3⟩ := Prod.mk.inj h2
        rw [h2, h3] at hI
        rw [← h1]
        exact gw_zret (W' := (fun w => ∃ b1 d1, w = gw_o2 cc am zM ++ gw_cw cc a b1 d1 zS)) B hI ⟨b, d, rfl⟩ (Or.inr rfl) (by omega) (by omega) dL_books_179
      · replace h := gw_ifF c61 h
        refine lv_aload_n hx hb dL_books_9 rfl (lv_at hl 1 rfl) ?_
        refine lv_iload_n hx hb dL_books_10 rfl (lv_at hl 2 rfl) ?_
        refine lv_iload hx hb dL_books_11 (lv_at hl 5 rfl) ?_
        refine lv_iadd hx hb dL_books_13 ?_
        obtain ⟨r62, e63, h⟩ := gw_bdE h
        refine gw_callSX (As := [.ref b0, .int (v2 + v5)]) (n := 2) ⟨hX, hbl, hbA⟩ B hI (k_L_cell (b0 := b0) (xs := xs) (L := L) (v2 + v5) _ e63) gL_books_L_cell rfl rfl rfl nds_L_cell ⟨Nat.le_of_ble_eq_true rfl, Nat.le_of_ble_eq_true rfl⟩ rfl hl.1 (Nat.zero_le _) dL_books_14 ⟨by show cl + 0 ≤ 11; omega, by show sl + 0 ≤ 154; omega⟩ rfl (fun w' H locs hw hI => ?_)
        subst hw
        refine lv_istore (lv' := [(6, .int r62), (0, .ref (a 0)), (1, .ref b0), (2, .int v2), (3, .int v3), (4, .ref (am 1)), (5, .int v5)]) hx hb dL_books_17 hl (by decide) rfl (fun ls hl => ?_)
        refine lv_aload hx hb dL_books_19 (lv_at hl 5 rfl) ?_
        refine lv_iconst (v := 4) hx hb dL_books_21 (by decide) ?_
        refine lv_iload hx hb dL_books_22 (lv_at hl 6 rfl) ?_
        refine lv_imul hx hb dL_books_24 ?_
        refine lv_bipush (v := 10) hx hb dL_books_25 (by decide) ?_
        refine lv_iload hx hb dL_books_27 (lv_at hl 0 rfl) ?_
        refine lv_iconst (v := 4) hx hb dL_books_29 (by decide) ?_
        obtain ⟨r64, e65, h⟩ := gw_bdE h
        refine gw_callS (As := [.int r62, .int (4 : Int32)]) (n := 2)  B hI (k_L_some r62 (4 : Int32) _ e65) gL_books_L_some rfl rfl rfl nds_L_some ⟨Nat.le_of_ble_eq_true rfl, Nat.le_of_ble_eq_true rfl⟩ rfl hl.1 (Nat.le_of_ble_eq_true rfl) dL_books_30 ⟨by show cl + 0 ≤ 11; omega, by show sl + 0 ≤ 154; omega⟩ rfl (fun w' H locs hw hI => ?_)
        subst hw
        refine lv_iadd hx hb dL_books_33 ?_
        obtain ⟨g66, h⟩ := gw_gdE h
        obtain ⟨M67, e68, h⟩ := gw_letE h
        refine gw_iast (q0 := 1) (t0 := 0) (w' := gw_o2 cc am M67 ++ gw_cw cc a b d S) B hI rfl rfl g66 (by rw [e68]; rfl) dL_books_34 (fun H locs hI => ?_)
        refine lv_aload hx hb dL_books_35 (lv_at hl 5 rfl) ?_
        refine lv_iconst (v := 4) hx hb dL_books_37 (by decide) ?_
        refine lv_iload hx hb dL_books_38 (lv_at hl 6 rfl) ?_
        refine lv_imul hx hb dL_books_40 ?_
        refine lv_iconst (v := 1) hx hb dL_books_41 (by decide) ?_
        refine lv_iadd hx hb dL_books_42 ?_
        refine lv_iload hx hb dL_books_43 (lv_at hl 0 rfl) ?_
        refine lv_iconst (v := 2) hx hb dL_books_45 (by decide) ?_
        refine lv_ishr hx hb dL_books_46 ?_
        refine lv_iconst (v := 5) hx hb dL_books_47 (by decide) ?_
        obtain ⟨r69, e70, h⟩ := gw_bdE h
        refine gw_callS (As := [.int (r62 >>> ((2 : Int32) &&& 31)), .int (5 : Int32)]) (n := 2)  B hI (k_L_some (r62 >>> ((2 : Int32) &&& 31)) (5 : Int32) _ e70) gL_books_L_some rfl rfl rfl nds_L_some ⟨Nat.le_of_ble_eq_true rfl, Nat.le_of_ble_eq_true rfl⟩ rfl hl.1 (Nat.le_of_ble_eq_true rfl) dL_books_48 ⟨by show cl + 0 ≤ 11; omega, by show sl + 0 ≤ 154; omega⟩ rfl (fun w' H locs hw hI => ?_)
        subst hw
        refine lv_if_ne (tgt := 58) hx hb dL_books_51 (by decide) (fun c71 => ?_) (fun c71 => ?_)
        · replace h := gw_ifF c71 h
          refine lv_iload hx hb dL_books_58 (lv_at hl 0 rfl) ?_
          refine lv_iconst (v := 2) hx hb dL_books_60 (by decide) ?_
          refine lv_ishr hx hb dL_books_61 ?_
          refine lv_iconst (v := 5) hx hb dL_books_62 (by decide) ?_
          obtain ⟨r72, e73, h⟩ := gw_bdE h
          refine gw_callS (As := [.int (r62 >>> ((2 : Int32) &&& 31)), .int (5 : Int32)]) (n := 2)  B hI (k_L_some (r62 >>> ((2 : Int32) &&& 31)) (5 : Int32) _ e73) gL_books_L_some rfl rfl rfl nds_L_some ⟨Nat.le_of_ble_eq_true rfl, Nat.le_of_ble_eq_true rfl⟩ rfl hl.1 (Nat.le_of_ble_eq_true rfl) dL_books_63 ⟨by show cl + 0 ≤ 11; omega, by show sl + 0 ≤ 154; omega⟩ rfl (fun w' H locs hw hI => ?_)
          subst hw
          refine lv_iconst (v := 1) hx hb dL_books_66 (by decide) ?_
          refine lv_icmp_ne (tgt := 74) hx hb dL_books_67 (by decide) (fun c74 => ?_) (fun c74 => ?_)
          · replace h := gw_ifF c74 h
            refine lv_iconst (v := 0) hx hb dL_books_74 (by decide) ?_
            obtain ⟨g75, h⟩ := gw_gdE h
            obtain ⟨M76, e77, h⟩ := gw_letE h
            refine gw_iast (q0 := 1) (t0 := 0) (w' := gw_o2 cc am M76 ++ gw_cw cc a b d S) B hI rfl rfl g75 (by rw [e77]; rfl) dL_books_75 (fun H locs hI => ?_)
            refine lv_aload hx hb dL_books_76 (lv_at hl 5 rfl) ?_
            refine lv_iconst (v := 4) hx hb dL_books_78 (by decide) ?_
            refine lv_iload hx hb dL_books_79 (lv_at hl 6 rfl) ?_
            refine lv_imul hx hb dL_books_81 ?_
            refine lv_iconst (v := 2) hx hb dL_books_82 (by decide) ?_
            refine lv_iadd hx hb dL_books_83 ?_
            refine lv_bipush (v := 100) hx hb dL_books_84 (by decide) ?_
            refine lv_iload hx hb dL_books_86 (lv_at hl 0 rfl) ?_
            refine lv_iconst (v := 5) hx hb dL_books_88 (by decide) ?_
            refine lv_ishr hx hb dL_books_89 ?_
            refine lv_bipush (v := 12) hx hb dL_books_90 (by decide) ?_
            obtain ⟨r78, e79, h⟩ := gw_bdE h
            refine gw_callS (As := [.int (r62 >>> ((5 : Int32) &&& 31)), .int (12 : Int32)]) (n := 2)  B hI (k_L_some (r62 >>> ((5 : Int32) &&& 31)) (12 : Int32) _ e79) gL_books_L_some rfl rfl rfl nds_L_some ⟨Nat.le_of_ble_eq_true rfl, Nat.le_of_ble_eq_true rfl⟩ rfl hl.1 (Nat.le_of_ble_eq_true rfl) dL_books_92 ⟨by show cl + 0 ≤ 11; omega, by show sl + 0 ≤ 154; omega⟩ rfl (fun w' H locs hw hI => ?_)
            subst hw
            refine lv_iadd hx hb dL_books_95 ?_
            obtain ⟨g80, h⟩ := gw_gdE h
            obtain ⟨M81, e82, h⟩ := gw_letE h
            refine gw_iast (q0 := 1) (t0 := 0) (w' := gw_o2 cc am M81 ++ gw_cw cc a b d S) B hI rfl rfl g80 (by rw [e82]; rfl) dL_books_96 (fun H locs hI => ?_)
            refine lv_aload hx hb dL_books_97 (lv_at hl 5 rfl) ?_
            refine lv_iconst (v := 4) hx hb dL_books_99 (by decide) ?_
            refine lv_iload hx hb dL_books_100 (lv_at hl 6 rfl) ?_
            refine lv_imul hx hb dL_books_102 ?_
            refine lv_iconst (v := 3) hx hb dL_books_103 (by decide) ?_
            refine lv_iadd hx hb dL_books_104 ?_
            refine lv_iload hx hb dL_books_105 (lv_at hl 0 rfl) ?_
            refine lv_bipush (v := 9) hx hb dL_books_107 (by decide) ?_
            refine lv_ishr hx hb dL_books_109 ?_
            refine lv_iconst (v := 3) hx hb dL_books_110 (by decide) ?_
            obtain ⟨r83, e84, h⟩ := gw_bdE h
            refine gw_callS (As := [.int (r62 >>> ((9 : Int32) &&& 31)), .int (3 : Int32)]) (n := 2)  B hI (k_L_some (r62 >>> ((9 : Int32) &&& 31)) (3 : Int32) _ e84) gL_books_L_some rfl rfl rfl nds_L_some ⟨Nat.le_of_ble_eq_true rfl, Nat.le_of_ble_eq_true rfl⟩ rfl hl.1 (Nat.le_of_ble_eq_true rfl) dL_books_111 ⟨by show cl + 0 ≤ 11; omega, by show sl + 0 ≤ 154; omega⟩ rfl (fun w' H locs hw hI => ?_)
            subst hw
            obtain ⟨g85, h⟩ := gw_gdE h
            obtain ⟨M86, e87, h⟩ := gw_letE h
            refine gw_iast (q0 := 1) (t0 := 0) (w' := gw_o2 cc am M86 ++ gw_cw cc a b d S) B hI rfl rfl g85 (by rw [e87]; rfl) dL_books_114 (fun H locs hI => ?_)
            refine lv_aload_n hx hb dL_books_115 rfl (lv_at hl 1 rfl) ?_
            refine lv_aload hx hb dL_books_116 (lv_at hl 5 rfl) ?_
            refine lv_iconst (v := 4) hx hb dL_books_118 (by decide) ?_
            refine lv_iload hx hb dL_books_119 (lv_at hl 6 rfl) ?_
            refine lv_imul hx hb dL_books_121 ?_
            refine gw_iald (q0 := 1) (t0 := 0) B hI rfl rfl g66 dL_books_122 ?_
            refine lv_aload hx hb dL_books_123 (lv_at hl 5 rfl) ?_
            refine lv_iconst (v := 4) hx hb dL_books_125 (by decide) ?_
            refine lv_iload hx hb dL_books_126 (lv_at hl 6 rfl) ?_
            refine lv_imul hx hb dL_books_128 ?_
            refine lv_iconst (v := 1) hx hb dL_books_129 (by decide) ?_
            refine lv_iadd hx hb dL_books_130 ?_
            refine gw_iald (q0 := 1) (t0 := 0) B hI rfl rfl g75 dL_books_131 ?_
            refine lv_aload hx hb dL_books_132 (lv_at hl 5 rfl) ?_
            refine lv_iconst (v := 4) hx hb dL_books_134 (by decide) ?_
            refine lv_iload hx hb dL_books_135 (lv_at hl 6 rfl) ?_
            refine lv_imul hx hb dL_books_137 ?_
            refine lv_iconst (v := 2) hx hb dL_books_138 (by decide) ?_
            refine lv_iadd hx hb dL_books_139 ?_
            refine gw_iald (q0 := 1) (t0 := 0) B hI rfl rfl g80 dL_books_140 ?_
            refine lv_aload hx hb dL_books_141 (lv_at hl 5 rfl) ?_
            refine lv_iconst (v := 4) hx hb dL_books_143 (by decide) ?_
            refine lv_iload hx hb dL_books_144 (lv_at hl 6 rfl) ?_
            refine lv_imul hx hb dL_books_146 ?_
            refine lv_iconst (v := 3) hx hb dL_books_147 (by decide) ?_
            refine lv_iadd hx hb dL_books_148 ?_
            refine gw_iald (q0 := 1) (t0 := 0) B hI rfl rfl g85 dL_books_149 ?_
            refine lv_iconst (v := 5) hx hb dL_books_150 (by decide) ?_
            refine lv_iload hx hb dL_books_151 (lv_at hl 0 rfl) ?_
            refine lv_bipush (v := 11) hx hb dL_books_153 (by decide) ?_
            refine lv_ishr hx hb dL_books_155 ?_
            refine lv_iconst (v := 3) hx hb dL_books_156 (by decide) ?_
            obtain ⟨r88, e89, h⟩ := gw_bdE h
            refine gw_callS (As := [.int (r62 >>> ((11 : Int32) &&& 31)), .int (3 : Int32)]) (n := 2)  B hI (k_L_some (r62 >>> ((11 : Int32) &&& 31)) (3 : Int32) _ e89) gL_books_L_some rfl rfl rfl nds_L_some ⟨Nat.le_of_ble_eq_true rfl, Nat.le_of_ble_eq_true rfl⟩ rfl hl.1 (Nat.le_of_ble_eq_true rfl) dL_books_157 ⟨by show cl + 0 ≤ 11; omega, by show sl + 0 ≤ 154; omega⟩ rfl (fun w' H locs hw hI => ?_)
            subst hw
            refine lv_iconst (v := 1) hx hb dL_books_160 (by decide) ?_
            refine lv_isub hx hb dL_books_161 ?_
            obtain ⟨r90, S92, e91, h⟩ := gw_b2E h
            refine gw_callVF (w := gw_o2 cc am M86) (wc := gw_cw cc a b d S) (As := [.int (M86 1 ((4 : Int32) * v5).toNatClampNeg), .int (M86 1 (((4 : Int32) * v5) + (1 : Int32)).toNatClampNeg), .int (M86 1 (((4 : Int32) * v5) + (2 : Int32)).toNatClampNeg), .int (M86 1 (((4 : Int32) * v5) + (3 : Int32)).toNatClampNeg), .int (5 : Int32), .int (r88 - (1 : Int32))]) (n := 6) B hI (k_X8_book (M86 1 ((4 : Int32) * v5).toNatClampNeg) (M86 1 (((4 : Int32) * v5) + (1 : Int32)).toNatClampNeg) (M86 1 (((4 : Int32) * v5) + (2 : Int32)).toNatClampNeg) (M86 1 (((4 : Int32) * v5) + (3 : Int32)).toNatClampNeg) (5 : Int32) (r88 - (1 : Int32)) S e91) gL_books_X8_book rfl rfl rfl ndl_X8_book ⟨Nat.le_of_ble_eq_true rfl, Nat.le_of_ble_eq_true rfl⟩ gc_g0 rfl rfl rfl hl.1 (Nat.zero_le _) dL_books_162 ⟨by show cl + 1 ≤ 11; omega, by show sl + 14 ≤ 154; omega⟩ rfl (fun w' H locs hw hI => ?_)
            obtain ⟨b93, d94, rfl⟩ := hw
            refine lv_iload hx hb dL_books_165 (lv_at hl 6 rfl) ?_
            refine lv_icmp_eq (tgt := 172) hx hb dL_books_167 (by decide) (fun c95 => ?_) (fun c95 => ?_)
            · replace h := gw_ifT c95 h
              obtain ⟨y96, e97, h⟩ := gw_letE h
              refine lv_iinc (v := y96) (lv' := [(5, .int y96), (6, .int r62), (0, .ref (a 0)), (1, .ref b0), (2, .int v2), (3, .int v3), (4, .ref (am 1))]) hx hb dL_books_172 hl (k := 6) rfl (by rw [e97]; rfl) (by decide) rfl (fun ls hl => ?_)
              refine lv_goto (tgt := 3) hx hb dL_books_175 (by decide) ?_
              exact ih b93 d94 (cl + 1) (sl + 14) (by omega) (by omega) v2 v3 y96 S92 M86 h _ _ _ hI (lv_sub hl [2, 3, 4, 5, 6, 0] rfl)
            · replace h := gw_ifF c95 h
              refine lv_iconst (v := 0) hx hb dL_books_170 (by decide) ?_
              obtain ⟨h1, h2⟩ := Prod.mk.inj (Option.some.inj h)
              obtain ⟨h2, h3⟩ := Prod.mk.inj h2
              rw [h2, h3] at hI
              rw [← h1]
              exact gw_zret (W' := (fun w => ∃ b1 d1, w = gw_o2 cc am zM ++ gw_cw cc a b1 d1 zS)) B hI ⟨b93, d94, rfl⟩ (Or.inl rfl) (by omega) (by omega) dL_books_171
          · replace h := gw_ifT c74 h
            refine lv_iconst (v := 2) hx hb dL_books_70 (by decide) ?_
            refine lv_goto (tgt := 75) hx hb dL_books_71 (by decide) ?_
            obtain ⟨g98, h⟩ := gw_gdE h
            obtain ⟨M99, e100, h⟩ := gw_letE h
            refine gw_iast (q0 := 1) (t0 := 0) (w' := gw_o2 cc am M99 ++ gw_cw cc a b d S) B hI rfl rfl g98 (by rw [e100]; rfl) dL_books_75 (fun H locs hI => ?_)
            refine lv_aload hx hb dL_books_76 (lv_at hl 5 rfl) ?_
            refine lv_iconst (v := 4) hx hb dL_books_78 (by decide) ?_
            refine lv_iload hx hb dL_books_79 (lv_at hl 6 rfl) ?_
            refine lv_imul hx hb dL_books_81 ?_
            refine lv_iconst (v := 2) hx hb dL_books_82 (by decide) ?_
            refine lv_iadd hx hb dL_books_83 ?_
            refine lv_bipush (v := 100) hx hb dL_books_84 (by decide) ?_
            refine lv_iload hx hb dL_books_86 (lv_at hl 0 rfl) ?_
            refine lv_iconst (v := 5) hx hb dL_books_88 (by decide) ?_
            refine lv_ishr hx hb dL_books_89 ?_
            refine lv_bipush (v := 12) hx hb dL_books_90 (by decide) ?_
            obtain ⟨r101, e102, h⟩ := gw_bdE h
            refine gw_callS (As := [.int (r62 >>> ((5 : Int32) &&& 31)), .int (12 : Int32)]) (n := 2)  B hI (k_L_some (r62 >>> ((5 : Int32) &&& 31)) (12 : Int32) _ e102) gL_books_L_some rfl rfl rfl nds_L_some ⟨Nat.le_of_ble_eq_true rfl, Nat.le_of_ble_eq_true rfl⟩ rfl hl.1 (Nat.le_of_ble_eq_true rfl) dL_books_92 ⟨by show cl + 0 ≤ 11; omega, by show sl + 0 ≤ 154; omega⟩ rfl (fun w' H locs hw hI => ?_)
            subst hw
            refine lv_iadd hx hb dL_books_95 ?_
            obtain ⟨g103, h⟩ := gw_gdE h
            obtain ⟨M104, e105, h⟩ := gw_letE h
            refine gw_iast (q0 := 1) (t0 := 0) (w' := gw_o2 cc am M104 ++ gw_cw cc a b d S) B hI rfl rfl g103 (by rw [e105]; rfl) dL_books_96 (fun H locs hI => ?_)
            refine lv_aload hx hb dL_books_97 (lv_at hl 5 rfl) ?_
            refine lv_iconst (v := 4) hx hb dL_books_99 (by decide) ?_
            refine lv_iload hx hb dL_books_100 (lv_at hl 6 rfl) ?_
            refine lv_imul hx hb dL_books_102 ?_
            refine lv_iconst (v := 3) hx hb dL_books_103 (by decide) ?_
            refine lv_iadd hx hb dL_books_104 ?_
            refine lv_iload hx hb dL_books_105 (lv_at hl 0 rfl) ?_
            refine lv_bipush (v := 9) hx hb dL_books_107 (by decide) ?_
            refine lv_ishr hx hb dL_books_109 ?_
            refine lv_iconst (v := 3) hx hb dL_books_110 (by decide) ?_
            obtain ⟨r106, e107, h⟩ := gw_bdE h
            refine gw_callS (As := [.int (r62 >>> ((9 : Int32) &&& 31)), .int (3 : Int32)]) (n := 2)  B hI (k_L_some (r62 >>> ((9 : Int32) &&& 31)) (3 : Int32) _ e107) gL_books_L_some rfl rfl rfl nds_L_some ⟨Nat.le_of_ble_eq_true rfl, Nat.le_of_ble_eq_true rfl⟩ rfl hl.1 (Nat.le_of_ble_eq_true rfl) dL_books_111 ⟨by show cl + 0 ≤ 11; omega, by show sl + 0 ≤ 154; omega⟩ rfl (fun w' H locs hw hI => ?_)
            subst hw
            obtain ⟨g108, h⟩ := gw_gdE h
            obtain ⟨M109, e110, h⟩ := gw_letE h
            refine gw_iast (q0 := 1) (t0 := 0) (w' := gw_o2 cc am M109 ++ gw_cw cc a b d S) B hI rfl rfl g108 (by rw [e110]; rfl) dL_books_114 (fun H locs hI => ?_)
            refine lv_aload_n hx hb dL_books_115 rfl (lv_at hl 1 rfl) ?_
            refine lv_aload hx hb dL_books_116 (lv_at hl 5 rfl) ?_
            refine lv_iconst (v := 4) hx hb dL_books_118 (by decide) ?_
            refine lv_iload hx hb dL_books_119 (lv_at hl 6 rfl) ?_
            refine lv_imul hx hb dL_books_121 ?_
            refine gw_iald (q0 := 1) (t0 := 0) B hI rfl rfl g66 dL_books_122 ?_
            refine lv_aload hx hb dL_books_123 (lv_at hl 5 rfl) ?_
            refine lv_iconst (v := 4) hx hb dL_books_125 (by decide) ?_
            refine lv_iload hx hb dL_books_126 (lv_at hl 6 rfl) ?_
            refine lv_imul hx hb dL_books_128 ?_
            refine lv_iconst (v := 1) hx hb dL_books_129 (by decide) ?_
            refine lv_iadd hx hb dL_books_130 ?_
            refine gw_iald (q0 := 1) (t0 := 0) B hI rfl rfl g98 dL_books_131 ?_
            refine lv_aload hx hb dL_books_132 (lv_at hl 5 rfl) ?_
            refine lv_iconst (v := 4) hx hb dL_books_134 (by decide) ?_
            refine lv_iload hx hb dL_books_135 (lv_at hl 6 rfl) ?_
            refine lv_imul hx hb dL_books_137 ?_
            refine lv_iconst (v := 2) hx hb dL_books_138 (by decide) ?_
            refine lv_iadd hx hb dL_books_139 ?_
            refine gw_iald (q0 := 1) (t0 := 0) B hI rfl rfl g103 dL_books_140 ?_
            refine lv_aload hx hb dL_books_141 (lv_at hl 5 rfl) ?_
            refine lv_iconst (v := 4) hx hb dL_books_143 (by decide) ?_
            refine lv_iload hx hb dL_books_144 (lv_at hl 6 rfl) ?_
            refine lv_imul hx hb dL_books_146 ?_
            refine lv_iconst (v := 3) hx hb dL_books_147 (by decide) ?_
            refine lv_iadd hx hb dL_books_148 ?_
            refine gw_iald (q0 := 1) (t0 := 0) B hI rfl rfl g108 dL_books_149 ?_
            refine lv_iconst (v := 5) hx hb dL_books_150 (by decide) ?_
            refine lv_iload hx hb dL_books_151 (lv_at hl 0 rfl) ?_
            refine lv_bipush (v := 11) hx hb dL_books_153 (by decide) ?_
            refine lv_ishr hx hb dL_books_155 ?_
            refine lv_iconst (v := 3) hx hb dL_books_156 (by decide) ?_
            obtain ⟨r111, e112, h⟩ := gw_bdE h
            refine gw_callS (As := [.int (r62 >>> ((11 : Int32) &&& 31)), .int (3 : Int32)]) (n := 2)  B hI (k_L_some (r62 >>> ((11 : Int32) &&& 31)) (3 : Int32) _ e112) gL_books_L_some rfl rfl rfl nds_L_some ⟨Nat.le_of_ble_eq_true rfl, Nat.le_of_ble_eq_true rfl⟩ rfl hl.1 (Nat.le_of_ble_eq_true rfl) dL_books_157 ⟨by show cl + 0 ≤ 11; omega, by show sl + 0 ≤ 154; omega⟩ rfl (fun w' H locs hw hI => ?_)
            subst hw
            refine lv_iconst (v := 1) hx hb dL_books_160 (by decide) ?_
            refine lv_isub hx hb dL_books_161 ?_
            obtain ⟨r113, S115, e114, h⟩ := gw_b2E h
            refine gw_callVF (w := gw_o2 cc am M109) (wc := gw_cw cc a b d S) (As := [.int (M109 1 ((4 : Int32) * v5).toNatClampNeg), .int (M109 1 (((4 : Int32) * v5) + (1 : Int32)).toNatClampNeg), .int (M109 1 (((4 : Int32) * v5) + (2 : Int32)).toNatClampNeg), .int (M109 1 (((4 : Int32) * v5) + (3 : Int32)).toNatClampNeg), .int (5 : Int32), .int (r111 - (1 : Int32))]) (n := 6) B hI (k_X8_book (M109 1 ((4 : Int32) * v5).toNatClampNeg) (M109 1 (((4 : Int32) * v5) + (1 : Int32)).toNatClampNeg) (M109 1 (((4 : Int32) * v5) + (2 : Int32)).toNatClampNeg) (M109 1 (((4 : Int32) * v5) + (3 : Int32)).toNatClampNeg) (5 : Int32) (r111 - (1 : Int32)) S e114) gL_books_X8_book rfl rfl rfl ndl_X8_book ⟨Nat.le_of_ble_eq_true rfl, Nat.le_of_ble_eq_true rfl⟩ gc_g0 rfl rfl rfl hl.1 (Nat.zero_le _) dL_books_162 ⟨by show cl + 1 ≤ 11; omega, by show sl + 14 ≤ 154; omega⟩ rfl (fun w' H locs hw hI => ?_)
            obtain ⟨b116, d117, rfl⟩ := hw
            refine lv_iload hx hb dL_books_165 (lv_at hl 6 rfl) ?_
            refine lv_icmp_eq (tgt := 172) hx hb dL_books_167 (by decide) (fun c118 => ?_) (fun c118 => ?_)
            · replace h := gw_ifT c118 h
              obtain ⟨y119, e120, h⟩ := gw_letE h
              refine lv_iinc (v := y119) (lv' := [(5, .int y119), (6, .int r62), (0, .ref (a 0)), (1, .ref b0), (2, .int v2), (3, .int v3), (4, .ref (am 1))]) hx hb dL_books_172 hl (k := 6) rfl (by rw [e120]; rfl) (by decide) rfl (fun ls hl => ?_)
              refine lv_goto (tgt := 3) hx hb dL_books_175 (by decide) ?_
              exact ih b116 d117 (cl + 1) (sl + 14) (by omega) (by omega) v2 v3 y119 S115 M109 h _ _ _ hI (lv_sub hl [2, 3, 4, 5, 6, 0] rfl)
            · replace h := gw_ifF c118 h
              refine lv_iconst (v := 0) hx hb dL_books_170 (by decide) ?_
              obtain ⟨h1, h2⟩ := Prod.mk.inj (Option.some.inj h)
              obtain ⟨h2, h3⟩ := Prod.mk.inj h2
              rw [h2, h3] at hI
              rw [← h1]
              exact gw_zret (W' := (fun w => ∃ b1 d1, w = gw_o2 cc am zM ++ gw_cw cc a b1 d1 zS)) B hI ⟨b116, d117, rfl⟩ (Or.inl rfl) (by omega) (by omega) dL_books_171
        · replace h := gw_ifT c71 h
          refine lv_iconst (v := 1) hx hb dL_books_54 (by decide) ?_
          refine lv_goto (tgt := 75) hx hb dL_books_55 (by decide) ?_
          obtain ⟨g121, h⟩ := gw_gdE h
          obtain ⟨M122, e123, h⟩ := gw_letE h
          refine gw_iast (q0 := 1) (t0 := 0) (w' := gw_o2 cc am M122 ++ gw_cw cc a b d S) B hI rfl rfl g121 (by rw [e123]; rfl) dL_books_75 (fun H locs hI => ?_)
          refine lv_aload hx hb dL_books_76 (lv_at hl 5 rfl) ?_
          refine lv_iconst (v := 4) hx hb dL_books_78 (by decide) ?_
          refine lv_iload hx hb dL_books_79 (lv_at hl 6 rfl) ?_
          refine lv_imul hx hb dL_books_81 ?_
          refine lv_iconst (v := 2) hx hb dL_books_82 (by decide) ?_
          refine lv_iadd hx hb dL_books_83 ?_
          refine lv_bipush (v := 100) hx hb dL_books_84 (by decide) ?_
          refine lv_iload hx hb dL_books_86 (lv_at hl 0 rfl) ?_
          refine lv_iconst (v := 5) hx hb dL_books_88 (by decide) ?_
          refine lv_ishr hx hb dL_books_89 ?_
          refine lv_bipush (v := 12) hx hb dL_books_90 (by decide) ?_
          obtain ⟨r124, e125, h⟩ := gw_bdE h
          refine gw_callS (As := [.int (r62 >>> ((5 : Int32) &&& 31)), .int (12 : Int32)]) (n := 2)  B hI (k_L_some (r62 >>> ((5 : Int32) &&& 31)) (12 : Int32) _ e125) gL_books_L_some rfl rfl rfl nds_L_some ⟨Nat.le_of_ble_eq_true rfl, Nat.le_of_ble_eq_true rfl⟩ rfl hl.1 (Nat.le_of_ble_eq_true rfl) dL_books_92 ⟨by show cl + 0 ≤ 11; omega, by show sl + 0 ≤ 154; omega⟩ rfl (fun w' H locs hw hI => ?_)
          subst hw
          refine lv_iadd hx hb dL_books_95 ?_
          obtain ⟨g126, h⟩ := gw_gdE h
          obtain ⟨M127, e128, h⟩ := gw_letE h
          refine gw_iast (q0 := 1) (t0 := 0) (w' := gw_o2 cc am M127 ++ gw_cw cc a b d S) B hI rfl rfl g126 (by rw [e128]; rfl) dL_books_96 (fun H locs hI => ?_)
          refine lv_aload hx hb dL_books_97 (lv_at hl 5 rfl) ?_
          refine lv_iconst (v := 4) hx hb dL_books_99 (by decide) ?_
          refine lv_iload hx hb dL_books_100 (lv_at hl 6 rfl) ?_
          refine lv_imul hx hb dL_books_102 ?_
          refine lv_iconst (v := 3) hx hb dL_books_103 (by decide) ?_
          refine lv_iadd hx hb dL_books_104 ?_
          refine lv_iload hx hb dL_books_105 (lv_at hl 0 rfl) ?_
          refine lv_bipush (v := 9) hx hb dL_books_107 (by decide) ?_
          refine lv_ishr hx hb dL_books_109 ?_
          refine lv_iconst (v := 3) hx hb dL_books_110 (by decide) ?_
          obtain ⟨r129, e130, h⟩ := gw_bdE h
          refine gw_callS (As := [.int (r62 >>> ((9 : Int32) &&& 31)), .int (3 : Int32)]) (n := 2)  B hI (k_L_some (r62 >>> ((9 : Int32) &&& 31)) (3 : Int32) _ e130) gL_books_L_some rfl rfl rfl nds_L_some ⟨Nat.le_of_ble_eq_true rfl, Nat.le_of_ble_eq_true rfl⟩ rfl hl.1 (Nat.le_of_ble_eq_true rfl) dL_books_111 ⟨by show cl + 0 ≤ 11; omega, by show sl + 0 ≤ 154; omega⟩ rfl (fun w' H locs hw hI => ?_)
          subst hw
          obtain ⟨g131, h⟩ := gw_gdE h
          obtain ⟨M132, e133, h⟩ := gw_letE h
          refine gw_iast (q0 := 1) (t0 := 0) (w' := gw_o2 cc am M132 ++ gw_cw cc a b d S) B hI rfl rfl g131 (by rw [e133]; rfl) dL_books_114 (fun H locs hI => ?_)
          refine lv_aload_n hx hb dL_books_115 rfl (lv_at hl 1 rfl) ?_
          refine lv_aload hx hb dL_books_116 (lv_at hl 5 rfl) ?_
          refine lv_iconst (v := 4) hx hb dL_books_118 (by decide) ?_
          refine lv_iload hx hb dL_books_119 (lv_at hl 6 rfl) ?_
          refine lv_imul hx hb dL_books_121 ?_
          refine gw_iald (q0 := 1) (t0 := 0) B hI rfl rfl g66 dL_books_122 ?_
          refine lv_aload hx hb dL_books_123 (lv_at hl 5 rfl) ?_
          refine lv_iconst (v := 4) hx hb dL_books_125 (by decide) ?_
          refine lv_iload hx hb dL_books_126 (lv_at hl 6 rfl) ?_
          refine lv_imul hx hb dL_books_128 ?_
          refine lv_iconst (v := 1) hx hb dL_books_129 (by decide) ?_
          refine lv_iadd hx hb dL_books_130 ?_
          refine gw_iald (q0 := 1) (t0 := 0) B hI rfl rfl g121 dL_books_131 ?_
          refine lv_aload hx hb dL_books_132 (lv_at hl 5 rfl) ?_
          refine lv_iconst (v := 4) hx hb dL_books_134 (by decide) ?_
          refine lv_iload hx hb dL_books_135 (lv_at hl 6 rfl) ?_
          refine lv_imul hx hb dL_books_137 ?_
          refine lv_iconst (v := 2) hx hb dL_books_138 (by decide) ?_
          refine lv_iadd hx hb dL_books_139 ?_
          refine gw_iald (q0 := 1) (t0 := 0) B hI rfl rfl g126 dL_books_140 ?_
          refine lv_aload hx hb dL_books_141 (lv_at hl 5 rfl) ?_
          refine lv_iconst (v := 4) hx hb dL_books_143 (by decide) ?_
          refine lv_iload hx hb dL_books_144 (lv_at hl 6 rfl) ?_
          refine lv_imul hx hb dL_books_146 ?_
          refine lv_iconst (v := 3) hx hb dL_books_147 (by decide) ?_
          refine lv_iadd hx hb dL_books_148 ?_
          refine gw_iald (q0 := 1) (t0 := 0) B hI rfl rfl g131 dL_books_149 ?_
          refine lv_iconst (v := 5) hx hb dL_books_150 (by decide) ?_
          refine lv_iload hx hb dL_books_151 (lv_at hl 0 rfl) ?_
          refine lv_bipush (v := 11) hx hb dL_books_153 (by decide) ?_
          refine lv_ishr hx hb dL_books_155 ?_
          refine lv_iconst (v := 3) hx hb dL_books_156 (by decide) ?_
          obtain ⟨r134, e135, h⟩ := gw_bdE h
          refine gw_callS (As := [.int (r62 >>> ((11 : Int32) &&& 31)), .int (3 : Int32)]) (n := 2)  B hI (k_L_some (r62 >>> ((11 : Int32) &&& 31)) (3 : Int32) _ e135) gL_books_L_some rfl rfl rfl nds_L_some ⟨Nat.le_of_ble_eq_true rfl, Nat.le_of_ble_eq_true rfl⟩ rfl hl.1 (Nat.le_of_ble_eq_true rfl) dL_books_157 ⟨by show cl + 0 ≤ 11; omega, by show sl + 0 ≤ 154; omega⟩ rfl (fun w' H locs hw hI => ?_)
          subst hw
          refine lv_iconst (v := 1) hx hb dL_books_160 (by decide) ?_
          refine lv_isub hx hb dL_books_161 ?_
          obtain ⟨r136, S138, e137, h⟩ := gw_b2E h
          refine gw_callVF (w := gw_o2 cc am M132) (wc := gw_cw cc a b d S) (As := [.int (M132 1 ((4 : Int32) * v5).toNatClampNeg), .int (M132 1 (((4 : Int32) * v5) + (1 : Int32)).toNatClampNeg), .int (M132 1 (((4 : Int32) * v5) + (2 : Int32)).toNatClampNeg), .int (M132 1 (((4 : Int32) * v5) + (3 : Int32)).toNatClampNeg), .int (5 : Int32), .int (r134 - (1 : Int32))]) (n := 6) B hI (k_X8_book (M132 1 ((4 : Int32) * v5).toNatClampNeg) (M132 1 (((4 : Int32) * v5) + (1 : Int32)).toNatClampNeg) (M132 1 (((4 : Int32) * v5) + (2 : Int32)).toNatClampNeg) (M132 1 (((4 : Int32) * v5) + (3 : Int32)).toNatClampNeg) (5 : Int32) (r134 - (1 : Int32)) S e137) gL_books_X8_book rfl rfl rfl ndl_X8_book ⟨Nat.le_of_ble_eq_true rfl, Nat.le_of_ble_eq_true rfl⟩ gc_g0 rfl rfl rfl hl.1 (Nat.zero_le _) dL_books_162 ⟨by show cl + 1 ≤ 11; omega, by show sl + 14 ≤ 154; omega⟩ rfl (fun w' H locs hw hI => ?_)
          obtain ⟨b139, d140, rfl⟩ := hw
          refine lv_iload hx hb dL_books_165 (lv_at hl 6 rfl) ?_
          refine lv_icmp_eq (tgt := 172) hx hb dL_books_167 (by decide) (fun c141 => ?_) (fun c141 => ?_)
          · replace h := gw_ifT c141 h
            obtain ⟨y142, e143, h⟩ := gw_letE h
            refine lv_iinc (v := y142) (lv' := [(5, .int y142), (6, .int r62), (0, .ref (a 0)), (1, .ref b0), (2, .int v2), (3, .int v3), (4, .ref (am 1))]) hx hb dL_books_172 hl (k := 6) rfl (by rw [e143]; rfl) (by decide) rfl (fun ls hl => ?_)
            refine lv_goto (tgt := 3) hx hb dL_books_175 (by decide) ?_
            exact ih b139 d140 (cl + 1) (sl + 14) (by omega) (by omega) v2 v3 y142 S138 M132 h _ _ _ hI (lv_sub hl [2, 3, 4, 5, 6, 0] rfl)
          · replace h := gw_ifF c141 h
            refine lv_iconst (v := 0) hx hb dL_books_170 (by decide) ?_
            obtain ⟨h1, h2⟩ := Prod.mk.inj (Option.some.inj h)
            obtain ⟨h2, h3⟩ := Prod.mk.inj h2
            rw [h2, h3] at hI
            rw [← h1]
            exact gw_zret (W' := (fun w => ∃ b1 d1, w = gw_o2 cc am zM ++ gw_cw cc a b1 d1 zS)) B hI ⟨b139, d140, rfl⟩ (Or.inl rfl) (by omega) (by omega) dL_books_171
  unfold f_L_books at h
  refine lv_iconst (v := 0) hx hb dL_books_0 (by decide) ?_
  refine lv_istore (lv' := [(5, .int (0 : Int32)), (0, .ref (a 0)), (1, .ref b0), (2, .int x2), (3, .int x3), (4, .ref (am 1))]) hx hb dL_books_1 hl (by decide) rfl (fun ls hl => ?_)
  exact hb3 11 b d 0 0 (by decide) (by decide) x2 x3 (0 : Int32) S M h _ _ _ hI (lv_sub hl [1, 2, 3, 4, 5, 0] rfl)
end
