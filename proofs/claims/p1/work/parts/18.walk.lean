/-! contracts: printed by wip/gen -/
section
variable {l : Launch} {D : va_G} {t1 t2 : Nat} {cc : Nat → ClassId} {a b d : Nat → Nat}
set_option maxRecDepth 100000 in
set_option maxHeartbeats 4000000 in
theorem k_X9_chain (x1 : Int32) (S : gw_S) {zr : Int32} {zS : gw_S} (h : f_X9_chain x1 S = some (zr, zS)) : gw_M l yX9_chain wsX9_chain rm_X9_chain 0 0 D (gw_ty cc) t1 t2 [.ref (a 0), .int x1] (gw_mw cc a S) (fun w => w = gw_mw cc a zS) (some (.int zr)) := by
  refine gw_enter (cc := cX9_chain) (maxL := 2) (ret := (some .int)) (own := RX9) rfl (by decide) rfl (Nat.le_of_ble_eq_true rfl) ?_
  intro p e s m below meth c A B hin hI ls hl
  have hl : lv_has ls 2 [(0, .ref (a 0)), (1, .int x1)] := hl
  generalize ([.ref (a 0), .int x1] : List Value).toArray = args at B ⊢
  have hx := B.1.1
  have hb := B.1.2.1
  have hown : s.vm.findClass RX9 = some m.cls := B.1.2.2.2.1
  have hts := B.1.2.2.2.2
  unfold f_X9_chain at h
  refine lv_aload_n hx hb dX9_chain_0 rfl (lv_at hl 0 rfl) ?_
  refine lv_iload_n hx hb dX9_chain_1 rfl (lv_at hl 1 rfl) ?_
  obtain ⟨r1, e2, h⟩ := gw_bdE h
  refine gw_callV (As := [.int x1]) (n := 1) B hI (k_X9_isThere x1 S e2) gX9_chain_X9_isThere rfl rfl rfl nd_X9_isThere ⟨Nat.le_of_ble_eq_true rfl, Nat.le_of_ble_eq_true rfl⟩ gm_g0 rfl rfl rfl hl.1 (Nat.zero_le _) dX9_chain_2 ⟨Nat.le_of_ble_eq_true rfl, Nat.le_of_ble_eq_true rfl⟩ rfl (fun w' H locs hw hI => ?_)
  subst hw
  refine lv_if_ne (tgt := 12) hx hb dX9_chain_5 (by decide) (fun c3 => ?_) (fun c3 => ?_)
  · replace h := gw_ifF c3 h
    refine lv_aload_n hx hb dX9_chain_12 rfl (lv_at hl 0 rfl) ?_
    refine lv_iload_n hx hb dX9_chain_13 rfl (lv_at hl 1 rfl) ?_
    obtain ⟨r4, e5, h⟩ := gw_bdE h
    refine gw_callV (As := [.int x1]) (n := 1) B hI (k_X9_isOpen x1 S e5) gX9_chain_X9_isOpen rfl rfl rfl nd_X9_isOpen ⟨Nat.le_of_ble_eq_true rfl, Nat.le_of_ble_eq_true rfl⟩ gm_g0 rfl rfl rfl hl.1 (Nat.zero_le _) dX9_chain_14 ⟨Nat.le_of_ble_eq_true rfl, Nat.le_of_ble_eq_true rfl⟩ rfl (fun w' H locs hw hI => ?_)
    subst hw
    refine lv_if_ne (tgt := 25) hx hb dX9_chain_17 (by decide) (fun c6 => ?_) (fun c6 => ?_)
    · replace h := gw_ifF c6 h
      refine lv_aload_n hx hb dX9_chain_25 rfl (lv_at hl 0 rfl) ?_
      refine lv_iload_n hx hb dX9_chain_26 rfl (lv_at hl 1 rfl) ?_
      obtain ⟨r7, S8, e9, h⟩ := gw_b2E h
      refine gw_callV (As := [.int x1]) (n := 1) B hI (k_X9_findChain x1 S e9) gX9_chain_X9_findChain rfl rfl rfl nd_X9_findChain ⟨Nat.le_of_ble_eq_true rfl, Nat.le_of_ble_eq_true rfl⟩ gm_g0 rfl rfl rfl hl.1 (Nat.zero_le _) dX9_chain_27 ⟨Nat.le_of_ble_eq_true rfl, Nat.le_of_ble_eq_true rfl⟩ rfl (fun w' H locs hw hI => ?_)
      subst hw
      obtain ⟨h1, h2⟩ := Prod.mk.inj (Option.some.inj h)
      rw [h2] at hI
      rw [← h1]
      exact gw_iret (W' := (fun w => w = gw_mw cc a zS)) B hI rfl (Nat.zero_le _) (Nat.zero_le _) dX9_chain_30
    · replace h := gw_ifT c6 h
      refine lv_bipush (v := -2) hx hb dX9_chain_20 (by decide) ?_
      refine lv_goto (tgt := 30) hx hb dX9_chain_22 (by decide) ?_
      obtain ⟨h1, h2⟩ := Prod.mk.inj (Option.some.inj h)
      rw [h2] at hI
      rw [← h1]
      exact gw_iret (W' := (fun w => w = gw_mw cc a zS)) B hI rfl (Nat.zero_le _) (Nat.zero_le _) dX9_chain_30
  · replace h := gw_ifT c3 h
    refine lv_iconst (v := -1) hx hb dX9_chain_8 (by decide) ?_
    refine lv_goto (tgt := 30) hx hb dX9_chain_9 (by decide) ?_
    obtain ⟨h1, h2⟩ := Prod.mk.inj (Option.some.inj h)
    rw [h2] at hI
    rw [← h1]
    exact gw_iret (W' := (fun w => w = gw_mw cc a zS)) B hI rfl (Nat.zero_le _) (Nat.zero_le _) dX9_chain_30
theorem m_X9_link_128 : Cond.fieldLink RX9 128 "GownLetModel" "chain" "[I" ∈ wsX9_link := by decide +kernel
theorem m_X9_link_131 : Cond.fieldLink RX9 131 "GownLetModel" "taken" "[I" ∈ wsX9_link := by decide +kernel
theorem ly_X9_link_9 : ∀ w ∈ wsX90, w ∈ wsX9_link := by decide +kernel
set_option maxRecDepth 100000 in
set_option maxHeartbeats 4000000 in
theorem k_X9_link (x1 : Int32) (x2 : Int32) (x3 : Int32) (S : gw_S) {zr : Int32} {zS : gw_S} (h : f_X9_link x1 x2 x3 S = some (zr, zS)) : gw_M l yX9_link wsX9_link rm_X9_link 0 0 D (gw_ty cc) t1 t2 [.ref (a 0), .int x1, .int x2, .int x3] (gw_mw cc a S) (fun w => w = gw_mw cc a zS) (some (.int zr)) := by
  refine gw_enter (cc := cX9_link) (maxL := 5) (ret := (some .int)) (own := RX9) rfl (by decide) rfl (Nat.le_of_ble_eq_true rfl) ?_
  intro p e s m below meth c A B hin hI ls hl
  have hl : lv_has ls 5 [(0, .ref (a 0)), (1, .int x1), (2, .int x2), (3, .int x3)] := hl
  generalize ([.ref (a 0), .int x1, .int x2, .int x3] : List Value).toArray = args at B ⊢
  have hx := B.1.1
  have hb := B.1.2.1
  have hown : s.vm.findClass RX9 = some m.cls := B.1.2.2.2.1
  have hts := B.1.2.2.2.2
  unfold f_X9_link at h
  refine lv_aload_n hx hb dX9_link_0 rfl (lv_at hl 0 rfl) ?_
  refine lv_iload_n hx hb dX9_link_1 rfl (lv_at hl 1 rfl) ?_
  obtain ⟨r1, e2, h⟩ := gw_bdE h
  refine gw_callV (As := [.int x1]) (n := 1) B hI (k_X9_isThere x1 S e2) gX9_link_X9_isThere rfl rfl rfl nd_X9_isThere ⟨Nat.le_of_ble_eq_true rfl, Nat.le_of_ble_eq_true rfl⟩ gm_g0 rfl rfl rfl hl.1 (Nat.zero_le _) dX9_link_2 ⟨Nat.le_of_ble_eq_true rfl, Nat.le_of_ble_eq_true rfl⟩ rfl (fun w' H locs hw hI => ?_)
  subst hw
  refine lv_if_eq (tgt := 22) hx hb dX9_link_5 (by decide) (fun c3 => ?_) (fun c3 => ?_)
  · replace h := gw_ifT c3 h
    refine lv_iconst (v := -1) hx hb dX9_link_22 (by decide) ?_
    obtain ⟨h1, h2⟩ := Prod.mk.inj (Option.some.inj h)
    rw [h2] at hI
    rw [← h1]
    exact gw_iret (W' := (fun w => w = gw_mw cc a zS)) B hI rfl (Nat.zero_le _) (Nat.zero_le _) dX9_link_23
  · replace h := gw_ifF c3 h
    refine lv_iload_n hx hb dX9_link_8 rfl (lv_at hl 2 rfl) ?_
    refine lv_if_lt (tgt := 22) hx hb dX9_link_9 (by decide) (fun c4 => ?_) (fun c4 => ?_)
    · replace h := gw_ifT c4 h
      refine lv_iconst (v := -1) hx hb dX9_link_22 (by decide) ?_
      obtain ⟨h1, h2⟩ := Prod.mk.inj (Option.some.inj h)
      rw [h2] at hI
      rw [← h1]
      exact gw_iret (W' := (fun w => w = gw_mw cc a zS)) B hI rfl (Nat.zero_le _) (Nat.zero_le _) dX9_link_23
    · replace h := gw_ifF c4 h
      refine lv_iload_n hx hb dX9_link_12 rfl (lv_at hl 3 rfl) ?_
      refine lv_i2l hx hb dX9_link_13 rfl ?_
      refine lv_lconst (v := 0) hx hb dX9_link_14 (by decide) ?_
      refine lv_lconst (v := 1) hx hb dX9_link_15 (by decide) ?_
      obtain ⟨r5, e6, h⟩ := gw_bdE h
      refine gw_callS (As := [.long (x3.toInt64), .long (0 : Int64), .long (1 : Int64)]) (n := 3) B hI (k_X9_in (x3.toInt64) (0 : Int64) (1 : Int64) S e6) gX9_link_X9_in rfl rfl rfl nds_X9_in ⟨Nat.le_of_ble_eq_true rfl, Nat.le_of_ble_eq_true rfl⟩ rfl hl.1 (Nat.zero_le _) dX9_link_16 ⟨Nat.le_of_ble_eq_true rfl, Nat.le_of_ble_eq_true rfl⟩ rfl (fun w' H locs hw hI => ?_)
      subst hw
      refine lv_if_ne (tgt := 24) hx hb dX9_link_19 (by decide) (fun c7 => ?_) (fun c7 => ?_)
      · replace h := gw_ifF c7 h
        refine lv_aload_n hx hb dX9_link_24 rfl (lv_at hl 0 rfl) ?_
        refine lv_iload_n hx hb dX9_link_25 rfl (lv_at hl 1 rfl) ?_
        obtain ⟨r8, e9, h⟩ := gw_bdE h
        refine gw_callV (As := [.int x1]) (n := 1) B hI (k_X9_isOpen x1 S e9) gX9_link_X9_isOpen rfl rfl rfl nd_X9_isOpen ⟨Nat.le_of_ble_eq_true rfl, Nat.le_of_ble_eq_true rfl⟩ gm_g0 rfl rfl rfl hl.1 (Nat.zero_le _) dX9_link_26 ⟨Nat.le_of_ble_eq_true rfl, Nat.le_of_ble_eq_true rfl⟩ rfl (fun w' H locs hw hI => ?_)
        subst hw
        refine lv_if_ne (tgt := 35) hx hb dX9_link_29 (by decide) (fun c10 => ?_) (fun c10 => ?_)
        · replace h := gw_ifF c10 h
          refine lv_aload_n hx hb dX9_link_35 rfl (lv_at hl 0 rfl) ?_
          refine lv_iload_n hx hb dX9_link_36 rfl (lv_at hl 1 rfl) ?_
          obtain ⟨r11, S12, e13, h⟩ := gw_b2E h
          refine gw_callV (As := [.int x1]) (n := 1) B hI (k_X9_findChain x1 S e13) gX9_link_X9_findChain rfl rfl rfl nd_X9_findChain ⟨Nat.le_of_ble_eq_true rfl, Nat.le_of_ble_eq_true rfl⟩ gm_g0 rfl rfl rfl hl.1 (Nat.zero_le _) dX9_link_37 ⟨Nat.le_of_ble_eq_true rfl, Nat.le_of_ble_eq_true rfl⟩ rfl (fun w' H locs hw hI => ?_)
          subst hw
          refine lv_istore (lv' := [(4, .int r11), (0, .ref (a 0)), (1, .int x1), (2, .int x2), (3, .int x3)]) hx hb dX9_link_40 hl (by decide) rfl (fun ls hl => ?_)
          refine lv_iload hx hb dX9_link_42 (lv_at hl 0 rfl) ?_
          refine lv_if_ge (tgt := 52) hx hb dX9_link_44 (by decide) (fun c14 => ?_) (fun c14 => ?_)
          · replace h := gw_ifT c14 h
            refine lv_iload_n hx hb dX9_link_52 rfl (lv_at hl 3 rfl) ?_
            refine lv_iload hx hb dX9_link_53 (lv_at hl 0 rfl) ?_
            refine lv_icmp_lt (tgt := 62) hx hb dX9_link_55 (by decide) (fun c15 => ?_) (fun c15 => ?_)
            · replace h := gw_ifT c15 h
              refine lv_iload_n hx hb dX9_link_62 rfl (lv_at hl 4 rfl) ?_
              refine lv_if_ne (tgt := 75) hx hb dX9_link_63 (by decide) (fun c16 => ?_) (fun c16 => ?_)
              · replace h := gw_ifF c16 h
                refine lv_aload_n hx hb dX9_link_75 rfl (lv_at hl 1 rfl) ?_
                refine gw_get (T := TX9) (k := 46) (v := .ref (a 41)) B hI gm_g0 rfl ly_X9_link_9 (by decide) m_X9_link_131 rfl rfl dX9_link_76 ?_
                refine lv_iload_n hx hb dX9_link_79 rfl (lv_at hl 3 rfl) ?_
                obtain ⟨g17, h⟩ := gw_gdE h
                refine gw_iald (t0 := 0) B hI gm_g41 rfl g17 dX9_link_80 ?_
                obtain ⟨h1, h2⟩ := Prod.mk.inj (Option.some.inj h)
                rw [h2] at hI
                rw [← h1]
                exact gw_iret (W' := (fun w => w = gw_mw cc a zS)) B hI rfl (Nat.zero_le _) (Nat.zero_le _) dX9_link_81
              · replace h := gw_ifT c16 h
                refine lv_aload_n hx hb dX9_link_66 rfl (lv_at hl 1 rfl) ?_
                refine gw_get (T := TX9) (k := 45) (v := .ref (a 40)) B hI gm_g0 rfl ly_X9_link_9 (by decide) m_X9_link_128 rfl rfl dX9_link_67 ?_
                refine lv_iload_n hx hb dX9_link_70 rfl (lv_at hl 3 rfl) ?_
                obtain ⟨g18, h⟩ := gw_gdE h
                refine gw_iald (t0 := 0) B hI gm_g40 rfl g18 dX9_link_71 ?_
                refine lv_goto (tgt := 81) hx hb dX9_link_72 (by decide) ?_
                obtain ⟨h1, h2⟩ := Prod.mk.inj (Option.some.inj h)
                rw [h2] at hI
                rw [← h1]
                exact gw_iret (W' := (fun w => w = gw_mw cc a zS)) B hI rfl (Nat.zero_le _) (Nat.zero_le _) dX9_link_81
            · replace h := gw_ifF c15 h
              refine lv_iconst (v := -1) hx hb dX9_link_58 (by decide) ?_
              refine lv_goto (tgt := 81) hx hb dX9_link_59 (by decide) ?_
              obtain ⟨h1, h2⟩ := Prod.mk.inj (Option.some.inj h)
              rw [h2] at hI
              rw [← h1]
              exact gw_iret (W' := (fun w => w = gw_mw cc a zS)) B hI rfl (Nat.zero_le _) (Nat.zero_le _) dX9_link_81
          · replace h := gw_ifF c14 h
            refine lv_bipush (v := -4) hx hb dX9_link_47 (by decide) ?_
            refine lv_goto (tgt := 81) hx hb dX9_link_49 (by decide) ?_
            obtain ⟨h1, h2⟩ := Prod.mk.inj (Option.some.inj h)
            rw [h2] at hI
            rw [← h1]
            exact gw_iret (W' := (fun w => w = gw_mw cc a zS)) B hI rfl (Nat.zero_le _) (Nat.zero_le _) dX9_link_81
        · replace h := gw_ifT c10 h
          refine lv_bipush (v := -2) hx hb dX9_link_32 (by decide) ?_
          obtain ⟨h1, h2⟩ := Prod.mk.inj (Option.some.inj h)
          rw [h2] at hI
          rw [← h1]
          exact gw_iret (W' := (fun w => w = gw_mw cc a zS)) B hI rfl (Nat.zero_le _) (Nat.zero_le _) dX9_link_34
      · replace h := gw_ifT c7 h
        refine lv_iconst (v := -1) hx hb dX9_link_22 (by decide) ?_
        obtain ⟨h1, h2⟩ := Prod.mk.inj (Option.some.inj h)
        rw [h2] at hI
        rw [← h1]
        exact gw_iret (W' := (fun w => w = gw_mw cc a zS)) B hI rfl (Nat.zero_le _) (Nat.zero_le _) dX9_link_23
theorem m_X9_swap_104 : Cond.fieldLink RX9 104 "GownLetModel" "had" "[I" ∈ wsX9_swap := by decide +kernel
theorem m_X9_swap_128 : Cond.fieldLink RX9 128 "GownLetModel" "chain" "[I" ∈ wsX9_swap := by decide +kernel
theorem m_X9_swap_131 : Cond.fieldLink RX9 131 "GownLetModel" "taken" "[I" ∈ wsX9_swap := by decide +kernel
theorem ly_X9_swap_9 : ∀ w ∈ wsX90, w ∈ wsX9_swap := by decide +kernel
set_option maxRecDepth 100000 in
set_option maxHeartbeats 4000000 in
theorem k_X9_swap (x1 : Int32) (S : gw_S) {zr : Int32} {zS : gw_S} (h : f_X9_swap x1 S = some (zr, zS)) : gw_M l yX9_swap wsX9_swap rm_X9_swap 0 0 D (gw_ty cc) t1 t2 [.ref (a 0), .int x1] (gw_mw cc a S) (fun w => w = gw_mw cc a zS) (some (.int zr)) := by
  refine gw_enter (cc := cX9_swap) (maxL := 4) (ret := (some .int)) (own := RX9) rfl (by decide) rfl (Nat.le_of_ble_eq_true rfl) ?_
  intro p e s m below meth c A B hin hI ls hl
  have hl : lv_has ls 4 [(0, .ref (a 0)), (1, .int x1)] := hl
  generalize ([.ref (a 0), .int x1] : List Value).toArray = args at B ⊢
  have hx := B.1.1
  have hb := B.1.2.1
  have hown : s.vm.findClass RX9 = some m.cls := B.1.2.2.2.1
  have hts := B.1.2.2.2.2
  have hb29 :  ∀ (n : Nat), ∀ (v2 : Int32) (v3 : Int32) (S : gw_S), f_X9_swap_b29  n v2 v3 S = some (zr, zS) → ∀ (H : Heap) (locs : List Loc) (ls : Array Slot), gw_I D A s.heap (gw_mw cc a S) H locs → lv_has ls 4 [(0, .ref (a 0)), (2, .int v2), (3, .int v3)] → W p l e rm_X9_swap s m args below meth c H locs 0 0 (MQ below (gw_Q (some (.int zr)) (gw_Pst D A (fun w => w = gw_mw cc a zS)) A) args s 0 0 A) (F0 m 29 ls []) := by
    intro n
    induction n with
    | zero =>
      intro v2 v3 S h
      cases h
    | succ n ih =>
      intro v2 v3 S h H locs ls hI hl
      unfold f_X9_swap_b29 at h
      refine lv_iload_n hx hb dX9_swap_29 rfl (lv_at hl 2 rfl) ?_
      refine lv_iload_n hx hb dX9_swap_30 rfl (lv_at hl 1 rfl) ?_
      refine lv_icmp_ge (tgt := 57) hx hb dX9_swap_31 (by decide) (fun c1 => ?_) (fun c1 => ?_)
      · replace h := gw_ifT c1 h
        refine lv_iload_n hx hb dX9_swap_57 rfl (lv_at hl 1 rfl) ?_
        obtain ⟨h1, h2⟩ := Prod.mk.inj (Option.some.inj h)
        rw [h2] at hI
        rw [← h1]
        exact gw_iret (W' := (fun w => w = gw_mw cc a zS)) B hI rfl (Nat.zero_le _) (Nat.zero_le _) dX9_swap_58
      · replace h := gw_ifF c1 h
        refine lv_aload_n hx hb dX9_swap_34 rfl (lv_at hl 0 rfl) ?_
        refine gw_get (T := TX9) (k := 37) (v := .ref (a 32)) B hI gm_g0 rfl ly_X9_swap_9 (by decide) m_X9_swap_104 rfl rfl dX9_swap_35 ?_
        refine lv_aload_n hx hb dX9_swap_38 rfl (lv_at hl 0 rfl) ?_
        refine gw_get (T := TX9) (k := 45) (v := .ref (a 40)) B hI gm_g0 rfl ly_X9_swap_9 (by decide) m_X9_swap_128 rfl rfl dX9_swap_39 ?_
        refine lv_iload_n hx hb dX9_swap_42 rfl (lv_at hl 2 rfl) ?_
        obtain ⟨g2, h⟩ := gw_gdE h
        refine gw_iald (t0 := 0) B hI gm_g40 rfl g2 dX9_swap_43 ?_
        refine lv_aload_n hx hb dX9_swap_44 rfl (lv_at hl 0 rfl) ?_
        refine gw_get (T := TX9) (k := 46) (v := .ref (a 41)) B hI gm_g0 rfl ly_X9_swap_9 (by decide) m_X9_swap_131 rfl rfl dX9_swap_45 ?_
        refine lv_iload_n hx hb dX9_swap_48 rfl (lv_at hl 2 rfl) ?_
        refine gw_iald (t0 := 0) B hI gm_g41 rfl g2 dX9_swap_49 ?_
        obtain ⟨g3, h⟩ := gw_gdE h
        obtain ⟨S4, e5, h⟩ := gw_letE h
        refine gw_iast (t0 := 0) (w' := gw_mw cc a S4) B hI gm_g32 rfl g3 (gm_s32 e5) dX9_swap_50 (fun H locs hI => ?_)
        obtain ⟨y6, e7, h⟩ := gw_letE h
        refine lv_iinc (v := y6) (lv' := [(3, .int y6), (0, .ref (a 0)), (2, .int v2)]) hx hb dX9_swap_51 hl (k := 2) rfl (by rw [e7]; rfl) (by decide) rfl (fun ls hl => ?_)
        refine lv_goto (tgt := 29) hx hb dX9_swap_54 (by decide) ?_
        exact ih v2 y6 S4 h _ _ _ hI (lv_sub hl [1, 2, 0] rfl)
  unfold f_X9_swap at h
  refine lv_aload_n hx hb dX9_swap_0 rfl (lv_at hl 0 rfl) ?_
  refine lv_iload_n hx hb dX9_swap_1 rfl (lv_at hl 1 rfl) ?_
  obtain ⟨r8, e9, h⟩ := gw_bdE h
  refine gw_callV (As := [.int x1]) (n := 1) B hI (k_X9_isThere x1 S e9) gX9_swap_X9_isThere rfl rfl rfl nd_X9_isThere ⟨Nat.le_of_ble_eq_true rfl, Nat.le_of_ble_eq_true rfl⟩ gm_g0 rfl rfl rfl hl.1 (Nat.zero_le _) dX9_swap_2 ⟨Nat.le_of_ble_eq_true rfl, Nat.le_of_ble_eq_true rfl⟩ rfl (fun w' H locs hw hI => ?_)
  subst hw
  refine lv_if_ne (tgt := 10) hx hb dX9_swap_5 (by decide) (fun c10 => ?_) (fun c10 => ?_)
  · replace h := gw_ifF c10 h
    refine lv_aload_n hx hb dX9_swap_10 rfl (lv_at hl 0 rfl) ?_
    refine lv_iload_n hx hb dX9_swap_11 rfl (lv_at hl 1 rfl) ?_
    obtain ⟨r11, e12, h⟩ := gw_bdE h
    refine gw_callV (As := [.int x1]) (n := 1) B hI (k_X9_isOpen x1 S e12) gX9_swap_X9_isOpen rfl rfl rfl nd_X9_isOpen ⟨Nat.le_of_ble_eq_true rfl, Nat.le_of_ble_eq_true rfl⟩ gm_g0 rfl rfl rfl hl.1 (Nat.zero_le _) dX9_swap_12 ⟨Nat.le_of_ble_eq_true rfl, Nat.le_of_ble_eq_true rfl⟩ rfl (fun w' H locs hw hI => ?_)
    subst hw
    refine lv_if_ne (tgt := 21) hx hb dX9_swap_15 (by decide) (fun c13 => ?_) (fun c13 => ?_)
    · replace h := gw_ifF c13 h
      refine lv_aload_n hx hb dX9_swap_21 rfl (lv_at hl 0 rfl) ?_
      refine lv_iload_n hx hb dX9_swap_22 rfl (lv_at hl 1 rfl) ?_
      obtain ⟨r14, S15, e16, h⟩ := gw_b2E h
      refine gw_callV (As := [.int x1]) (n := 1) B hI (k_X9_findChain x1 S e16) gX9_swap_X9_findChain rfl rfl rfl nd_X9_findChain ⟨Nat.le_of_ble_eq_true rfl, Nat.le_of_ble_eq_true rfl⟩ gm_g0 rfl rfl rfl hl.1 (Nat.zero_le _) dX9_swap_23 ⟨Nat.le_of_ble_eq_true rfl, Nat.le_of_ble_eq_true rfl⟩ rfl (fun w' H locs hw hI => ?_)
      subst hw
      refine lv_istore_n (lv' := [(2, .int r14), (0, .ref (a 0)), (1, .int x1)]) hx hb dX9_swap_26 rfl hl (by decide) rfl (fun ls hl => ?_)
      refine lv_iconst (v := 0) hx hb dX9_swap_27 (by decide) ?_
      refine lv_istore_n (lv' := [(3, .int (0 : Int32)), (2, .int r14), (0, .ref (a 0)), (1, .int x1)]) hx hb dX9_swap_28 rfl hl (by decide) rfl (fun ls hl => ?_)
      exact hb29  gw_F r14 (0 : Int32) S15 h _ _ _ hI (lv_sub hl [2, 1, 0] rfl)
    · replace h := gw_ifT c13 h
      refine lv_bipush (v := -2) hx hb dX9_swap_18 (by decide) ?_
      obtain ⟨h1, h2⟩ := Prod.mk.inj (Option.some.inj h)
      rw [h2] at hI
      rw [← h1]
      exact gw_iret (W' := (fun w => w = gw_mw cc a zS)) B hI rfl (Nat.zero_le _) (Nat.zero_le _) dX9_swap_20
  · replace h := gw_ifT c10 h
    refine lv_iconst (v := -1) hx hb dX9_swap_8 (by decide) ?_
    obtain ⟨h1, h2⟩ := Prod.mk.inj (Option.some.inj h)
    rw [h2] at hI
    rw [← h1]
    exact gw_iret (W' := (fun w => w = gw_mw cc a zS)) B hI rfl (Nat.zero_le _) (Nat.zero_le _) dX9_swap_9
theorem m_X9_matchOf_101 : Cond.fieldLink RX9 101 "GownLetModel" "offs" "[I" ∈ wsX9_matchOf := by decide +kernel
theorem m_X9_matchOf_104 : Cond.fieldLink RX9 104 "GownLetModel" "had" "[I" ∈ wsX9_matchOf := by decide +kernel
theorem m_X9_matchOf_134 : Cond.fieldLink RX9 134 "GownLetModel" "hadKept" "[I" ∈ wsX9_matchOf := by decide +kernel
theorem m_X9_matchOf_257 : Cond.fieldLink RX9 257 "GownLetModel" "bookings" "I" ∈ wsX9_matchOf := by decide +kernel
theorem m_X9_matchOf_37 : Cond.fieldLink RX9 37 "GownLetModel" "lots" "[I" ∈ wsX9_matchOf := by decide +kernel
theorem m_X9_matchOf_98 : Cond.fieldLink RX9 98 "GownLetModel" "parties" "[I" ∈ wsX9_matchOf := by decide +kernel
theorem ly_X9_matchOf_9 : ∀ w ∈ wsX90, w ∈ wsX9_matchOf := by decide +kernel
set_option maxRecDepth 100000 in
set_option maxHeartbeats 4000000 in
theorem k_X9_matchOf (x1 : Int32) (x2 : Int32) (S : gw_S) {zr : Int32} {zS : gw_S} (h : f_X9_matchOf x1 x2 S = some (zr, zS)) : gw_M l yX9_matchOf wsX9_matchOf rm_X9_matchOf 0 0 D (gw_ty cc) t1 t2 [.ref (a 0), .int x1, .int x2] (gw_mw cc a S) (fun w => w = gw_mw cc a zS) (some (.int zr)) := by
  refine gw_enter (cc := cX9_matchOf) (maxL := 6) (ret := (some .int)) (own := RX9) rfl (by decide) rfl (Nat.le_of_ble_eq_true rfl) ?_
  intro p e s m below meth c A B hin hI ls hl
  have hl : lv_has ls 6 [(0, .ref (a 0)), (1, .int x1), (2, .int x2)] := hl
  generalize ([.ref (a 0), .int x1, .int x2] : List Value).toArray = args at B ⊢
  have hx := B.1.1
  have hb := B.1.2.1
  have hown : s.vm.findClass RX9 = some m.cls := B.1.2.2.2.1
  have hts := B.1.2.2.2.2
  have hb143 :  ∀ (n : Nat), ∀ (v3 : Int32) (v4 : Int32) (S : gw_S), f_X9_matchOf_b143  n v3 v4 S = some (zr, zS) → ∀ (H : Heap) (locs : List Loc) (ls : Array Slot), gw_I D A s.heap (gw_mw cc a S) H locs → lv_has ls 6 [(0, .ref (a 0)), (3, .int v3), (4, .int v4)] → W p l e rm_X9_matchOf s m args below meth c H locs 0 0 (MQ below (gw_Q (some (.int zr)) (gw_Pst D A (fun w => w = gw_mw cc a zS)) A) args s 0 0 A) (F0 m 143 ls []) := by
    intro n
    induction n with
    | zero =>
      intro v3 v4 S h
      cases h
    | succ n ih =>
      intro v3 v4 S h H locs ls hI hl
      unfold f_X9_matchOf_b143 at h
      refine lv_iload hx hb dX9_matchOf_143 (lv_at hl 2 rfl) ?_
      refine lv_aload_n hx hb dX9_matchOf_145 rfl (lv_at hl 0 rfl) ?_
      refine gw_get (T := TX9) (k := 29) (v := .int (S 0 29)) B hI gm_g0 rfl ly_X9_matchOf_9 (by decide) m_X9_matchOf_257 rfl rfl dX9_matchOf_146 ?_
      refine lv_icmp_ge (tgt := 172) hx hb dX9_matchOf_149 (by decide) (fun c1 => ?_) (fun c1 => ?_)
      · replace h := gw_ifT c1 h
        refine lv_iload_n hx hb dX9_matchOf_172 rfl (lv_at hl 1 rfl) ?_
        obtain ⟨h1, h2⟩ := Prod.mk.inj (Option.some.inj h)
        rw [h2] at hI
        rw [← h1]
        exact gw_iret (W' := (fun w => w = gw_mw cc a zS)) B hI rfl (Nat.zero_le _) (Nat.zero_le _) dX9_matchOf_173
      · replace h := gw_ifF c1 h
        refine lv_aload_n hx hb dX9_matchOf_152 rfl (lv_at hl 0 rfl) ?_
        refine gw_get (T := TX9) (k := 37) (v := .ref (a 32)) B hI gm_g0 rfl ly_X9_matchOf_9 (by decide) m_X9_matchOf_104 rfl rfl dX9_matchOf_153 ?_
        refine lv_iload hx hb dX9_matchOf_156 (lv_at hl 2 rfl) ?_
        refine lv_aload_n hx hb dX9_matchOf_158 rfl (lv_at hl 0 rfl) ?_
        refine gw_get (T := TX9) (k := 47) (v := .ref (a 42)) B hI gm_g0 rfl ly_X9_matchOf_9 (by decide) m_X9_matchOf_134 rfl rfl dX9_matchOf_159 ?_
        refine lv_iload hx hb dX9_matchOf_162 (lv_at hl 2 rfl) ?_
        obtain ⟨g2, h⟩ := gw_gdE h
        refine gw_iald (t0 := 0) B hI gm_g42 rfl g2 dX9_matchOf_164 ?_
        obtain ⟨S3, e4, h⟩ := gw_letE h
        refine gw_iast (t0 := 0) (w' := gw_mw cc a S3) B hI gm_g32 rfl g2 (gm_s32 e4) dX9_matchOf_165 (fun H locs hI => ?_)
        obtain ⟨y5, e6, h⟩ := gw_letE h
        refine lv_iinc (v := y5) (lv' := [(4, .int y5), (0, .ref (a 0)), (3, .int v3)]) hx hb dX9_matchOf_166 hl (k := 2) rfl (by rw [e6]; rfl) (by decide) rfl (fun ls hl => ?_)
        refine lv_goto (tgt := 143) hx hb dX9_matchOf_169 (by decide) ?_
        exact ih v3 y5 S3 h _ _ _ hI (lv_sub hl [1, 2, 0] rfl)
  have hb134 : ∀ (K33 : Int32 → Int32 → Int32 → Int32 → gw_S → Option (Int32 × gw_S)) (_ : ∀ (v1 : Int32) (v2 : Int32) (v3 : Int32) (v4 : Int32) (S : gw_S), K33 v1 v2 v3 v4 S = some (zr, zS) → ∀ (H : Heap) (locs : List Loc) (ls : Array Slot), gw_I D A s.heap (gw_mw cc a S) H locs → lv_has ls 6 [(0, .ref (a 0)), (1, .int v1), (2, .int v2), (3, .int v3), (4, .int v4)] → W p l e rm_X9_matchOf s m args below meth c H locs 0 0 (MQ below (gw_Q (some (.int zr)) (gw_Pst D A (fun w => w = gw_mw cc a zS)) A) args s 0 0 A) (F0 m 33 ls [])), ∀ (v1 : Int32) (v2 : Int32) (v3 : Int32) (v4 : Int32) (S : gw_S), f_X9_matchOf_b134 K33 v1 v2 v3 v4 S = some (zr, zS) → ∀ (H : Heap) (locs : List Loc) (ls : Array Slot), gw_I D A s.heap (gw_mw cc a S) H locs → lv_has ls 6 [(0, .ref (a 0)), (1, .int v1), (2, .int v2), (3, .int v3), (4, .int v4)] → W p l e rm_X9_matchOf s m args below meth c H locs 0 0 (MQ below (gw_Q (some (.int zr)) (gw_Pst D A (fun w => w = gw_mw cc a zS)) A) args s 0 0 A) (F0 m 134 ls []) := by
    intro K33 hK33
    intro v1 v2 v3 v4 S h H locs ls hI hl
    unfold f_X9_matchOf_b134 at h
    obtain ⟨y7, e8, h⟩ := gw_letE h
    refine lv_iinc (v := y7) (lv' := [(4, .int y7), (0, .ref (a 0)), (1, .int v1), (2, .int v2), (3, .int v3)]) hx hb dX9_matchOf_134 hl (k := 4) rfl (by rw [e8]; rfl) (by decide) rfl (fun ls hl => ?_)
    refine lv_goto (tgt := 33) hx hb dX9_matchOf_137 (by decide) ?_
    exact hK33 v1 v2 v3 y7 S h _ _ _ hI (lv_sub hl [1, 2, 3, 4, 0] rfl)
  have hb132 : ∀ (K33 : Int32 → Int32 → Int32 → Int32 → gw_S → Option (Int32 × gw_S)) (_ : ∀ (v1 : Int32) (v2 : Int32) (v3 : Int32) (v4 : Int32) (S : gw_S), K33 v1 v2 v3 v4 S = some (zr, zS) → ∀ (H : Heap) (locs : List Loc) (ls : Array Slot), gw_I D A s.heap (gw_mw cc a S) H locs → lv_has ls 6 [(0, .ref (a 0)), (1, .int v1), (2, .int v2), (3, .int v3), (4, .int v4)] → W p l e rm_X9_matchOf s m args below meth c H locs 0 0 (MQ below (gw_Q (some (.int zr)) (gw_Pst D A (fun w => w = gw_mw cc a zS)) A) args s 0 0 A) (F0 m 33 ls [])), ∀ (v1 : Int32) (v2 : Int32) (v4 : Int32) (t0_ : Int32) (t1_ : Int32) (S : gw_S), f_X9_matchOf_b132 K33 v1 v2 v4 t0_ t1_ S = some (zr, zS) → ∀ (H : Heap) (locs : List Loc) (ls : Array Slot), gw_I D A s.heap (gw_mw cc a S) H locs → lv_has ls 6 [(0, .ref (a 0)), (1, .int v1), (2, .int v2), (4, .int v4)] → W p l e rm_X9_matchOf s m args below meth c H locs 0 0 (MQ below (gw_Q (some (.int zr)) (gw_Pst D A (fun w => w = gw_mw cc a zS)) A) args s 0 0 A) (F0 m 132 ls [.int t0_, .int t1_]) := by
    intro K33 hK33
    intro v1 v2 v4 t0_ t1_ S h H locs ls hI hl
    unfold f_X9_matchOf_b132 at h
    refine lv_iadd hx hb dX9_matchOf_132 ?_
    obtain ⟨y9, e10, h⟩ := gw_letE h
    rw [← e10]
    refine lv_istore_n (lv' := [(3, .int y9), (0, .ref (a 0)), (1, .int v1), (2, .int v2), (4, .int v4)]) hx hb dX9_matchOf_133 rfl hl (by decide) rfl (fun ls hl => ?_)
    exact hb134 K33 hK33 v1 v2 y9 v4 S h _ _ _ hI (lv_sub hl [1, 2, 3, 0, 4] rfl)
  have hb131 : ∀ (K33 : Int32 → Int32 → Int32 → Int32 → gw_S → Option (Int32 × gw_S)) (_ : ∀ (v1 : Int32) (v2 : Int32) (v3 : Int32) (v4 : Int32) (S : gw_S), K33 v1 v2 v3 v4 S = some (zr, zS) → ∀ (H : Heap) (locs : List Loc) (ls : Array Slot), gw_I D A s.heap (gw_mw cc a S) H locs → lv_has ls 6 [(0, .ref (a 0)), (1, .int v1), (2, .int v2), (3, .int v3), (4, .int v4)] → W p l e rm_X9_matchOf s m args below meth c H locs 0 0 (MQ below (gw_Q (some (.int zr)) (gw_Pst D A (fun w => w = gw_mw cc a zS)) A) args s 0 0 A) (F0 m 33 ls [])), ∀ (v1 : Int32) (v2 : Int32) (v4 : Int32) (t0_ : Int32) (S : gw_S), f_X9_matchOf_b131 K33 v1 v2 v4 t0_ S = some (zr, zS) → ∀ (H : Heap) (locs : List Loc) (ls : Array Slot), gw_I D A s.heap (gw_mw cc a S) H locs → lv_has ls 6 [(0, .ref (a 0)), (1, .int v1), (2, .int v2), (4, .int v4)] → W p l e rm_X9_matchOf s m args below meth c H locs 0 0 (MQ below (gw_Q (some (.int zr)) (gw_Pst D A (fun w => w = gw_mw cc a zS)) A) args s 0 0 A) (F0 m 131 ls [.int t0_]) := by
    intro K33 hK33
    intro v1 v2 v4 t0_ S h H locs ls hI hl
    unfold f_X9_matchOf_b131 at h
    refine lv_iconst (v := 0) hx hb dX9_matchOf_131 (by decide) ?_
    exact hb132 K33 hK33 v1 v2 v4 (0 : Int32) t0_ S h _ _ _ hI (lv_sub hl [0, 1, 2, 3] rfl)
  have hb100 : ∀ (K33 : Int32 → Int32 → Int32 → Int32 → gw_S → Option (Int32 × gw_S)) (_ : ∀ (v1 : Int32) (v2 : Int32) (v3 : Int32) (v4 : Int32) (S : gw_S), K33 v1 v2 v3 v4 S = some (zr, zS) → ∀ (H : Heap) (locs : List Loc) (ls : Array Slot), gw_I D A s.heap (gw_mw cc a S) H locs → lv_has ls 6 [(0, .ref (a 0)), (1, .int v1), (2, .int v2), (3, .int v3), (4, .int v4)] → W p l e rm_X9_matchOf s m args below meth c H locs 0 0 (MQ below (gw_Q (some (.int zr)) (gw_Pst D A (fun w => w = gw_mw cc a zS)) A) args s 0 0 A) (F0 m 33 ls [])), ∀ (v1 : Int32) (v2 : Int32) (v3 : Int32) (v4 : Int32) (S : gw_S), f_X9_matchOf_b100 K33 v1 v2 v3 v4 S = some (zr, zS) → ∀ (H : Heap) (locs : List Loc) (ls : Array Slot), gw_I D A s.heap (gw_mw cc a S) H locs → lv_has ls 6 [(0, .ref (a 0)), (1, .int v1), (2, .int v2), (3, .int v3), (4, .int v4)] → W p l e rm_X9_matchOf s m args below meth c H locs 0 0 (MQ below (gw_Q (some (.int zr)) (gw_Pst D A (fun w => w = gw_mw cc a zS)) A) args s 0 0 A) (F0 m 100 ls []) := by
    intro K33 hK33
    intro v1 v2 v3 v4 S h H locs ls hI hl
    unfold f_X9_matchOf_b100 at h
    refine lv_iload_n hx hb dX9_matchOf_100 rfl (lv_at hl 3 rfl) ?_
    refine lv_aload_n hx hb dX9_matchOf_101 rfl (lv_at hl 0 rfl) ?_
    refine gw_get (T := TX9) (k := 37) (v := .ref (a 32)) B hI gm_g0 rfl ly_X9_matchOf_9 (by decide) m_X9_matchOf_104 rfl rfl dX9_matchOf_102 ?_
    refine lv_iload hx hb dX9_matchOf_105 (lv_at hl 4 rfl) ?_
    obtain ⟨g11, h⟩ := gw_gdE h
    refine gw_iald (t0 := 0) B hI gm_g32 rfl g11 dX9_matchOf_107 ?_
    refine lv_if_lt (tgt := 131) hx hb dX9_matchOf_108 (by decide) (fun c12 => ?_) (fun c12 => ?_)
    · replace h := gw_ifT c12 h
      exact hb131 K33 hK33 v1 v2 v4 v3 S h _ _ _ hI (lv_sub hl [0, 1, 2, 4] rfl)
    · replace h := gw_ifF c12 h
      refine lv_aload_n hx hb dX9_matchOf_111 rfl (lv_at hl 0 rfl) ?_
      refine gw_get (T := TX9) (k := 12) (v := .ref (a 10)) B hI gm_g0 rfl ly_X9_matchOf_9 (by decide) m_X9_matchOf_37 rfl rfl dX9_matchOf_112 ?_
      refine lv_aload_n hx hb dX9_matchOf_115 rfl (lv_at hl 0 rfl) ?_
      refine gw_get (T := TX9) (k := 37) (v := .ref (a 32)) B hI gm_g0 rfl ly_X9_matchOf_9 (by decide) m_X9_matchOf_104 rfl rfl dX9_matchOf_116 ?_
      refine lv_iload hx hb dX9_matchOf_119 (lv_at hl 4 rfl) ?_
      refine gw_iald (t0 := 0) B hI gm_g32 rfl g11 dX9_matchOf_121 ?_
      obtain ⟨g13, h⟩ := gw_gdE h
      refine gw_iald (t0 := 0) B hI gm_g10 rfl g13 dX9_matchOf_122 ?_
      refine lv_iload_n hx hb dX9_matchOf_123 rfl (lv_at hl 2 rfl) ?_
      refine lv_icmp_ne (tgt := 131) hx hb dX9_matchOf_124 (by decide) (fun c14 => ?_) (fun c14 => ?_)
      · replace h := gw_ifF c14 h
        exact hb131 K33 hK33 v1 v2 v4 v3 S h _ _ _ hI (lv_sub hl [0, 1, 2, 4] rfl)
      · replace h := gw_ifT c14 h
        refine lv_iconst (v := 1) hx hb dX9_matchOf_127 (by decide) ?_
        refine lv_goto (tgt := 132) hx hb dX9_matchOf_128 (by decide) ?_
        exact hb132 K33 hK33 v1 v2 v4 (1 : Int32) v3 S h _ _ _ hI (lv_sub hl [0, 1, 2, 4] rfl)
  have hb99 : ∀ (K33 : Int32 → Int32 → Int32 → Int32 → gw_S → Option (Int32 × gw_S)) (_ : ∀ (v1 : Int32) (v2 : Int32) (v3 : Int32) (v4 : Int32) (S : gw_S), K33 v1 v2 v3 v4 S = some (zr, zS) → ∀ (H : Heap) (locs : List Loc) (ls : Array Slot), gw_I D A s.heap (gw_mw cc a S) H locs → lv_has ls 6 [(0, .ref (a 0)), (1, .int v1), (2, .int v2), (3, .int v3), (4, .int v4)] → W p l e rm_X9_matchOf s m args below meth c H locs 0 0 (MQ below (gw_Q (some (.int zr)) (gw_Pst D A (fun w => w = gw_mw cc a zS)) A) args s 0 0 A) (F0 m 33 ls [])), ∀ (v1 : Int32) (v2 : Int32) (v3 : Int32) (v4 : Int32) (t0_ : Int32) (t1_ : Int32) (S : gw_S), f_X9_matchOf_b99 K33 v1 v2 v3 v4 t0_ t1_ S = some (zr, zS) → ∀ (H : Heap) (locs : List Loc) (ls : Array Slot), gw_I D A s.heap (gw_mw cc a S) H locs → lv_has ls 6 [(0, .ref (a 0)), (1, .int v1), (2, .int v2), (3, .int v3), (4, .int v4)] → W p l e rm_X9_matchOf s m args below meth c H locs 0 0 (MQ below (gw_Q (some (.int zr)) (gw_Pst D A (fun w => w = gw_mw cc a zS)) A) args s 0 0 A) (F0 m 99 ls [.int t0_, .int t1_, .ref (a 32)]) := by
    intro K33 hK33
    intro v1 v2 v3 v4 t0_ t1_ S h H locs ls hI hl
    unfold f_X9_matchOf_b99 at h
    obtain ⟨g15, h⟩ := gw_gdE h
    obtain ⟨S16, e17, h⟩ := gw_letE h
    refine gw_iast (t0 := 0) (w' := gw_mw cc a S16) B hI gm_g32 rfl g15 (gm_s32 e17) dX9_matchOf_99 (fun H locs hI => ?_)
    exact hb100 K33 hK33 v1 v2 v3 v4 S16 h _ _ _ hI (lv_sub hl [0, 1, 2, 3, 4] rfl)
  have hb33 :  ∀ (n : Nat), ∀ (v1 : Int32) (v2 : Int32) (v3 : Int32) (v4 : Int32) (S : gw_S), f_X9_matchOf_b33  n v1 v2 v3 v4 S = some (zr, zS) → ∀ (H : Heap) (locs : List Loc) (ls : Array Slot), gw_I D A s.heap (gw_mw cc a S) H locs → lv_has ls 6 [(0, .ref (a 0)), (1, .int v1), (2, .int v2), (3, .int v3), (4, .int v4)] → W p l e rm_X9_matchOf s m args below meth c H locs 0 0 (MQ below (gw_Q (some (.int zr)) (gw_Pst D A (fun w => w = gw_mw cc a zS)) A) args s 0 0 A) (F0 m 33 ls []) := by
    intro n
    induction n with
    | zero =>
      intro v1 v2 v3 v4 S h
      cases h
    | succ n ih =>
      intro v1 v2 v3 v4 S h H locs ls hI hl
      unfold f_X9_matchOf_b33 at h
      refine lv_iload hx hb dX9_matchOf_33 (lv_at hl 4 rfl) ?_
      refine lv_aload_n hx hb dX9_matchOf_35 rfl (lv_at hl 0 rfl) ?_
      refine gw_get (T := TX9) (k := 29) (v := .int (S 0 29)) B hI gm_g0 rfl ly_X9_matchOf_9 (by decide) m_X9_matchOf_257 rfl rfl dX9_matchOf_36 ?_
      refine lv_icmp_ge (tgt := 140) hx hb dX9_matchOf_39 (by decide) (fun c18 => ?_) (fun c18 => ?_)
      · replace h := gw_ifT c18 h
        refine lv_iconst (v := 0) hx hb dX9_matchOf_140 (by decide) ?_
        refine lv_istore (lv' := [(4, .int (0 : Int32)), (0, .ref (a 0)), (1, .int v1), (2, .int v2), (3, .int v3)]) hx hb dX9_matchOf_141 hl (by decide) rfl (fun ls hl => ?_)
        exact hb143  gw_F v3 (0 : Int32) S h _ _ _ hI (lv_sub hl [1, 4, 0] rfl)
      · replace h := gw_ifF c18 h
        refine lv_aload_n hx hb dX9_matchOf_42 rfl (lv_at hl 0 rfl) ?_
        refine gw_get (T := TX9) (k := 35) (v := .ref (a 30)) B hI gm_g0 rfl ly_X9_matchOf_9 (by decide) m_X9_matchOf_98 rfl rfl dX9_matchOf_43 ?_
        refine lv_iload hx hb dX9_matchOf_46 (lv_at hl 4 rfl) ?_
        obtain ⟨g19, h⟩ := gw_gdE h
        refine gw_iald (t0 := 0) B hI gm_g30 rfl g19 dX9_matchOf_48 ?_
        refine lv_iload_n hx hb dX9_matchOf_49 rfl (lv_at hl 1 rfl) ?_
        refine lv_icmp_ne (tgt := 134) hx hb dX9_matchOf_50 (by decide) (fun c20 => ?_) (fun c20 => ?_)
        · replace h := gw_ifF c20 h
          exact hb134 (f_X9_matchOf_b33  n) ih v1 v2 v3 v4 S h _ _ _ hI (lv_sub hl [0, 1, 2, 3, 4] rfl)
        · replace h := gw_ifT c20 h
          refine lv_aload_n hx hb dX9_matchOf_53 rfl (lv_at hl 0 rfl) ?_
          refine gw_get (T := TX9) (k := 36) (v := .ref (a 31)) B hI gm_g0 rfl ly_X9_matchOf_9 (by decide) m_X9_matchOf_101 rfl rfl dX9_matchOf_54 ?_
          refine lv_iload hx hb dX9_matchOf_57 (lv_at hl 4 rfl) ?_
          refine gw_iald (t0 := 0) B hI gm_g31 rfl g19 dX9_matchOf_59 ?_
          refine lv_if_ge (tgt := 134) hx hb dX9_matchOf_60 (by decide) (fun c21 => ?_) (fun c21 => ?_)
          · replace h := gw_ifT c21 h
            exact hb134 (f_X9_matchOf_b33  n) ih v1 v2 v3 v4 S h _ _ _ hI (lv_sub hl [0, 1, 2, 3, 4] rfl)
          · replace h := gw_ifF c21 h
            refine lv_aload_n hx hb dX9_matchOf_63 rfl (lv_at hl 0 rfl) ?_
            refine gw_get (T := TX9) (k := 37) (v := .ref (a 32)) B hI gm_g0 rfl ly_X9_matchOf_9 (by decide) m_X9_matchOf_104 rfl rfl dX9_matchOf_64 ?_
            refine lv_iload hx hb dX9_matchOf_67 (lv_at hl 4 rfl) ?_
            refine gw_iald (t0 := 0) B hI gm_g32 rfl g19 dX9_matchOf_69 ?_
            refine lv_if_ge (tgt := 100) hx hb dX9_matchOf_70 (by decide) (fun c22 => ?_) (fun c22 => ?_)
            · replace h := gw_ifT c22 h
              exact hb100 (f_X9_matchOf_b33  n) ih v1 v2 v3 v4 S h _ _ _ hI (lv_sub hl [0, 1, 2, 3, 4] rfl)
            · replace h := gw_ifF c22 h
              refine lv_aload_n hx hb dX9_matchOf_73 rfl (lv_at hl 0 rfl) ?_
              refine lv_iload hx hb dX9_matchOf_74 (lv_at hl 4 rfl) ?_
              refine lv_iload_n hx hb dX9_matchOf_76 rfl (lv_at hl 2 rfl) ?_
              obtain ⟨r23, e24, h⟩ := gw_bdE h
              refine gw_callV (As := [.int v4, .int v2]) (n := 2) B hI (k_X9_givenOf v4 v2 S e24) gX9_matchOf_X9_givenOf rfl rfl rfl nd_X9_givenOf ⟨Nat.le_of_ble_eq_true rfl, Nat.le_of_ble_eq_true rfl⟩ gm_g0 rfl rfl rfl hl.1 (Nat.zero_le _) dX9_matchOf_77 ⟨Nat.le_of_ble_eq_true rfl, Nat.le_of_ble_eq_true rfl⟩ rfl (fun w' H locs hw hI => ?_)
              subst hw
              refine lv_istore (lv' := [(5, .int r23), (0, .ref (a 0)), (1, .int v1), (2, .int v2), (3, .int v3), (4, .int v4)]) hx hb dX9_matchOf_80 hl (by decide) rfl (fun ls hl => ?_)
              refine lv_aload_n hx hb dX9_matchOf_82 rfl (lv_at hl 1 rfl) ?_
              refine gw_get (T := TX9) (k := 37) (v := .ref (a 32)) B hI gm_g0 rfl ly_X9_matchOf_9 (by decide) m_X9_matchOf_104 rfl rfl dX9_matchOf_83 ?_
              refine lv_iload hx hb dX9_matchOf_86 (lv_at hl 5 rfl) ?_
              refine lv_iload hx hb dX9_matchOf_88 (lv_at hl 0 rfl) ?_
              refine lv_if_ge (tgt := 97) hx hb dX9_matchOf_90 (by decide) (fun c25 => ?_) (fun c25 => ?_)
              · replace h := gw_ifT c25 h
                refine lv_iload hx hb dX9_matchOf_97 (lv_at hl 0 rfl) ?_
                exact hb99 (f_X9_matchOf_b33  n) ih v1 v2 v3 v4 r23 v4 S h _ _ _ hI (lv_sub hl [1, 2, 3, 4, 5] rfl)
              · replace h := gw_ifF c25 h
                refine lv_iconst (v := -1) hx hb dX9_matchOf_93 (by decide) ?_
                refine lv_goto (tgt := 99) hx hb dX9_matchOf_94 (by decide) ?_
                exact hb99 (f_X9_matchOf_b33  n) ih v1 v2 v3 v4 (-1 : Int32) v4 S h _ _ _ hI (lv_sub hl [1, 2, 3, 4, 5] rfl)
  have hb2 :  ∀ (n : Nat), ∀ (v1 : Int32) (v2 : Int32) (v3 : Int32) (S : gw_S), f_X9_matchOf_b2  n v1 v2 v3 S = some (zr, zS) → ∀ (H : Heap) (locs : List Loc) (ls : Array Slot), gw_I D A s.heap (gw_mw cc a S) H locs → lv_has ls 6 [(0, .ref (a 0)), (1, .int v1), (2, .int v2), (3, .int v3)] → W p l e rm_X9_matchOf s m args below meth c H locs 0 0 (MQ below (gw_Q (some (.int zr)) (gw_Pst D A (fun w => w = gw_mw cc a zS)) A) args s 0 0 A) (F0 m 2 ls []) := by
    intro n
    induction n with
    | zero =>
      intro v1 v2 v3 S h
      cases h
    | succ n ih =>
      intro v1 v2 v3 S h H locs ls hI hl
      unfold f_X9_matchOf_b2 at h
      refine lv_iload_n hx hb dX9_matchOf_2 rfl (lv_at hl 3 rfl) ?_
      refine lv_aload_n hx hb dX9_matchOf_3 rfl (lv_at hl 0 rfl) ?_
      refine gw_get (T := TX9) (k := 29) (v := .int (S 0 29)) B hI gm_g0 rfl ly_X9_matchOf_9 (by decide) m_X9_matchOf_257 rfl rfl dX9_matchOf_4 ?_
      refine lv_icmp_ge (tgt := 28) hx hb dX9_matchOf_7 (by decide) (fun c26 => ?_) (fun c26 => ?_)
      · replace h := gw_ifT c26 h
        refine lv_iconst (v := 0) hx hb dX9_matchOf_28 (by decide) ?_
        refine lv_istore_n (lv' := [(3, .int (0 : Int32)), (0, .ref (a 0)), (1, .int v1), (2, .int v2)]) hx hb dX9_matchOf_29 rfl hl (by decide) rfl (fun ls hl => ?_)
        refine lv_iconst (v := 0) hx hb dX9_matchOf_30 (by decide) ?_
        refine lv_istore (lv' := [(4, .int (0 : Int32)), (3, .int (0 : Int32)), (0, .ref (a 0)), (1, .int v1), (2, .int v2)]) hx hb dX9_matchOf_31 hl (by decide) rfl (fun ls hl => ?_)
        exact hb33  gw_F v1 v2 (0 : Int32) (0 : Int32) S h _ _ _ hI (lv_sub hl [2, 3, 4, 1, 0] rfl)
      · replace h := gw_ifF c26 h
        refine lv_aload_n hx hb dX9_matchOf_10 rfl (lv_at hl 0 rfl) ?_
        refine gw_get (T := TX9) (k := 47) (v := .ref (a 42)) B hI gm_g0 rfl ly_X9_matchOf_9 (by decide) m_X9_matchOf_134 rfl rfl dX9_matchOf_11 ?_
        refine lv_iload_n hx hb dX9_matchOf_14 rfl (lv_at hl 3 rfl) ?_
        refine lv_aload_n hx hb dX9_matchOf_15 rfl (lv_at hl 0 rfl) ?_
        refine gw_get (T := TX9) (k := 37) (v := .ref (a 32)) B hI gm_g0 rfl ly_X9_matchOf_9 (by decide) m_X9_matchOf_104 rfl rfl dX9_matchOf_16 ?_
        refine lv_iload_n hx hb dX9_matchOf_19 rfl (lv_at hl 3 rfl) ?_
        obtain ⟨g27, h⟩ := gw_gdE h
        refine gw_iald (t0 := 0) B hI gm_g32 rfl g27 dX9_matchOf_20 ?_
        obtain ⟨S28, e29, h⟩ := gw_letE h
        refine gw_iast (t0 := 0) (w' := gw_mw cc a S28) B hI gm_g42 rfl g27 (gm_s42 e29) dX9_matchOf_21 (fun H locs hI => ?_)
        obtain ⟨y30, e31, h⟩ := gw_letE h
        refine lv_iinc (v := y30) (lv' := [(3, .int y30), (0, .ref (a 0)), (1, .int v1), (2, .int v2)]) hx hb dX9_matchOf_22 hl (k := 3) rfl (by rw [e31]; rfl) (by decide) rfl (fun ls hl => ?_)
        refine lv_goto (tgt := 2) hx hb dX9_matchOf_25 (by decide) ?_
        exact ih v1 v2 y30 S28 h _ _ _ hI (lv_sub hl [1, 2, 3, 0] rfl)
  unfold f_X9_matchOf at h
  refine lv_iconst (v := 0) hx hb dX9_matchOf_0 (by decide) ?_
  refine lv_istore_n (lv' := [(3, .int (0 : Int32)), (0, .ref (a 0)), (1, .int x1), (2, .int x2)]) hx hb dX9_matchOf_1 rfl hl (by decide) rfl (fun ls hl => ?_)
  exact hb2  gw_F x1 x2 (0 : Int32) S h _ _ _ hI (lv_sub hl [1, 2, 3, 0] rfl)
theorem m_X9_match_101 : Cond.fieldLink RX9 101 "GownLetModel" "offs" "[I" ∈ wsX9_match := by decide +kernel
theorem m_X9_match_257 : Cond.fieldLink RX9 257 "GownLetModel" "bookings" "I" ∈ wsX9_match := by decide +kernel
theorem m_X9_match_98 : Cond.fieldLink RX9 98 "GownLetModel" "parties" "[I" ∈ wsX9_match := by decide +kernel
theorem ly_X9_match_9 : ∀ w ∈ wsX90, w ∈ wsX9_match := by decide +kernel
set_option maxRecDepth 100000 in
set_option maxHeartbeats 4000000 in
theorem k_X9_match (x1 : Int32) (x2 : Int32) (S : gw_S) {zr : Int32} {zS : gw_S} (h : f_X9_match x1 x2 S = some (zr, zS)) : gw_M l yX9_match wsX9_match rm_X9_match 0 0 D (gw_ty cc) t1 t2 [.ref (a 0), .int x1, .int x2] (gw_mw cc a S) (fun w => w = gw_mw cc a zS) (some (.int zr)) := by
  refine gw_enter (cc := cX9_match) (maxL := 8) (ret := (some .int)) (own := RX9) rfl (by decide) rfl (Nat.le_of_ble_eq_true rfl) ?_
  intro p e s m below meth c A B hin hI ls hl
  have hl : lv_has ls 8 [(0, .ref (a 0)), (1, .int x1), (2, .int x2)] := hl
  generalize ([.ref (a 0), .int x1, .int x2] : List Value).toArray = args at B ⊢
  have hx := B.1.1
  have hb := B.1.2.1
  have hown : s.vm.findClass RX9 = some m.cls := B.1.2.2.2.1
  have hts := B.1.2.2.2.2
  have hb126 : ∀ (K95 : Int32 → Int32 → Int32 → Int32 → Int32 → Int32 → gw_S → Option (Int32 × gw_S)) (_ : ∀ (v1 : Int32) (v2 : Int32) (v3 : Int32) (v4 : Int32) (v5 : Int32) (v6 : Int32) (S : gw_S), K95 v1 v2 v3 v4 v5 v6 S = some (zr, zS) → ∀ (H : Heap) (locs : List Loc) (ls : Array Slot), gw_I D A s.heap (gw_mw cc a S) H locs → lv_has ls 8 [(0, .ref (a 0)), (1, .int v1), (2, .int v2), (3, .int v3), (4, .int v4), (5, .int v5), (6, .int v6)] → W p l e rm_X9_match s m args below meth c H locs 0 0 (MQ below (gw_Q (some (.int zr)) (gw_Pst D A (fun w => w = gw_mw cc a zS)) A) args s 0 0 A) (F0 m 95 ls [])), ∀ (v1 : Int32) (v2 : Int32) (v3 : Int32) (v4 : Int32) (v5 : Int32) (v6 : Int32) (S : gw_S), f_X9_match_b126 K95 v1 v2 v3 v4 v5 v6 S = some (zr, zS) → ∀ (H : Heap) (locs : List Loc) (ls : Array Slot), gw_I D A s.heap (gw_mw cc a S) H locs → lv_has ls 8 [(0, .ref (a 0)), (1, .int v1), (2, .int v2), (3, .int v3), (4, .int v4), (5, .int v5), (6, .int v6)] → W p l e rm_X9_match s m args below meth c H locs 0 0 (MQ below (gw_Q (some (.int zr)) (gw_Pst D A (fun w => w = gw_mw cc a zS)) A) args s 0 0 A) (F0 m 126 ls []) := by
    intro K95 hK95
    intro v1 v2 v3 v4 v5 v6 S h H locs ls hI hl
    unfold f_X9_match_b126 at h
    obtain ⟨y1, e2, h⟩ := gw_letE h
    refine lv_iinc (v := y1) (lv' := [(6, .int y1), (0, .ref (a 0)), (1, .int v1), (2, .int v2), (3, .int v3), (4, .int v4), (5, .int v5)]) hx hb dX9_match_126 hl (k := 6) rfl (by rw [e2]; rfl) (by decide) rfl (fun ls hl => ?_)
    refine lv_goto (tgt := 95) hx hb dX9_match_129 (by decide) ?_
    exact hK95 v1 v2 v3 v4 v5 y1 S h _ _ _ hI (lv_sub hl [1, 2, 3, 4, 5, 6, 0] rfl)
  have hb95 :  ∀ (n : Nat), ∀ (v1 : Int32) (v2 : Int32) (v3 : Int32) (v4 : Int32) (v5 : Int32) (v6 : Int32) (S : gw_S), f_X9_match_b95  n v1 v2 v3 v4 v5 v6 S = some (zr, zS) → ∀ (H : Heap) (locs : List Loc) (ls : Array Slot), gw_I D A s.heap (gw_mw cc a S) H locs → lv_has ls 8 [(0, .ref (a 0)), (1, .int v1), (2, .int v2), (3, .int v3), (4, .int v4), (5, .int v5), (6, .int v6)] → W p l e rm_X9_match s m args below meth c H locs 0 0 (MQ below (gw_Q (some (.int zr)) (gw_Pst D A (fun w => w = gw_mw cc a zS)) A) args s 0 0 A) (F0 m 95 ls []) := by
    intro n
    induction n with
    | zero =>
      intro v1 v2 v3 v4 v5 v6 S h
      cases h
    | succ n ih =>
      intro v1 v2 v3 v4 v5 v6 S h H locs ls hI hl
      unfold f_X9_match_b95 at h
      refine lv_iload hx hb dX9_match_95 (lv_at hl 6 rfl) ?_
      refine lv_bipush (v := 10) hx hb dX9_match_97 (by decide) ?_
      refine lv_icmp_ge (tgt := 132) hx hb dX9_match_99 (by decide) (fun c3 => ?_) (fun c3 => ?_)
      · replace h := gw_ifT c3 h
        refine lv_iload_n hx hb dX9_match_132 rfl (lv_at hl 2 rfl) ?_
        refine lv_if_ne (tgt := 141) hx hb dX9_match_133 (by decide) (fun c4 => ?_) (fun c4 => ?_)
        · replace h := gw_ifF c4 h
          refine lv_iload_n hx hb dX9_match_141 rfl (lv_at hl 2 rfl) ?_
          refine lv_iconst (v := 1) hx hb dX9_match_142 (by decide) ?_
          refine lv_icmp_ne (tgt := 151) hx hb dX9_match_143 (by decide) (fun c5 => ?_) (fun c5 => ?_)
          · replace h := gw_ifF c5 h
            refine lv_iload_n hx hb dX9_match_151 rfl (lv_at hl 3 rfl) ?_
            obtain ⟨h1, h2⟩ := Prod.mk.inj (Option.some.inj h)
            rw [h2] at hI
            rw [← h1]
            exact gw_iret (W' := (fun w => w = gw_mw cc a zS)) B hI rfl (Nat.zero_le _) (Nat.zero_le _) dX9_match_152
          · replace h := gw_ifT c5 h
            refine lv_iload hx hb dX9_match_146 (lv_at hl 5 rfl) ?_
            refine lv_goto (tgt := 152) hx hb dX9_match_148 (by decide) ?_
            obtain ⟨h1, h2⟩ := Prod.mk.inj (Option.some.inj h)
            rw [h2] at hI
            rw [← h1]
            exact gw_iret (W' := (fun w => w = gw_mw cc a zS)) B hI rfl (Nat.zero_le _) (Nat.zero_le _) dX9_match_152
        · replace h := gw_ifT c4 h
          refine lv_iload hx hb dX9_match_136 (lv_at hl 4 rfl) ?_
          refine lv_goto (tgt := 152) hx hb dX9_match_138 (by decide) ?_
          obtain ⟨h1, h2⟩ := Prod.mk.inj (Option.some.inj h)
          rw [h2] at hI
          rw [← h1]
          exact gw_iret (W' := (fun w => w = gw_mw cc a zS)) B hI rfl (Nat.zero_le _) (Nat.zero_le _) dX9_match_152
      · replace h := gw_ifF c3 h
        refine lv_aload_n hx hb dX9_match_102 rfl (lv_at hl 0 rfl) ?_
        refine lv_iload_n hx hb dX9_match_103 rfl (lv_at hl 1 rfl) ?_
        refine lv_iload hx hb dX9_match_104 (lv_at hl 6 rfl) ?_
        obtain ⟨r6, S7, e8, h⟩ := gw_b2E h
        refine gw_callV (As := [.int v1, .int v6]) (n := 2) B hI (k_X9_matchOf v1 v6 S e8) gX9_match_X9_matchOf rfl rfl rfl nd_X9_matchOf ⟨Nat.le_of_ble_eq_true rfl, Nat.le_of_ble_eq_true rfl⟩ gm_g0 rfl rfl rfl hl.1 (Nat.zero_le _) dX9_match_106 ⟨Nat.le_of_ble_eq_true rfl, Nat.le_of_ble_eq_true rfl⟩ rfl (fun w' H locs hw hI => ?_)
        subst hw
        refine lv_istore (lv' := [(7, .int r6), (0, .ref (a 0)), (1, .int v1), (2, .int v2), (3, .int v3), (4, .int v4), (5, .int v5), (6, .int v6)]) hx hb dX9_match_109 hl (by decide) rfl (fun ls hl => ?_)
        refine lv_iload hx hb dX9_match_111 (lv_at hl 0 rfl) ?_
        refine lv_iload hx hb dX9_match_113 (lv_at hl 6 rfl) ?_
        refine lv_icmp_le (tgt := 126) hx hb dX9_match_115 (by decide) (fun c9 => ?_) (fun c9 => ?_)
        · replace h := gw_ifT c9 h
          exact hb126 (f_X9_match_b95  n) ih v1 v2 v3 v4 v5 v6 S7 h _ _ _ hI (lv_sub hl [1, 2, 3, 4, 5, 6, 7] rfl)
        · replace h := gw_ifF c9 h
          refine lv_iload hx hb dX9_match_118 (lv_at hl 0 rfl) ?_
          refine lv_istore (lv' := [(5, .int r6), (7, .int r6), (0, .ref (a 0)), (1, .int v1), (2, .int v2), (3, .int v3), (4, .int v4), (6, .int v6)]) hx hb dX9_match_120 hl (by decide) rfl (fun ls hl => ?_)
          refine lv_iload hx hb dX9_match_122 (lv_at hl 7 rfl) ?_
          refine lv_istore (lv' := [(4, .int v6), (5, .int r6), (7, .int r6), (0, .ref (a 0)), (1, .int v1), (2, .int v2), (3, .int v3), (6, .int v6)]) hx hb dX9_match_124 hl (by decide) rfl (fun ls hl => ?_)
          exact hb126 (f_X9_match_b95  n) ih v1 v2 v3 v6 r6 v6 S7 h _ _ _ hI (lv_sub hl [3, 4, 5, 6, 0, 1, 7] rfl)
  have hb67 : ∀ (K31 : Int32 → Int32 → Int32 → Int32 → gw_S → Option (Int32 × gw_S)) (_ : ∀ (v1 : Int32) (v2 : Int32) (v3 : Int32) (v4 : Int32) (S : gw_S), K31 v1 v2 v3 v4 S = some (zr, zS) → ∀ (H : Heap) (locs : List Loc) (ls : Array Slot), gw_I D A s.heap (gw_mw cc a S) H locs → lv_has ls 8 [(0, .ref (a 0)), (1, .int v1), (2, .int v2), (3, .int v3), (4, .int v4)] → W p l e rm_X9_match s m args below meth c H locs 0 0 (MQ below (gw_Q (some (.int zr)) (gw_Pst D A (fun w => w = gw_mw cc a zS)) A) args s 0 0 A) (F0 m 31 ls [])), ∀ (v1 : Int32) (v2 : Int32) (v4 : Int32) (t0_ : Int32) (t1_ : Int32) (S : gw_S), f_X9_match_b67 K31 v1 v2 v4 t0_ t1_ S = some (zr, zS) → ∀ (H : Heap) (locs : List Loc) (ls : Array Slot), gw_I D A s.heap (gw_mw cc a S) H locs → lv_has ls 8 [(0, .ref (a 0)), (1, .int v1), (2, .int v2), (4, .int v4)] → W p l e rm_X9_match s m args below meth c H locs 0 0 (MQ below (gw_Q (some (.int zr)) (gw_Pst D A (fun w => w = gw_mw cc a zS)) A) args s 0 0 A) (F0 m 67 ls [.int t0_, .int t1_]) := by
    intro K31 hK31
    intro v1 v2 v4 t0_ t1_ S h H locs ls hI hl
    unfold f_X9_match_b67 at h
    refine lv_iadd hx hb dX9_match_67 ?_
    obtain ⟨y10, e11, h⟩ := gw_letE h
    rw [← e11]
    refine lv_istore_n (lv' := [(3, .int y10), (0, .ref (a 0)), (1, .int v1), (2, .int v2), (4, .int v4)]) hx hb dX9_match_68 rfl hl (by decide) rfl (fun ls hl => ?_)
    obtain ⟨y12, e13, h⟩ := gw_letE h
    refine lv_iinc (v := y12) (lv' := [(4, .int y12), (3, .int y10), (0, .ref (a 0)), (1, .int v1), (2, .int v2)]) hx hb dX9_match_69 hl (k := 4) rfl (by rw [e13]; rfl) (by decide) rfl (fun ls hl => ?_)
    refine lv_goto (tgt := 31) hx hb dX9_match_72 (by decide) ?_
    exact hK31 v1 v2 y10 y12 S h _ _ _ hI (lv_sub hl [2, 3, 4, 1, 0] rfl)
  have hb66 : ∀ (K31 : Int32 → Int32 → Int32 → Int32 → gw_S → Option (Int32 × gw_S)) (_ : ∀ (v1 : Int32) (v2 : Int32) (v3 : Int32) (v4 : Int32) (S : gw_S), K31 v1 v2 v3 v4 S = some (zr, zS) → ∀ (H : Heap) (locs : List Loc) (ls : Array Slot), gw_I D A s.heap (gw_mw cc a S) H locs → lv_has ls 8 [(0, .ref (a 0)), (1, .int v1), (2, .int v2), (3, .int v3), (4, .int v4)] → W p l e rm_X9_match s m args below meth c H locs 0 0 (MQ below (gw_Q (some (.int zr)) (gw_Pst D A (fun w => w = gw_mw cc a zS)) A) args s 0 0 A) (F0 m 31 ls [])), ∀ (v1 : Int32) (v2 : Int32) (v4 : Int32) (t0_ : Int32) (S : gw_S), f_X9_match_b66 K31 v1 v2 v4 t0_ S = some (zr, zS) → ∀ (H : Heap) (locs : List Loc) (ls : Array Slot), gw_I D A s.heap (gw_mw cc a S) H locs → lv_has ls 8 [(0, .ref (a 0)), (1, .int v1), (2, .int v2), (4, .int v4)] → W p l e rm_X9_match s m args below meth c H locs 0 0 (MQ below (gw_Q (some (.int zr)) (gw_Pst D A (fun w => w = gw_mw cc a zS)) A) args s 0 0 A) (F0 m 66 ls [.int t0_]) := by
    intro K31 hK31
    intro v1 v2 v4 t0_ S h H locs ls hI hl
    unfold f_X9_match_b66 at h
    refine lv_iconst (v := 0) hx hb dX9_match_66 (by decide) ?_
    exact hb67 K31 hK31 v1 v2 v4 (0 : Int32) t0_ S h _ _ _ hI (lv_sub hl [0, 1, 2, 3] rfl)
  have hb31 :  ∀ (n : Nat), ∀ (v1 : Int32) (v2 : Int32) (v3 : Int32) (v4 : Int32) (S : gw_S), f_X9_match_b31  n v1 v2 v3 v4 S = some (zr, zS) → ∀ (H : Heap) (locs : List Loc) (ls : Array Slot), gw_I D A s.heap (gw_mw cc a S) H locs → lv_has ls 8 [(0, .ref (a 0)), (1, .int v1), (2, .int v2), (3, .int v3), (4, .int v4)] → W p l e rm_X9_match s m args below meth c H locs 0 0 (MQ below (gw_Q (some (.int zr)) (gw_Pst D A (fun w => w = gw_mw cc a zS)) A) args s 0 0 A) (F0 m 31 ls []) := by
    intro n
    induction n with
    | zero =>
      intro v1 v2 v3 v4 S h
      cases h
    | succ n ih =>
      intro v1 v2 v3 v4 S h H locs ls hI hl
      unfold f_X9_match_b31 at h
      refine lv_iload hx hb dX9_match_31 (lv_at hl 4 rfl) ?_
      refine lv_aload_n hx hb dX9_match_33 rfl (lv_at hl 0 rfl) ?_
      refine gw_get (T := TX9) (k := 29) (v := .int (S 0 29)) B hI gm_g0 rfl ly_X9_match_9 (by decide) m_X9_match_257 rfl rfl dX9_match_34 ?_
      refine lv_icmp_ge (tgt := 75) hx hb dX9_match_37 (by decide) (fun c14 => ?_) (fun c14 => ?_)
      · replace h := gw_ifT c14 h
        refine lv_iload_n hx hb dX9_match_75 rfl (lv_at hl 3 rfl) ?_
        refine lv_if_ne (tgt := 82) hx hb dX9_match_76 (by decide) (fun c15 => ?_) (fun c15 => ?_)
        · replace h := gw_ifF c15 h
          refine lv_aload_n hx hb dX9_match_82 rfl (lv_at hl 0 rfl) ?_
          obtain ⟨S16, e17, h⟩ := gw_bdE h
          refine gw_callVv (As := []) (n := 0) B hI (k_X9_findLies  S e17) gX9_match_X9_findLies rfl rfl rfl nd_X9_findLies ⟨Nat.le_of_ble_eq_true rfl, Nat.le_of_ble_eq_true rfl⟩ gm_g0 rfl rfl rfl hl.1 (Nat.zero_le _) dX9_match_83 ⟨Nat.le_of_ble_eq_true rfl, Nat.le_of_ble_eq_true rfl⟩ rfl (fun w' H locs hw hI => ?_)
          subst hw
          refine lv_iconst (v := 0) hx hb dX9_match_86 (by decide) ?_
          refine lv_istore (lv' := [(4, .int (0 : Int32)), (0, .ref (a 0)), (1, .int v1), (2, .int v2), (3, .int v3)]) hx hb dX9_match_87 hl (by decide) rfl (fun ls hl => ?_)
          refine lv_iconst (v := -1) hx hb dX9_match_89 (by decide) ?_
          refine lv_istore (lv' := [(5, .int (-1 : Int32)), (4, .int (0 : Int32)), (0, .ref (a 0)), (1, .int v1), (2, .int v2), (3, .int v3)]) hx hb dX9_match_90 hl (by decide) rfl (fun ls hl => ?_)
          refine lv_iconst (v := 0) hx hb dX9_match_92 (by decide) ?_
          refine lv_istore (lv' := [(6, .int (0 : Int32)), (5, .int (-1 : Int32)), (4, .int (0 : Int32)), (0, .ref (a 0)), (1, .int v1), (2, .int v2), (3, .int v3)]) hx hb dX9_match_93 hl (by decide) rfl (fun ls hl => ?_)
          exact hb95  gw_F v1 v2 v3 (0 : Int32) (-1 : Int32) (0 : Int32) S16 h _ _ _ hI (lv_sub hl [3, 4, 5, 6, 2, 1, 0] rfl)
        · replace h := gw_ifT c15 h
          refine lv_bipush (v := -4) hx hb dX9_match_79 (by decide) ?_
          obtain ⟨h1, h2⟩ := Prod.mk.inj (Option.some.inj h)
          rw [h2] at hI
          rw [← h1]
          exact gw_iret (W' := (fun w => w = gw_mw cc a zS)) B hI rfl (Nat.zero_le _) (Nat.zero_le _) dX9_match_81
      · replace h := gw_ifF c14 h
        refine lv_iload_n hx hb dX9_match_40 rfl (lv_at hl 3 rfl) ?_
        refine lv_aload_n hx hb dX9_match_41 rfl (lv_at hl 0 rfl) ?_
        refine gw_get (T := TX9) (k := 35) (v := .ref (a 30)) B hI gm_g0 rfl ly_X9_match_9 (by decide) m_X9_match_98 rfl rfl dX9_match_42 ?_
        refine lv_iload hx hb dX9_match_45 (lv_at hl 4 rfl) ?_
        obtain ⟨g18, h⟩ := gw_gdE h
        refine gw_iald (t0 := 0) B hI gm_g30 rfl g18 dX9_match_47 ?_
        refine lv_iload_n hx hb dX9_match_48 rfl (lv_at hl 1 rfl) ?_
        refine lv_icmp_ne (tgt := 66) hx hb dX9_match_49 (by decide) (fun c19 => ?_) (fun c19 => ?_)
        · replace h := gw_ifF c19 h
          exact hb66 (f_X9_match_b31  n) ih v1 v2 v4 v3 S h _ _ _ hI (lv_sub hl [0, 1, 2, 4] rfl)
        · replace h := gw_ifT c19 h
          refine lv_aload_n hx hb dX9_match_52 rfl (lv_at hl 0 rfl) ?_
          refine gw_get (T := TX9) (k := 36) (v := .ref (a 31)) B hI gm_g0 rfl ly_X9_match_9 (by decide) m_X9_match_101 rfl rfl dX9_match_53 ?_
          refine lv_iload hx hb dX9_match_56 (lv_at hl 4 rfl) ?_
          refine gw_iald (t0 := 0) B hI gm_g31 rfl g18 dX9_match_58 ?_
          refine lv_if_ge (tgt := 66) hx hb dX9_match_59 (by decide) (fun c20 => ?_) (fun c20 => ?_)
          · replace h := gw_ifT c20 h
            exact hb66 (f_X9_match_b31  n) ih v1 v2 v4 v3 S h _ _ _ hI (lv_sub hl [0, 1, 2, 4] rfl)
          · replace h := gw_ifF c20 h
            refine lv_iconst (v := 1) hx hb dX9_match_62 (by decide) ?_
            refine lv_goto (tgt := 67) hx hb dX9_match_63 (by decide) ?_
            exact hb67 (f_X9_match_b31  n) ih v1 v2 v4 (1 : Int32) v3 S h _ _ _ hI (lv_sub hl [0, 1, 2, 4] rfl)
  unfold f_X9_match at h
  refine lv_iload_n hx hb dX9_match_0 rfl (lv_at hl 1 rfl) ?_
  refine lv_i2l hx hb dX9_match_1 rfl ?_
  refine lv_lconst (v := 0) hx hb dX9_match_2 (by decide) ?_
  refine lv_ldc2 (v := 4) hx hb hown (hts (.constantLong RX9 255 (4)) (by decide +kernel)) dX9_match_3 ?_
  obtain ⟨r21, e22, h⟩ := gw_bdE h
  refine gw_callS (As := [.long (x1.toInt64), .long (0 : Int64), .long (4 : Int64)]) (n := 3) B hI (k_X9_in (x1.toInt64) (0 : Int64) (4 : Int64) S e22) gX9_match_X9_in rfl rfl rfl nds_X9_in ⟨Nat.le_of_ble_eq_true rfl, Nat.le_of_ble_eq_true rfl⟩ rfl hl.1 (Nat.zero_le _) dX9_match_6 ⟨Nat.le_of_ble_eq_true rfl, Nat.le_of_ble_eq_true rfl⟩ rfl (fun w' H locs hw hI => ?_)
  subst hw
  refine lv_if_eq (tgt := 24) hx hb dX9_match_9 (by decide) (fun c23 => ?_) (fun c23 => ?_)
  · replace h := gw_ifT c23 h
    refine lv_iconst (v := -1) hx hb dX9_match_24 (by decide) ?_
    obtain ⟨h1, h2⟩ := Prod.mk.inj (Option.some.inj h)
    rw [h2] at hI
    rw [← h1]
    exact gw_iret (W' := (fun w => w = gw_mw cc a zS)) B hI rfl (Nat.zero_le _) (Nat.zero_le _) dX9_match_25
  · replace h := gw_ifF c23 h
    refine lv_iload_n hx hb dX9_match_12 rfl (lv_at hl 2 rfl) ?_
    refine lv_i2l hx hb dX9_match_13 rfl ?_
    refine lv_lconst (v := 0) hx hb dX9_match_14 (by decide) ?_
    refine lv_ldc2 (v := 2) hx hb hown (hts (.constantLong RX9 241 (2)) (by decide +kernel)) dX9_match_15 ?_
    obtain ⟨r24, e25, h⟩ := gw_bdE h
    refine gw_callS (As := [.long (x2.toInt64), .long (0 : Int64), .long (2 : Int64)]) (n := 3) B hI (k_X9_in (x2.toInt64) (0 : Int64) (2 : Int64) S e25) gX9_match_X9_in rfl rfl rfl nds_X9_in ⟨Nat.le_of_ble_eq_true rfl, Nat.le_of_ble_eq_true rfl⟩ rfl hl.1 (Nat.zero_le _) dX9_match_18 ⟨Nat.le_of_ble_eq_true rfl, Nat.le_of_ble_eq_true rfl⟩ rfl (fun w' H locs hw hI => ?_)
    subst hw
    refine lv_if_ne (tgt := 26) hx hb dX9_match_21 (by decide) (fun c26 => ?_) (fun c26 => ?_)
    · replace h := gw_ifF c26 h
      refine lv_iconst (v := 0) hx hb dX9_match_26 (by decide) ?_
      refine lv_istore_n (lv' := [(3, .int (0 : Int32)), (0, .ref (a 0)), (1, .int x1), (2, .int x2)]) hx hb dX9_match_27 rfl hl (by decide) rfl (fun ls hl => ?_)
      refine lv_iconst (v := 0) hx hb dX9_match_28 (by decide) ?_
      refine lv_istore (lv' := [(4, .int (0 : Int32)), (3, .int (0 : Int32)), (0, .ref (a 0)), (1, .int x1), (2, .int x2)]) hx hb dX9_match_29 hl (by decide) rfl (fun ls hl => ?_)
      exact hb31  gw_F x1 x2 (0 : Int32) (0 : Int32) S h _ _ _ hI (lv_sub hl [2, 3, 4, 1, 0] rfl)
    · replace h := gw_ifT c26 h
      refine lv_iconst (v := -1) hx hb dX9_match_24 (by decide) ?_
      obtain ⟨h1, h2⟩ := Prod.mk.inj (Option.some.inj h)
      rw [h2] at hI
      rw [← h1]
      exact gw_iret (W' := (fun w => w = gw_mw cc a zS)) B hI rfl (Nat.zero_le _) (Nat.zero_le _) dX9_match_25
theorem m_X9_asOf_101 : Cond.fieldLink RX9 101 "GownLetModel" "offs" "[I" ∈ wsX9_asOf := by decide +kernel
theorem m_X9_asOf_257 : Cond.fieldLink RX9 257 "GownLetModel" "bookings" "I" ∈ wsX9_asOf := by decide +kernel
theorem m_X9_asOf_89 : Cond.fieldLink RX9 89 "GownLetModel" "nights" "[I" ∈ wsX9_asOf := by decide +kernel
theorem m_X9_asOf_95 : Cond.fieldLink RX9 95 "GownLetModel" "made" "[I" ∈ wsX9_asOf := by decide +kernel
theorem ly_X9_asOf_9 : ∀ w ∈ wsX90, w ∈ wsX9_asOf := by decide +kernel
set_option maxRecDepth 100000 in
set_option maxHeartbeats 4000000 in
theorem k_X9_asOf (x1 : Int32) (x2 : Int32) (x3 : Int32) (x4 : Int32) (S : gw_S) {zr : Int32} (h : f_X9_asOf x1 x2 x3 x4 S = some zr) : gw_M l yX9_asOf wsX9_asOf rm_X9_asOf 0 0 D (gw_ty cc) t1 t2 [.ref (a 0), .int x1, .int x2, .int x3, .int x4] (gw_mw cc a S) (fun w => w = gw_mw cc a S) (some (.int zr)) := by
  refine gw_enter (cc := cX9_asOf) (maxL := 8) (ret := (some .int)) (own := RX9) rfl (by decide) rfl (Nat.le_of_ble_eq_true rfl) ?_
  intro p e s m below meth c A B hin hI ls hl
  have hl : lv_has ls 8 [(0, .ref (a 0)), (1, .int x1), (2, .int x2), (3, .int x3), (4, .int x4)] := hl
  generalize ([.ref (a 0), .int x1, .int x2, .int x3, .int x4] : List Value).toArray = args at B ⊢
  have hx := B.1.1
  have hb := B.1.2.1
  have hown : s.vm.findClass RX9 = some m.cls := B.1.2.2.2.1
  have hts := B.1.2.2.2.2
  have hb113 : ∀ (K30 : Int32 → Int32 → Int32 → Int32 → Int32 → Int32 → Option (Int32)) (_ : ∀ (v1 : Int32) (v2 : Int32) (v3 : Int32) (v4 : Int32) (v5 : Int32) (v6 : Int32), K30 v1 v2 v3 v4 v5 v6 = some zr → ∀ (H : Heap) (locs : List Loc) (ls : Array Slot), gw_I D A s.heap (gw_mw cc a S) H locs → lv_has ls 8 [(0, .ref (a 0)), (1, .int v1), (2, .int v2), (3, .int v3), (4, .int v4), (5, .int v5), (6, .int v6)] → W p l e rm_X9_asOf s m args below meth c H locs 0 0 (MQ below (gw_Q (some (.int zr)) (gw_Pst D A (fun w => w = gw_mw cc a S)) A) args s 0 0 A) (F0 m 30 ls [])), ∀ (v1 : Int32) (v2 : Int32) (v3 : Int32) (v4 : Int32) (v6 : Int32) (t0_ : Int32) (t1_ : Int32), f_X9_asOf_b113 S K30 v1 v2 v3 v4 v6 t0_ t1_ = some zr → ∀ (H : Heap) (locs : List Loc) (ls : Array Slot), gw_I D A s.heap (gw_mw cc a S) H locs → lv_has ls 8 [(0, .ref (a 0)), (1, .int v1), (2, .int v2), (3, .int v3), (4, .int v4), (6, .int v6)] → W p l e rm_X9_asOf s m args below meth c H locs 0 0 (MQ below (gw_Q (some (.int zr)) (gw_Pst D A (fun w => w = gw_mw cc a S)) A) args s 0 0 A) (F0 m 113 ls [.int t0_, .int t1_]) := by
    intro K30 hK30
    intro v1 v2 v3 v4 v6 t0_ t1_ h H locs ls hI hl
    unfold f_X9_asOf_b113 at h
    refine lv_iadd hx hb dX9_asOf_113 ?_
    obtain ⟨y1, e2, h⟩ := gw_letE h
    rw [← e2]
    refine lv_istore (lv' := [(5, .int y1), (0, .ref (a 0)), (1, .int v1), (2, .int v2), (3, .int v3), (4, .int v4), (6, .int v6)]) hx hb dX9_asOf_114 hl (by decide) rfl (fun ls hl => ?_)
    obtain ⟨y3, e4, h⟩ := gw_letE h
    refine lv_iinc (v := y3) (lv' := [(6, .int y3), (5, .int y1), (0, .ref (a 0)), (1, .int v1), (2, .int v2), (3, .int v3), (4, .int v4)]) hx hb dX9_asOf_116 hl (k := 6) rfl (by rw [e4]; rfl) (by decide) rfl (fun ls hl => ?_)
    refine lv_goto (tgt := 30) hx hb dX9_asOf_119 (by decide) ?_
    exact hK30 v1 v2 v3 v4 y1 y3 h _ _ _ hI (lv_sub hl [2, 3, 4, 5, 6, 1, 0] rfl)
  have hb112 : ∀ (K30 : Int32 → Int32 → Int32 → Int32 → Int32 → Int32 → Option (Int32)) (_ : ∀ (v1 : Int32) (v2 : Int32) (v3 : Int32) (v4 : Int32) (v5 : Int32) (v6 : Int32), K30 v1 v2 v3 v4 v5 v6 = some zr → ∀ (H : Heap) (locs : List Loc) (ls : Array Slot), gw_I D A s.heap (gw_mw cc a S) H locs → lv_has ls 8 [(0, .ref (a 0)), (1, .int v1), (2, .int v2), (3, .int v3), (4, .int v4), (5, .int v5), (6, .int v6)] → W p l e rm_X9_asOf s m args below meth c H locs 0 0 (MQ below (gw_Q (some (.int zr)) (gw_Pst D A (fun w => w = gw_mw cc a S)) A) args s 0 0 A) (F0 m 30 ls [])), ∀ (v1 : Int32) (v2 : Int32) (v3 : Int32) (v4 : Int32) (v6 : Int32) (t0_ : Int32), f_X9_asOf_b112 S K30 v1 v2 v3 v4 v6 t0_ = some zr → ∀ (H : Heap) (locs : List Loc) (ls : Array Slot), gw_I D A s.heap (gw_mw cc a S) H locs → lv_has ls 8 [(0, .ref (a 0)), (1, .int v1), (2, .int v2), (3, .int v3), (4, .int v4), (6, .int v6)] → W p l e rm_X9_asOf s m args below meth c H locs 0 0 (MQ below (gw_Q (some (.int zr)) (gw_Pst D A (fun w => w = gw_mw cc a S)) A) args s 0 0 A) (F0 m 112 ls [.int t0_]) := by
    intro K30 hK30
    intro v1 v2 v3 v4 v6 t0_ h H locs ls hI hl
    unfold f_X9_asOf_b112 at h
    refine lv_iconst (v := 0) hx hb dX9_asOf_112 (by decide) ?_
    exact hb113 K30 hK30 v1 v2 v3 v4 v6 (0 : Int32) t0_ h _ _ _ hI (lv_sub hl [0, 1, 2, 3, 4, 5] rfl)
  have hb108 : ∀ (K30 : Int32 → Int32 → Int32 → Int32 → Int32 → Int32 → Option (Int32)) (_ : ∀ (v1 : Int32) (v2 : Int32) (v3 : Int32) (v4 : Int32) (v5 : Int32) (v6 : Int32), K30 v1 v2 v3 v4 v5 v6 = some zr → ∀ (H : Heap) (locs : List Loc) (ls : Array Slot), gw_I D A s.heap (gw_mw cc a S) H locs → lv_has ls 8 [(0, .ref (a 0)), (1, .int v1), (2, .int v2), (3, .int v3), (4, .int v4), (5, .int v5), (6, .int v6)] → W p l e rm_X9_asOf s m args below meth c H locs 0 0 (MQ below (gw_Q (some (.int zr)) (gw_Pst D A (fun w => w = gw_mw cc a S)) A) args s 0 0 A) (F0 m 30 ls [])), ∀ (v1 : Int32) (v2 : Int32) (v3 : Int32) (v4 : Int32) (v6 : Int32) (t0_ : Int32), f_X9_asOf_b108 S K30 v1 v2 v3 v4 v6 t0_ = some zr → ∀ (H : Heap) (locs : List Loc) (ls : Array Slot), gw_I D A s.heap (gw_mw cc a S) H locs → lv_has ls 8 [(0, .ref (a 0)), (1, .int v1), (2, .int v2), (3, .int v3), (4, .int v4), (6, .int v6)] → W p l e rm_X9_asOf s m args below meth c H locs 0 0 (MQ below (gw_Q (some (.int zr)) (gw_Pst D A (fun w => w = gw_mw cc a S)) A) args s 0 0 A) (F0 m 108 ls [.int t0_]) := by
    intro K30 hK30
    intro v1 v2 v3 v4 v6 t0_ h H locs ls hI hl
    unfold f_X9_asOf_b108 at h
    refine lv_iconst (v := 1) hx hb dX9_asOf_108 (by decide) ?_
    refine lv_goto (tgt := 113) hx hb dX9_asOf_109 (by decide) ?_
    exact hb113 K30 hK30 v1 v2 v3 v4 v6 (1 : Int32) t0_ h _ _ _ hI (lv_sub hl [0, 1, 2, 3, 4, 5] rfl)
  have hb76 : ∀ (K30 : Int32 → Int32 → Int32 → Int32 → Int32 → Int32 → Option (Int32)) (_ : ∀ (v1 : Int32) (v2 : Int32) (v3 : Int32) (v4 : Int32) (v5 : Int32) (v6 : Int32), K30 v1 v2 v3 v4 v5 v6 = some zr → ∀ (H : Heap) (locs : List Loc) (ls : Array Slot), gw_I D A s.heap (gw_mw cc a S) H locs → lv_has ls 8 [(0, .ref (a 0)), (1, .int v1), (2, .int v2), (3, .int v3), (4, .int v4), (5, .int v5), (6, .int v6)] → W p l e rm_X9_asOf s m args below meth c H locs 0 0 (MQ below (gw_Q (some (.int zr)) (gw_Pst D A (fun w => w = gw_mw cc a S)) A) args s 0 0 A) (F0 m 30 ls [])), ∀ (v1 : Int32) (v2 : Int32) (v3 : Int32) (v4 : Int32) (v5 : Int32) (v6 : Int32) (t0_ : Int32), f_X9_asOf_b76 S K30 v1 v2 v3 v4 v5 v6 t0_ = some zr → ∀ (H : Heap) (locs : List Loc) (ls : Array Slot), gw_I D A s.heap (gw_mw cc a S) H locs → lv_has ls 8 [(0, .ref (a 0)), (1, .int v1), (2, .int v2), (3, .int v3), (4, .int v4), (5, .int v5), (6, .int v6)] → W p l e rm_X9_asOf s m args below meth c H locs 0 0 (MQ below (gw_Q (some (.int zr)) (gw_Pst D A (fun w => w = gw_mw cc a S)) A) args s 0 0 A) (F0 m 76 ls [.int t0_]) := by
    intro K30 hK30
    intro v1 v2 v3 v4 v5 v6 t0_ h H locs ls hI hl
    unfold f_X9_asOf_b76 at h
    refine lv_istore (lv' := [(7, .int t0_), (0, .ref (a 0)), (1, .int v1), (2, .int v2), (3, .int v3), (4, .int v4), (5, .int v5), (6, .int v6)]) hx hb dX9_asOf_76 hl (by decide) rfl (fun ls hl => ?_)
    refine lv_iload hx hb dX9_asOf_78 (lv_at hl 6 rfl) ?_
    refine lv_iload hx hb dX9_asOf_80 (lv_at hl 0 rfl) ?_
    refine lv_if_eq (tgt := 112) hx hb dX9_asOf_82 (by decide) (fun c5 => ?_) (fun c5 => ?_)
    · replace h := gw_ifT c5 h
      exact hb112 K30 hK30 v1 v2 v3 v4 v6 v5 h _ _ _ hI (lv_sub hl [1, 2, 3, 4, 5, 7] rfl)
    · replace h := gw_ifF c5 h
      refine lv_iload_n hx hb dX9_asOf_85 rfl (lv_at hl 3 rfl) ?_
      refine lv_if_eq (tgt := 108) hx hb dX9_asOf_86 (by decide) (fun c6 => ?_) (fun c6 => ?_)
      · replace h := gw_ifT c6 h
        exact hb108 K30 hK30 v1 v2 v3 v4 v6 v5 h _ _ _ hI (lv_sub hl [1, 2, 3, 4, 5, 7] rfl)
      · replace h := gw_ifF c6 h
        refine lv_aload_n hx hb dX9_asOf_89 rfl (lv_at hl 1 rfl) ?_
        refine gw_get (T := TX9) (k := 32) (v := .ref (a 27)) B hI gm_g0 rfl ly_X9_asOf_9 (by decide) m_X9_asOf_89 rfl rfl dX9_asOf_90 ?_
        refine lv_iload hx hb dX9_asOf_93 (lv_at hl 7 rfl) ?_
        obtain ⟨g7, h⟩ := gw_gdE h
        refine gw_iald (t0 := 0) B hI gm_g27 rfl g7 dX9_asOf_95 ?_
        refine lv_i2l hx hb dX9_asOf_96 rfl ?_
        refine lv_iload_n hx hb dX9_asOf_97 rfl (lv_at hl 4 rfl) ?_
        refine lv_i2l hx hb dX9_asOf_98 rfl ?_
        refine lv_iload hx hb dX9_asOf_99 (lv_at hl 5 rfl) ?_
        refine lv_i2l hx hb dX9_asOf_101 rfl ?_
        obtain ⟨r8, e9, h⟩ := gw_bdE h
        refine gw_callS (As := [.long ((S 27 v6.toNatClampNeg).toInt64), .long (v3.toInt64), .long (v4.toInt64)]) (n := 3) B hI (k_X9_in ((S 27 v6.toNatClampNeg).toInt64) (v3.toInt64) (v4.toInt64) S e9) gX9_asOf_X9_in rfl rfl rfl nds_X9_in ⟨Nat.le_of_ble_eq_true rfl, Nat.le_of_ble_eq_true rfl⟩ rfl hl.1 (by simp [gw_catq, gw_cI, gw_cR, gw_cL]) dX9_asOf_102 ⟨Nat.le_of_ble_eq_true rfl, Nat.le_of_ble_eq_true rfl⟩ rfl (fun w' H locs hw hI => ?_)
        subst hw
        refine lv_if_eq (tgt := 112) hx hb dX9_asOf_105 (by decide) (fun c10 => ?_) (fun c10 => ?_)
        · replace h := gw_ifT c10 h
          exact hb112 K30 hK30 v1 v2 v3 v4 v6 v5 h _ _ _ hI (lv_sub hl [1, 2, 3, 4, 5, 7] rfl)
        · replace h := gw_ifF c10 h
          exact hb108 K30 hK30 v1 v2 v3 v4 v6 v5 h _ _ _ hI (lv_sub hl [1, 2, 3, 4, 5, 7] rfl)
  have hb75 : ∀ (K30 : Int32 → Int32 → Int32 → Int32 → Int32 → Int32 → Option (Int32)) (_ : ∀ (v1 : Int32) (v2 : Int32) (v3 : Int32) (v4 : Int32) (v5 : Int32) (v6 : Int32), K30 v1 v2 v3 v4 v5 v6 = some zr → ∀ (H : Heap) (locs : List Loc) (ls : Array Slot), gw_I D A s.heap (gw_mw cc a S) H locs → lv_has ls 8 [(0, .ref (a 0)), (1, .int v1), (2, .int v2), (3, .int v3), (4, .int v4), (5, .int v5), (6, .int v6)] → W p l e rm_X9_asOf s m args below meth c H locs 0 0 (MQ below (gw_Q (some (.int zr)) (gw_Pst D A (fun w => w = gw_mw cc a S)) A) args s 0 0 A) (F0 m 30 ls [])), ∀ (v1 : Int32) (v2 : Int32) (v3 : Int32) (v4 : Int32) (v5 : Int32) (v6 : Int32), f_X9_asOf_b75 S K30 v1 v2 v3 v4 v5 v6 = some zr → ∀ (H : Heap) (locs : List Loc) (ls : Array Slot), gw_I D A s.heap (gw_mw cc a S) H locs → lv_has ls 8 [(0, .ref (a 0)), (1, .int v1), (2, .int v2), (3, .int v3), (4, .int v4), (5, .int v5), (6, .int v6)] → W p l e rm_X9_asOf s m args below meth c H locs 0 0 (MQ below (gw_Q (some (.int zr)) (gw_Pst D A (fun w => w = gw_mw cc a S)) A) args s 0 0 A) (F0 m 75 ls []) := by
    intro K30 hK30
    intro v1 v2 v3 v4 v5 v6 h H locs ls hI hl
    unfold f_X9_asOf_b75 at h
    refine lv_iconst (v := 0) hx hb dX9_asOf_75 (by decide) ?_
    exact hb76 K30 hK30 v1 v2 v3 v4 v5 v6 (0 : Int32) h _ _ _ hI (lv_sub hl [0, 1, 2, 3, 4, 5, 6] rfl)
  have hb71 : ∀ (K30 : Int32 → Int32 → Int32 → Int32 → Int32 → Int32 → Option (Int32)) (_ : ∀ (v1 : Int32) (v2 : Int32) (v3 : Int32) (v4 : Int32) (v5 : Int32) (v6 : Int32), K30 v1 v2 v3 v4 v5 v6 = some zr → ∀ (H : Heap) (locs : List Loc) (ls : Array Slot), gw_I D A s.heap (gw_mw cc a S) H locs → lv_has ls 8 [(0, .ref (a 0)), (1, .int v1), (2, .int v2), (3, .int v3), (4, .int v4), (5, .int v5), (6, .int v6)] → W p l e rm_X9_asOf s m args below meth c H locs 0 0 (MQ below (gw_Q (some (.int zr)) (gw_Pst D A (fun w => w = gw_mw cc a S)) A) args s 0 0 A) (F0 m 30 ls [])), ∀ (v1 : Int32) (v2 : Int32) (v3 : Int32) (v4 : Int32) (v5 : Int32) (v6 : Int32), f_X9_asOf_b71 S K30 v1 v2 v3 v4 v5 v6 = some zr → ∀ (H : Heap) (locs : List Loc) (ls : Array Slot), gw_I D A s.heap (gw_mw cc a S) H locs → lv_has ls 8 [(0, .ref (a 0)), (1, .int v1), (2, .int v2), (3, .int v3), (4, .int v4), (5, .int v5), (6, .int v6)] → W p l e rm_X9_asOf s m args below meth c H locs 0 0 (MQ below (gw_Q (some (.int zr)) (gw_Pst D A (fun w => w = gw_mw cc a S)) A) args s 0 0 A) (F0 m 71 ls []) := by
    intro K30 hK30
    intro v1 v2 v3 v4 v5 v6 h H locs ls hI hl
    unfold f_X9_asOf_b71 at h
    refine lv_iconst (v := 1) hx hb dX9_asOf_71 (by decide) ?_
    refine lv_goto (tgt := 76) hx hb dX9_asOf_72 (by decide) ?_
    exact hb76 K30 hK30 v1 v2 v3 v4 v5 v6 (1 : Int32) h _ _ _ hI (lv_sub hl [0, 1, 2, 3, 4, 5, 6] rfl)
  have hb30 :  ∀ (n : Nat), ∀ (v1 : Int32) (v2 : Int32) (v3 : Int32) (v4 : Int32) (v5 : Int32) (v6 : Int32), f_X9_asOf_b30 S  n v1 v2 v3 v4 v5 v6 = some zr → ∀ (H : Heap) (locs : List Loc) (ls : Array Slot), gw_I D A s.heap (gw_mw cc a S) H locs → lv_has ls 8 [(0, .ref (a 0)), (1, .int v1), (2, .int v2), (3, .int v3), (4, .int v4), (5, .int v5), (6, .int v6)] → W p l e rm_X9_asOf s m args below meth c H locs 0 0 (MQ below (gw_Q (some (.int zr)) (gw_Pst D A (fun w => w = gw_mw cc a S)) A) args s 0 0 A) (F0 m 30 ls []) := by
    intro n
    induction n with
    | zero =>
      intro v1 v2 v3 v4 v5 v6 h
      cases h
    | succ n ih =>
      intro v1 v2 v3 v4 v5 v6 h H locs ls hI hl
      unfold f_X9_asOf_b30 at h
      refine lv_iload hx hb dX9_asOf_30 (lv_at hl 6 rfl) ?_
      refine lv_aload_n hx hb dX9_asOf_32 rfl (lv_at hl 0 rfl) ?_
      refine gw_get (T := TX9) (k := 29) (v := .int (S 0 29)) B hI gm_g0 rfl ly_X9_asOf_9 (by decide) m_X9_asOf_257 rfl rfl dX9_asOf_33 ?_
      refine lv_icmp_ge (tgt := 122) hx hb dX9_asOf_36 (by decide) (fun c11 => ?_) (fun c11 => ?_)
      · replace h := gw_ifT c11 h
        refine lv_iload hx hb dX9_asOf_122 (lv_at hl 5 rfl) ?_
        rw [← Option.some.inj h]
        exact gw_iret (W' := (fun w => w = gw_mw cc a S)) B hI rfl (Nat.zero_le _) (Nat.zero_le _) dX9_asOf_124
      · replace h := gw_ifF c11 h
        refine lv_aload_n hx hb dX9_asOf_39 rfl (lv_at hl 0 rfl) ?_
        refine gw_get (T := TX9) (k := 34) (v := .ref (a 29)) B hI gm_g0 rfl ly_X9_asOf_9 (by decide) m_X9_asOf_95 rfl rfl dX9_asOf_40 ?_
        refine lv_iload hx hb dX9_asOf_43 (lv_at hl 6 rfl) ?_
        obtain ⟨g12, h⟩ := gw_gdE h
        refine gw_iald (t0 := 0) B hI gm_g29 rfl g12 dX9_asOf_45 ?_
        refine lv_iload_n hx hb dX9_asOf_46 rfl (lv_at hl 1 rfl) ?_
        refine lv_icmp_gt (tgt := 75) hx hb dX9_asOf_47 (by decide) (fun c13 => ?_) (fun c13 => ?_)
        · replace h := gw_ifT c13 h
          exact hb75 (f_X9_asOf_b30 S  n) ih v1 v2 v3 v4 v5 v6 h _ _ _ hI (lv_sub hl [0, 1, 2, 3, 4, 5, 6] rfl)
        · replace h := gw_ifF c13 h
          refine lv_aload_n hx hb dX9_asOf_50 rfl (lv_at hl 0 rfl) ?_
          refine gw_get (T := TX9) (k := 36) (v := .ref (a 31)) B hI gm_g0 rfl ly_X9_asOf_9 (by decide) m_X9_asOf_101 rfl rfl dX9_asOf_51 ?_
          refine lv_iload hx hb dX9_asOf_54 (lv_at hl 6 rfl) ?_
          refine gw_iald (t0 := 0) B hI gm_g31 rfl g12 dX9_asOf_56 ?_
          refine lv_if_lt (tgt := 71) hx hb dX9_asOf_57 (by decide) (fun c14 => ?_) (fun c14 => ?_)
          · replace h := gw_ifT c14 h
            exact hb71 (f_X9_asOf_b30 S  n) ih v1 v2 v3 v4 v5 v6 h _ _ _ hI (lv_sub hl [0, 1, 2, 3, 4, 5, 6] rfl)
          · replace h := gw_ifF c14 h
            refine lv_aload_n hx hb dX9_asOf_60 rfl (lv_at hl 0 rfl) ?_
            refine gw_get (T := TX9) (k := 36) (v := .ref (a 31)) B hI gm_g0 rfl ly_X9_asOf_9 (by decide) m_X9_asOf_101 rfl rfl dX9_asOf_61 ?_
            refine lv_iload hx hb dX9_asOf_64 (lv_at hl 6 rfl) ?_
            refine gw_iald (t0 := 0) B hI gm_g31 rfl g12 dX9_asOf_66 ?_
            refine lv_iload_n hx hb dX9_asOf_67 rfl (lv_at hl 1 rfl) ?_
            refine lv_icmp_le (tgt := 75) hx hb dX9_asOf_68 (by decide) (fun c15 => ?_) (fun c15 => ?_)
            · replace h := gw_ifT c15 h
              exact hb75 (f_X9_asOf_b30 S  n) ih v1 v2 v3 v4 v5 v6 h _ _ _ hI (lv_sub hl [0, 1, 2, 3, 4, 5, 6] rfl)
            · replace h := gw_ifF c15 h
              exact hb71 (f_X9_asOf_b30 S  n) ih v1 v2 v3 v4 v5 v6 h _ _ _ hI (lv_sub hl [0, 1, 2, 3, 4, 5, 6] rfl)
  unfold f_X9_asOf at h
  refine lv_iload_n hx hb dX9_asOf_0 rfl (lv_at hl 1 rfl) ?_
  refine lv_i2l hx hb dX9_asOf_1 rfl ?_
  refine lv_lconst (v := 0) hx hb dX9_asOf_2 (by decide) ?_
  refine lv_ldc2 (v := 399) hx hb hown (hts (.constantLong RX9 251 (399)) (by decide +kernel)) dX9_asOf_3 ?_
  obtain ⟨r16, e17, h⟩ := gw_bdE h
  refine gw_callS (As := [.long (x1.toInt64), .long (0 : Int64), .long (399 : Int64)]) (n := 3) B hI (k_X9_in (x1.toInt64) (0 : Int64) (399 : Int64) S e17) gX9_asOf_X9_in rfl rfl rfl nds_X9_in ⟨Nat.le_of_ble_eq_true rfl, Nat.le_of_ble_eq_true rfl⟩ rfl hl.1 (Nat.zero_le _) dX9_asOf_6 ⟨Nat.le_of_ble_eq_true rfl, Nat.le_of_ble_eq_true rfl⟩ rfl (fun w' H locs hw hI => ?_)
  subst hw
  refine lv_if_eq (tgt := 22) hx hb dX9_asOf_9 (by decide) (fun c18 => ?_) (fun c18 => ?_)
  · replace h := gw_ifT c18 h
    refine lv_iconst (v := -1) hx hb dX9_asOf_22 (by decide) ?_
    rw [← Option.some.inj h]
    exact gw_iret (W' := (fun w => w = gw_mw cc a S)) B hI rfl (Nat.zero_le _) (Nat.zero_le _) dX9_asOf_23
  · replace h := gw_ifF c18 h
    refine lv_iload_n hx hb dX9_asOf_12 rfl (lv_at hl 2 rfl) ?_
    refine lv_i2l hx hb dX9_asOf_13 rfl ?_
    refine lv_lconst (v := 0) hx hb dX9_asOf_14 (by decide) ?_
    refine lv_lconst (v := 1) hx hb dX9_asOf_15 (by decide) ?_
    obtain ⟨r19, e20, h⟩ := gw_bdE h
    refine gw_callS (As := [.long (x2.toInt64), .long (0 : Int64), .long (1 : Int64)]) (n := 3) B hI (k_X9_in (x2.toInt64) (0 : Int64) (1 : Int64) S e20) gX9_asOf_X9_in rfl rfl rfl nds_X9_in ⟨Nat.le_of_ble_eq_true rfl, Nat.le_of_ble_eq_true rfl⟩ rfl hl.1 (Nat.zero_le _) dX9_asOf_16 ⟨Nat.le_of_ble_eq_true rfl, Nat.le_of_ble_eq_true rfl⟩ rfl (fun w' H locs hw hI => ?_)
    subst hw
    refine lv_if_ne (tgt := 24) hx hb dX9_asOf_19 (by decide) (fun c21 => ?_) (fun c21 => ?_)
    · replace h := gw_ifF c21 h
      refine lv_iconst (v := 0) hx hb dX9_asOf_24 (by decide) ?_
      refine lv_istore (lv' := [(5, .int (0 : Int32)), (0, .ref (a 0)), (1, .int x1), (2, .int x2), (3, .int x3), (4, .int x4)]) hx hb dX9_asOf_25 hl (by decide) rfl (fun ls hl => ?_)
      refine lv_iconst (v := 0) hx hb dX9_asOf_27 (by decide) ?_
      refine lv_istore (lv' := [(6, .int (0 : Int32)), (5, .int (0 : Int32)), (0, .ref (a 0)), (1, .int x1), (2, .int x2), (3, .int x3), (4, .int x4)]) hx hb dX9_asOf_28 hl (by decide) rfl (fun ls hl => ?_)
      exact hb30  gw_F x1 x2 x3 x4 (0 : Int32) (0 : Int32) h _ _ _ hI (lv_sub hl [2, 3, 4, 5, 6, 1, 0] rfl)
    · replace h := gw_ifT c21 h
      refine lv_iconst (v := -1) hx hb dX9_asOf_22 (by decide) ?_
      rw [← Option.some.inj h]
      exact gw_iret (W' := (fun w => w = gw_mw cc a S)) B hI rfl (Nat.zero_le _) (Nat.zero_le _) dX9_asOf_23
set_option maxRecDepth 100000 in
set_option maxHeartbeats 4000000 in
theorem k_X9_ones (x0 : Int32) (S : gw_S) {zr : Int32} (h : f_X9_ones x0 S = some zr) : gw_M l yX9_ones wsX9_ones rm_X9_ones 0 0 D (gw_ty cc) t1 t2 [.int x0] (gw_mw cc a S) (fun w => w = gw_mw cc a S) (some (.int zr)) := by
  refine gw_enter (cc := cX9_ones) (maxL := 3) (ret := (some .int)) (own := RX9) rfl (by decide) rfl (Nat.le_of_ble_eq_true rfl) ?_
  intro p e s m below meth c A B hin hI ls hl
  have hl : lv_has ls 3 [(0, .int x0)] := hl
  generalize ([.int x0] : List Value).toArray = args at B ⊢
  have hx := B.1.1
  have hb := B.1.2.1
  have hown : s.vm.findClass RX9 = some m.cls := B.1.2.2.2.1
  have hts := B.1.2.2.2.2
  have hb4 :  ∀ (n : Nat), ∀ (v1 : Int32) (v2 : Int32), f_X9_ones_b4 S  n v1 v2 = some zr → ∀ (H : Heap) (locs : List Loc) (ls : Array Slot), gw_I D A s.heap (gw_mw cc a S) H locs → lv_has ls 3 [(1, .int v1), (2, .int v2)] → W p l e rm_X9_ones s m args below meth c H locs 0 0 (MQ below (gw_Q (some (.int zr)) (gw_Pst D A (fun w => w = gw_mw cc a S)) A) args s 0 0 A) (F0 m 4 ls []) := by
    intro n
    induction n with
    | zero =>
      intro v1 v2 h
      cases h
    | succ n ih =>
      intro v1 v2 h H locs ls hI hl
      unfold f_X9_ones_b4 at h
      refine lv_iload_n hx hb dX9_ones_4 rfl (lv_at hl 1 rfl) ?_
      refine lv_if_eq (tgt := 20) hx hb dX9_ones_5 (by decide) (fun c1 => ?_) (fun c1 => ?_)
      · replace h := gw_ifT c1 h
        refine lv_iload_n hx hb dX9_ones_20 rfl (lv_at hl 0 rfl) ?_
        rw [← Option.some.inj h]
        exact gw_iret (W' := (fun w => w = gw_mw cc a S)) B hI rfl (Nat.zero_le _) (Nat.zero_le _) dX9_ones_21
      · replace h := gw_ifF c1 h
        obtain ⟨y2, e3, h⟩ := gw_letE h
        refine lv_iinc (v := y2) (lv' := [(1, .int y2), (2, .int v2)]) hx hb dX9_ones_8 hl (k := 0) rfl (by rw [e3]; rfl) (by decide) rfl (fun ls hl => ?_)
        refine lv_iload_n hx hb dX9_ones_11 rfl (lv_at hl 1 rfl) ?_
        refine lv_iload_n hx hb dX9_ones_12 rfl (lv_at hl 1 rfl) ?_
        refine lv_iconst (v := 1) hx hb dX9_ones_13 (by decide) ?_
        refine lv_isub hx hb dX9_ones_14 ?_
        refine lv_iand hx hb dX9_ones_15 ?_
        obtain ⟨y4, e5, h⟩ := gw_letE h
        rw [← e5]
        refine lv_istore_n (lv' := [(2, .int y4), (1, .int y2)]) hx hb dX9_ones_16 rfl hl (by decide) rfl (fun ls hl => ?_)
        refine lv_goto (tgt := 4) hx hb dX9_ones_17 (by decide) ?_
        exact ih y2 y4 h _ _ _ hI (lv_sub hl [1, 0] rfl)
  unfold f_X9_ones at h
  refine lv_iconst (v := 0) hx hb dX9_ones_0 (by decide) ?_
  refine lv_istore_n (lv' := [(1, .int (0 : Int32)), (0, .int x0)]) hx hb dX9_ones_1 rfl hl (by decide) rfl (fun ls hl => ?_)
  refine lv_iload_n hx hb dX9_ones_2 rfl (lv_at hl 1 rfl) ?_
  refine lv_istore_n (lv' := [(2, .int x0), (1, .int (0 : Int32)), (0, .int x0)]) hx hb dX9_ones_3 rfl hl (by decide) rfl (fun ls hl => ?_)
  exact hb4  gw_F (0 : Int32) x0 h _ _ _ hI (lv_sub hl [1, 0] rfl)
theorem m_X9_out_104 : Cond.fieldLink RX9 104 "GownLetModel" "had" "[I" ∈ wsX9_out := by decide +kernel
theorem m_X9_out_107 : Cond.fieldLink RX9 107 "GownLetModel" "state" "[I" ∈ wsX9_out := by decide +kernel
theorem m_X9_out_110 : Cond.fieldLink RX9 110 "GownLetModel" "looks" "[I" ∈ wsX9_out := by decide +kernel
theorem m_X9_out_113 : Cond.fieldLink RX9 113 "GownLetModel" "deposits" "[I" ∈ wsX9_out := by decide +kernel
theorem m_X9_out_16 : Cond.fieldLink RX9 16 "GownLetModel" "terms" "[I" ∈ wsX9_out := by decide +kernel
theorem m_X9_out_43 : Cond.fieldLink RX9 43 "GownLetModel" "prices" "[I" ∈ wsX9_out := by decide +kernel
theorem ly_X9_out_9 : ∀ w ∈ wsX90, w ∈ wsX9_out := by decide +kernel
set_option maxRecDepth 100000 in
set_option maxHeartbeats 4000000 in
theorem k_X9_out (x1 : Int32) (x2 : Int32) (S : gw_S) {zr : Int32} {zS : gw_S} (h : f_X9_out x1 x2 S = some (zr, zS)) : gw_M l yX9_out wsX9_out rm_X9_out 0 0 D (gw_ty cc) t1 t2 [.ref (a 0), .int x1, .int x2] (gw_mw cc a S) (fun w => w = gw_mw cc a zS) (some (.int zr)) := by
  refine gw_enter (cc := cX9_out) (maxL := 3) (ret := (some .int)) (own := RX9) rfl (by decide) rfl (Nat.le_of_ble_eq_true rfl) ?_
  intro p e s m below meth c A B hin hI ls hl
  have hl : lv_has ls 3 [(0, .ref (a 0)), (1, .int x1), (2, .int x2)] := hl
  generalize ([.ref (a 0), .int x1, .int x2] : List Value).toArray = args at B ⊢
  have hx := B.1.1
  have hb := B.1.2.1
  have hown : s.vm.findClass RX9 = some m.cls := B.1.2.2.2.1
  have hts := B.1.2.2.2.2
  unfold f_X9_out at h
  refine lv_aload_n hx hb dX9_out_0 rfl (lv_at hl 0 rfl) ?_
  refine lv_iload_n hx hb dX9_out_1 rfl (lv_at hl 1 rfl) ?_
  obtain ⟨r1, e2, h⟩ := gw_bdE h
  refine gw_callV (As := [.int x1]) (n := 1) B hI (k_X9_isThere x1 S e2) gX9_out_X9_isThere rfl rfl rfl nd_X9_isThere ⟨Nat.le_of_ble_eq_true rfl, Nat.le_of_ble_eq_true rfl⟩ gm_g0 rfl rfl rfl hl.1 (Nat.zero_le _) dX9_out_2 ⟨Nat.le_of_ble_eq_true rfl, Nat.le_of_ble_eq_true rfl⟩ rfl (fun w' H locs hw hI => ?_)
  subst hw
  refine lv_if_eq (tgt := 20) hx hb dX9_out_5 (by decide) (fun c3 => ?_) (fun c3 => ?_)
  · replace h := gw_ifT c3 h
    refine lv_iconst (v := -1) hx hb dX9_out_20 (by decide) ?_
    obtain ⟨h1, h2⟩ := Prod.mk.inj (Option.some.inj h)
    rw [h2] at hI
    rw [← h1]
    exact gw_iret (W' := (fun w => w = gw_mw cc a zS)) B hI rfl (Nat.zero_le _) (Nat.zero_le _) dX9_out_21
  · replace h := gw_ifF c3 h
    refine lv_iload_n hx hb dX9_out_8 rfl (lv_at hl 2 rfl) ?_
    refine lv_i2l hx hb dX9_out_9 rfl ?_
    refine lv_lconst (v := 0) hx hb dX9_out_10 (by decide) ?_
    refine lv_ldc2 (v := 4095) hx hb hown (hts (.constantLong RX9 324 (4095)) (by decide +kernel)) dX9_out_11 ?_
    obtain ⟨r4, e5, h⟩ := gw_bdE h
    refine gw_callS (As := [.long (x2.toInt64), .long (0 : Int64), .long (4095 : Int64)]) (n := 3) B hI (k_X9_in (x2.toInt64) (0 : Int64) (4095 : Int64) S e5) gX9_out_X9_in rfl rfl rfl nds_X9_in ⟨Nat.le_of_ble_eq_true rfl, Nat.le_of_ble_eq_true rfl⟩ rfl hl.1 (Nat.zero_le _) dX9_out_14 ⟨Nat.le_of_ble_eq_true rfl, Nat.le_of_ble_eq_true rfl⟩ rfl (fun w' H locs hw hI => ?_)
    subst hw
    refine lv_if_ne (tgt := 22) hx hb dX9_out_17 (by decide) (fun c6 => ?_) (fun c6 => ?_)
    · replace h := gw_ifF c6 h
      refine lv_aload_n hx hb dX9_out_22 rfl (lv_at hl 0 rfl) ?_
      refine gw_get (T := TX9) (k := 37) (v := .ref (a 32)) B hI gm_g0 rfl ly_X9_out_9 (by decide) m_X9_out_104 rfl rfl dX9_out_23 ?_
      refine lv_iload_n hx hb dX9_out_26 rfl (lv_at hl 1 rfl) ?_
      obtain ⟨g7, h⟩ := gw_gdE h
      refine gw_iald (t0 := 0) B hI gm_g32 rfl g7 dX9_out_27 ?_
      refine lv_if_lt (tgt := 40) hx hb dX9_out_28 (by decide) (fun c8 => ?_) (fun c8 => ?_)
      · replace h := gw_ifT c8 h
        refine lv_bipush (v := -2) hx hb dX9_out_40 (by decide) ?_
        obtain ⟨h1, h2⟩ := Prod.mk.inj (Option.some.inj h)
        rw [h2] at hI
        rw [← h1]
        exact gw_iret (W' := (fun w => w = gw_mw cc a zS)) B hI rfl (Nat.zero_le _) (Nat.zero_le _) dX9_out_42
      · replace h := gw_ifF c8 h
        refine lv_aload_n hx hb dX9_out_31 rfl (lv_at hl 0 rfl) ?_
        refine gw_get (T := TX9) (k := 38) (v := .ref (a 33)) B hI gm_g0 rfl ly_X9_out_9 (by decide) m_X9_out_107 rfl rfl dX9_out_32 ?_
        refine lv_iload_n hx hb dX9_out_35 rfl (lv_at hl 1 rfl) ?_
        refine gw_iald (t0 := 0) B hI gm_g33 rfl g7 dX9_out_36 ?_
        refine lv_if_le (tgt := 43) hx hb dX9_out_37 (by decide) (fun c9 => ?_) (fun c9 => ?_)
        · replace h := gw_ifT c9 h
          refine lv_aload_n hx hb dX9_out_43 rfl (lv_at hl 0 rfl) ?_
          refine gw_get (T := TX9) (k := 38) (v := .ref (a 33)) B hI gm_g0 rfl ly_X9_out_9 (by decide) m_X9_out_107 rfl rfl dX9_out_44 ?_
          refine lv_iload_n hx hb dX9_out_47 rfl (lv_at hl 1 rfl) ?_
          refine lv_iconst (v := 1) hx hb dX9_out_48 (by decide) ?_
          obtain ⟨S10, e11, h⟩ := gw_letE h
          refine gw_iast (t0 := 0) (w' := gw_mw cc a S10) B hI gm_g33 rfl g7 (gm_s33 e11) dX9_out_49 (fun H locs hI => ?_)
          refine lv_aload_n hx hb dX9_out_50 rfl (lv_at hl 0 rfl) ?_
          refine gw_get (T := TX9) (k := 39) (v := .ref (a 34)) B hI gm_g0 rfl ly_X9_out_9 (by decide) m_X9_out_110 rfl rfl dX9_out_51 ?_
          refine lv_iload_n hx hb dX9_out_54 rfl (lv_at hl 1 rfl) ?_
          refine lv_iload_n hx hb dX9_out_55 rfl (lv_at hl 2 rfl) ?_
          obtain ⟨S12, e13, h⟩ := gw_letE h
          refine gw_iast (t0 := 0) (w' := gw_mw cc a S12) B hI gm_g34 rfl g7 (gm_s34 e13) dX9_out_56 (fun H locs hI => ?_)
          refine lv_aload_n hx hb dX9_out_57 rfl (lv_at hl 0 rfl) ?_
          refine gw_get (T := TX9) (k := 40) (v := .ref (a 35)) B hI gm_g0 rfl ly_X9_out_9 (by decide) m_X9_out_113 rfl rfl dX9_out_58 ?_
          refine lv_iload_n hx hb dX9_out_61 rfl (lv_at hl 1 rfl) ?_
          refine lv_aload_n hx hb dX9_out_62 rfl (lv_at hl 0 rfl) ?_
          refine gw_get (T := TX9) (k := 14) (v := .ref (a 12)) B hI gm_g0 rfl ly_X9_out_9 (by decide) m_X9_out_43 rfl rfl dX9_out_63 ?_
          refine lv_aload_n hx hb dX9_out_66 rfl (lv_at hl 0 rfl) ?_
          refine gw_get (T := TX9) (k := 37) (v := .ref (a 32)) B hI gm_g0 rfl ly_X9_out_9 (by decide) m_X9_out_104 rfl rfl dX9_out_67 ?_
          refine lv_iload_n hx hb dX9_out_70 rfl (lv_at hl 1 rfl) ?_
          refine gw_iald (t0 := 0) B hI gm_g32 rfl g7 dX9_out_71 ?_
          obtain ⟨g14, h⟩ := gw_gdE h
          refine gw_iald (t0 := 0) B hI gm_g12 rfl g14 dX9_out_72 ?_
          refine lv_aload_n hx hb dX9_out_73 rfl (lv_at hl 0 rfl) ?_
          refine gw_get (T := TX9) (k := 2) (v := .ref (a 3)) B hI gm_g0 rfl ly_X9_out_9 (by decide) m_X9_out_16 rfl rfl dX9_out_74 ?_
          refine lv_iconst (v := 3) hx hb dX9_out_77 (by decide) ?_
          refine gw_iald (t0 := 0) B hI gm_g3 rfl (by decide) dX9_out_78 ?_
          refine lv_imul hx hb dX9_out_79 ?_
          refine lv_bipush (v := 100) hx hb dX9_out_80 (by decide) ?_
          refine lv_idiv hx hb dX9_out_82 (by decide) ?_
          obtain ⟨S15, e16, h⟩ := gw_letE h
          refine gw_iast (t0 := 0) (w' := gw_mw cc a S15) B hI gm_g35 rfl g7 (gm_s35 e16) dX9_out_83 (fun H locs hI => ?_)
          refine lv_aload_n hx hb dX9_out_84 rfl (lv_at hl 0 rfl) ?_
          refine gw_get (T := TX9) (k := 40) (v := .ref (a 35)) B hI gm_g0 rfl ly_X9_out_9 (by decide) m_X9_out_113 rfl rfl dX9_out_85 ?_
          refine lv_iload_n hx hb dX9_out_88 rfl (lv_at hl 1 rfl) ?_
          refine gw_iald (t0 := 0) B hI gm_g35 rfl g7 dX9_out_89 ?_
          obtain ⟨h1, h2⟩ := Prod.mk.inj (Option.some.inj h)
          rw [h2] at hI
          rw [← h1]
          exact gw_iret (W' := (fun w => w = gw_mw cc a zS)) B hI rfl (Nat.zero_le _) (Nat.zero_le _) dX9_out_90
        · replace h := gw_ifF c9 h
          refine lv_bipush (v := -2) hx hb dX9_out_40 (by decide) ?_
          obtain ⟨h1, h2⟩ := Prod.mk.inj (Option.some.inj h)
          rw [h2] at hI
          rw [← h1]
          exact gw_iret (W' := (fun w => w = gw_mw cc a zS)) B hI rfl (Nat.zero_le _) (Nat.zero_le _) dX9_out_42
    · replace h := gw_ifT c6 h
      refine lv_iconst (v := -1) hx hb dX9_out_20 (by decide) ?_
      obtain ⟨h1, h2⟩ := Prod.mk.inj (Option.some.inj h)
      rw [h2] at hI
      rw [← h1]
      exact gw_iret (W' := (fun w => w = gw_mw cc a zS)) B hI rfl (Nat.zero_le _) (Nat.zero_le _) dX9_out_21
theorem m_X9_home_104 : Cond.fieldLink RX9 104 "GownLetModel" "had" "[I" ∈ wsX9_home := by decide +kernel
theorem m_X9_home_107 : Cond.fieldLink RX9 107 "GownLetModel" "state" "[I" ∈ wsX9_home := by decide +kernel
theorem m_X9_home_110 : Cond.fieldLink RX9 110 "GownLetModel" "looks" "[I" ∈ wsX9_home := by decide +kernel
theorem m_X9_home_113 : Cond.fieldLink RX9 113 "GownLetModel" "deposits" "[I" ∈ wsX9_home := by decide +kernel
theorem m_X9_home_116 : Cond.fieldLink RX9 116 "GownLetModel" "lates" "[I" ∈ wsX9_home := by decide +kernel
theorem m_X9_home_119 : Cond.fieldLink RX9 119 "GownLetModel" "harms" "[I" ∈ wsX9_home := by decide +kernel
theorem m_X9_home_122 : Cond.fieldLink RX9 122 "GownLetModel" "owed" "[I" ∈ wsX9_home := by decide +kernel
theorem m_X9_home_16 : Cond.fieldLink RX9 16 "GownLetModel" "terms" "[I" ∈ wsX9_home := by decide +kernel
theorem m_X9_home_52 : Cond.fieldLink RX9 52 "GownLetModel" "worn" "[I" ∈ wsX9_home := by decide +kernel
theorem m_X9_home_89 : Cond.fieldLink RX9 89 "GownLetModel" "nights" "[I" ∈ wsX9_home := by decide +kernel
theorem ly_X9_home_9 : ∀ w ∈ wsX90, w ∈ wsX9_home := by decide +kernel
set_option maxRecDepth 100000 in
set_option maxHeartbeats 4000000 in
theorem k_X9_home (x1 : Int32) (x2 : Int32) (x3 : Int32) (S : gw_S) {zr : Int32} {zS : gw_S} (h : f_X9_home x1 x2 x3 S = some (zr, zS)) : gw_M l yX9_home wsX9_home rm_X9_home 0 0 D (gw_ty cc) t1 t2 [.ref (a 0), .int x1, .int x2, .int x3] (gw_mw cc a S) (fun w => w = gw_mw cc a zS) (some (.int zr)) := by
  refine gw_enter (cc := cX9_home) (maxL := 7) (ret := (some .int)) (own := RX9) rfl (by decide) rfl (Nat.le_of_ble_eq_true rfl) ?_
  intro p e s m below meth c A B hin hI ls hl
  have hl : lv_has ls 7 [(0, .ref (a 0)), (1, .int x1), (2, .int x2), (3, .int x3)] := hl
  generalize ([.ref (a 0), .int x1, .int x2, .int x3] : List Value).toArray = args at B ⊢
  have hx := B.1.1
  have hb := B.1.2.1
  have hown : s.vm.findClass RX9 = some m.cls := B.1.2.2.2.1
  have hts := B.1.2.2.2.2
  have hb234 :  ∀ (v1 : Int32) (t0_ : Int32) (t1_ : Int32) (t2_ : Int32) (S : gw_S), f_X9_home_b234  v1 t0_ t1_ t2_ S = some (zr, zS) → ∀ (H : Heap) (locs : List Loc) (ls : Array Slot), gw_I D A s.heap (gw_mw cc a S) H locs → lv_has ls 7 [(0, .ref (a 0)), (1, .int v1)] → W p l e rm_X9_home s m args below meth c H locs 0 0 (MQ below (gw_Q (some (.int zr)) (gw_Pst D A (fun w => w = gw_mw cc a zS)) A) args s 0 0 A) (F0 m 234 ls [.int t0_, .int t1_, .int t2_, .ref (a 38)]) := by
    intro v1 t0_ t1_ t2_ S h H locs ls hI hl
    unfold f_X9_home_b234 at h
    refine lv_iadd hx hb dX9_home_234 ?_
    obtain ⟨g1, h⟩ := gw_gdE h
    obtain ⟨S2, e3, h⟩ := gw_letE h
    refine gw_iast (t0 := 0) (w' := gw_mw cc a S2) B hI gm_g38 rfl g1 (gm_s38 e3) dX9_home_235 (fun H locs hI => ?_)
    refine lv_aload_n hx hb dX9_home_236 rfl (lv_at hl 0 rfl) ?_
    refine gw_get (T := TX9) (k := 43) (v := .ref (a 38)) B hI gm_g0 rfl ly_X9_home_9 (by decide) m_X9_home_122 rfl rfl dX9_home_237 ?_
    refine lv_iload_n hx hb dX9_home_240 rfl (lv_at hl 1 rfl) ?_
    obtain ⟨g4, h⟩ := gw_gdE h
    refine gw_iald (t0 := 0) B hI gm_g38 rfl g4 dX9_home_241 ?_
    refine lv_aload_n hx hb dX9_home_242 rfl (lv_at hl 0 rfl) ?_
    refine gw_get (T := TX9) (k := 40) (v := .ref (a 35)) B hI gm_g0 rfl ly_X9_home_9 (by decide) m_X9_home_113 rfl rfl dX9_home_243 ?_
    refine lv_iload_n hx hb dX9_home_246 rfl (lv_at hl 1 rfl) ?_
    refine gw_iald (t0 := 0) B hI gm_g35 rfl g4 dX9_home_247 ?_
    refine lv_isub hx hb dX9_home_248 ?_
    obtain ⟨h1, h2⟩ := Prod.mk.inj (Option.some.inj h)
    rw [h2] at hI
    rw [← h1]
    exact gw_iret (W' := (fun w => w = gw_mw cc a zS)) B hI rfl (Nat.zero_le _) (Nat.zero_le _) dX9_home_249
  have hb201 :  ∀ (v1 : Int32) (v3 : Int32) (t0_ : Int32) (t1_ : Int32) (S : gw_S), f_X9_home_b201  v1 v3 t0_ t1_ S = some (zr, zS) → ∀ (H : Heap) (locs : List Loc) (ls : Array Slot), gw_I D A s.heap (gw_mw cc a S) H locs → lv_has ls 7 [(0, .ref (a 0)), (1, .int v1), (3, .int v3)] → W p l e rm_X9_home s m args below meth c H locs 0 0 (MQ below (gw_Q (some (.int zr)) (gw_Pst D A (fun w => w = gw_mw cc a zS)) A) args s 0 0 A) (F0 m 201 ls [.int t0_, .int t1_, .ref (a 37)]) := by
    intro v1 v3 t0_ t1_ S h H locs ls hI hl
    unfold f_X9_home_b201 at h
    obtain ⟨g5, h⟩ := gw_gdE h
    obtain ⟨S6, e7, h⟩ := gw_letE h
    refine gw_iast (t0 := 0) (w' := gw_mw cc a S6) B hI gm_g37 rfl g5 (gm_s37 e7) dX9_home_201 (fun H locs hI => ?_)
    refine lv_aload_n hx hb dX9_home_202 rfl (lv_at hl 0 rfl) ?_
    refine gw_get (T := TX9) (k := 43) (v := .ref (a 38)) B hI gm_g0 rfl ly_X9_home_9 (by decide) m_X9_home_122 rfl rfl dX9_home_203 ?_
    refine lv_iload_n hx hb dX9_home_206 rfl (lv_at hl 1 rfl) ?_
    refine lv_aload_n hx hb dX9_home_207 rfl (lv_at hl 0 rfl) ?_
    refine gw_get (T := TX9) (k := 2) (v := .ref (a 3)) B hI gm_g0 rfl ly_X9_home_9 (by decide) m_X9_home_16 rfl rfl dX9_home_208 ?_
    refine lv_iconst (v := 2) hx hb dX9_home_211 (by decide) ?_
    refine gw_iald (t0 := 0) B hI gm_g3 rfl (by decide) dX9_home_212 ?_
    refine lv_aload_n hx hb dX9_home_213 rfl (lv_at hl 0 rfl) ?_
    refine gw_get (T := TX9) (k := 41) (v := .ref (a 36)) B hI gm_g0 rfl ly_X9_home_9 (by decide) m_X9_home_116 rfl rfl dX9_home_214 ?_
    refine lv_iload_n hx hb dX9_home_217 rfl (lv_at hl 1 rfl) ?_
    obtain ⟨g8, h⟩ := gw_gdE h
    refine gw_iald (t0 := 0) B hI gm_g36 rfl g8 dX9_home_218 ?_
    refine lv_imul hx hb dX9_home_219 ?_
    refine lv_iload_n hx hb dX9_home_220 rfl (lv_at hl 2 rfl) ?_
    refine lv_if_ge (tgt := 228) hx hb dX9_home_221 (by decide) (fun c9 => ?_) (fun c9 => ?_)
    · replace h := gw_ifT c9 h
      refine lv_aload_n hx hb dX9_home_228 rfl (lv_at hl 0 rfl) ?_
      refine gw_get (T := TX9) (k := 42) (v := .ref (a 37)) B hI gm_g0 rfl ly_X9_home_9 (by decide) m_X9_home_119 rfl rfl dX9_home_229 ?_
      refine lv_iload_n hx hb dX9_home_232 rfl (lv_at hl 1 rfl) ?_
      refine gw_iald (t0 := 0) B hI gm_g37 rfl g8 dX9_home_233 ?_
      exact hb234  v1 (S6 37 v1.toNatClampNeg) ((S6 3 (2 : Int32).toNatClampNeg) * (S6 36 v1.toNatClampNeg)) v1 S6 h _ _ _ hI (lv_sub hl [0, 1] rfl)
    · replace h := gw_ifF c9 h
      refine lv_iconst (v := 0) hx hb dX9_home_224 (by decide) ?_
      refine lv_goto (tgt := 234) hx hb dX9_home_225 (by decide) ?_
      exact hb234  v1 (0 : Int32) ((S6 3 (2 : Int32).toNatClampNeg) * (S6 36 v1.toNatClampNeg)) v1 S6 h _ _ _ hI (lv_sub hl [0, 1] rfl)
  have hb152 :  ∀ (v1 : Int32) (v3 : Int32) (t0_ : Int32) (S : gw_S), f_X9_home_b152  v1 v3 t0_ S = some (zr, zS) → ∀ (H : Heap) (locs : List Loc) (ls : Array Slot), gw_I D A s.heap (gw_mw cc a S) H locs → lv_has ls 7 [(0, .ref (a 0)), (1, .int v1), (3, .int v3)] → W p l e rm_X9_home s m args below meth c H locs 0 0 (MQ below (gw_Q (some (.int zr)) (gw_Pst D A (fun w => w = gw_mw cc a zS)) A) args s 0 0 A) (F0 m 152 ls [.int t0_]) := by
    intro v1 v3 t0_ S h H locs ls hI hl
    unfold f_X9_home_b152 at h
    refine lv_istore (lv' := [(6, .int t0_), (0, .ref (a 0)), (1, .int v1), (3, .int v3)]) hx hb dX9_home_152 hl (by decide) rfl (fun ls hl => ?_)
    refine lv_aload_n hx hb dX9_home_154 rfl (lv_at hl 1 rfl) ?_
    refine gw_get (T := TX9) (k := 42) (v := .ref (a 37)) B hI gm_g0 rfl ly_X9_home_9 (by decide) m_X9_home_119 rfl rfl dX9_home_155 ?_
    refine lv_iload_n hx hb dX9_home_158 rfl (lv_at hl 2 rfl) ?_
    refine lv_iload_n hx hb dX9_home_159 rfl (lv_at hl 3 rfl) ?_
    refine lv_if_ge (tgt := 168) hx hb dX9_home_160 (by decide) (fun c10 => ?_) (fun c10 => ?_)
    · replace h := gw_ifT c10 h
      refine lv_iload hx hb dX9_home_168 (lv_at hl 0 rfl) ?_
      refine lv_sipush (v := 255) hx hb dX9_home_170 (by decide) ?_
      refine lv_iand hx hb dX9_home_173 ?_
      obtain ⟨r11, e12, h⟩ := gw_bdE h
      refine gw_callS (As := [.int (t0_ &&& (255 : Int32))]) (n := 1) B hI (k_X9_ones (t0_ &&& (255 : Int32)) S e12) gX9_home_X9_ones rfl rfl rfl nds_X9_ones ⟨Nat.le_of_ble_eq_true rfl, Nat.le_of_ble_eq_true rfl⟩ rfl hl.1 (by simp [gw_catq, gw_cI, gw_cR, gw_cL]) dX9_home_174 ⟨Nat.le_of_ble_eq_true rfl, Nat.le_of_ble_eq_true rfl⟩ rfl (fun w' H locs hw hI => ?_)
      subst hw
      refine lv_aload_n hx hb dX9_home_177 rfl (lv_at hl 1 rfl) ?_
      refine gw_get (T := TX9) (k := 2) (v := .ref (a 3)) B hI gm_g0 rfl ly_X9_home_9 (by decide) m_X9_home_16 rfl rfl dX9_home_178 ?_
      refine lv_iconst (v := 5) hx hb dX9_home_181 (by decide) ?_
      refine gw_iald (t0 := 0) B hI gm_g3 rfl (by decide) dX9_home_182 ?_
      refine lv_imul hx hb dX9_home_183 ?_
      refine lv_iload hx hb dX9_home_184 (lv_at hl 0 rfl) ?_
      refine lv_bipush (v := 8) hx hb dX9_home_186 (by decide) ?_
      refine lv_ishr hx hb dX9_home_188 ?_
      obtain ⟨r13, e14, h⟩ := gw_bdE h
      refine gw_callS (As := [.int (t0_ >>> ((8 : Int32) &&& 31))]) (n := 1) B hI (k_X9_ones (t0_ >>> ((8 : Int32) &&& 31)) S e14) gX9_home_X9_ones rfl rfl rfl nds_X9_ones ⟨Nat.le_of_ble_eq_true rfl, Nat.le_of_ble_eq_true rfl⟩ rfl hl.1 (by simp [gw_catq, gw_cI, gw_cR, gw_cL]) dX9_home_189 ⟨Nat.le_of_ble_eq_true rfl, Nat.le_of_ble_eq_true rfl⟩ rfl (fun w' H locs hw hI => ?_)
      subst hw
      refine lv_aload_n hx hb dX9_home_192 rfl (lv_at hl 1 rfl) ?_
      refine gw_get (T := TX9) (k := 2) (v := .ref (a 3)) B hI gm_g0 rfl ly_X9_home_9 (by decide) m_X9_home_16 rfl rfl dX9_home_193 ?_
      refine lv_bipush (v := 6) hx hb dX9_home_196 (by decide) ?_
      refine gw_iald (t0 := 0) B hI gm_g3 rfl (by decide) dX9_home_198 ?_
      refine lv_imul hx hb dX9_home_199 ?_
      refine lv_iadd hx hb dX9_home_200 ?_
      exact hb201  v1 v3 ((r11 * (S 3 (5 : Int32).toNatClampNeg)) + (r13 * (S 3 (6 : Int32).toNatClampNeg))) v1 S h _ _ _ hI (lv_sub hl [1, 2, 3] rfl)
    · replace h := gw_ifF c10 h
      refine lv_bipush (v := -4) hx hb dX9_home_163 (by decide) ?_
      refine lv_goto (tgt := 201) hx hb dX9_home_165 (by decide) ?_
      exact hb201  v1 v3 (-4 : Int32) v1 S h _ _ _ hI (lv_sub hl [1, 2, 3] rfl)
  have hb133 :  ∀ (v1 : Int32) (v3 : Int32) (t0_ : Int32) (t1_ : Int32) (S : gw_S), f_X9_home_b133  v1 v3 t0_ t1_ S = some (zr, zS) → ∀ (H : Heap) (locs : List Loc) (ls : Array Slot), gw_I D A s.heap (gw_mw cc a S) H locs → lv_has ls 7 [(0, .ref (a 0)), (1, .int v1), (3, .int v3)] → W p l e rm_X9_home s m args below meth c H locs 0 0 (MQ below (gw_Q (some (.int zr)) (gw_Pst D A (fun w => w = gw_mw cc a zS)) A) args s 0 0 A) (F0 m 133 ls [.int t0_, .int t1_, .ref (a 36)]) := by
    intro v1 v3 t0_ t1_ S h H locs ls hI hl
    unfold f_X9_home_b133 at h
    obtain ⟨g15, h⟩ := gw_gdE h
    obtain ⟨S16, e17, h⟩ := gw_letE h
    refine gw_iast (t0 := 0) (w' := gw_mw cc a S16) B hI gm_g36 rfl g15 (gm_s36 e17) dX9_home_133 (fun H locs hI => ?_)
    refine lv_iload_n hx hb dX9_home_134 rfl (lv_at hl 2 rfl) ?_
    refine lv_if_ge (tgt := 142) hx hb dX9_home_135 (by decide) (fun c18 => ?_) (fun c18 => ?_)
    · replace h := gw_ifT c18 h
      refine lv_iload_n hx hb dX9_home_142 rfl (lv_at hl 2 rfl) ?_
      refine lv_aload_n hx hb dX9_home_143 rfl (lv_at hl 0 rfl) ?_
      refine gw_get (T := TX9) (k := 39) (v := .ref (a 34)) B hI gm_g0 rfl ly_X9_home_9 (by decide) m_X9_home_110 rfl rfl dX9_home_144 ?_
      refine lv_iload_n hx hb dX9_home_147 rfl (lv_at hl 1 rfl) ?_
      obtain ⟨g19, h⟩ := gw_gdE h
      refine gw_iald (t0 := 0) B hI gm_g34 rfl g19 dX9_home_148 ?_
      refine lv_iconst (v := -1) hx hb dX9_home_149 (by decide) ?_
      refine lv_ixor hx hb dX9_home_150 ?_
      refine lv_iand hx hb dX9_home_151 ?_
      exact hb152  v1 v3 (v3 &&& ((S16 34 v1.toNatClampNeg) ^^^ (-1 : Int32))) S16 h _ _ _ hI (lv_sub hl [0, 1, 2] rfl)
    · replace h := gw_ifF c18 h
      refine lv_iconst (v := 0) hx hb dX9_home_138 (by decide) ?_
      refine lv_goto (tgt := 152) hx hb dX9_home_139 (by decide) ?_
      exact hb152  v1 v3 (0 : Int32) S16 h _ _ _ hI (lv_sub hl [0, 1, 2] rfl)
  have hb66 :  ∀ (v1 : Int32) (v2 : Int32) (v3 : Int32) (v4 : Int32) (S : gw_S), f_X9_home_b66  v1 v2 v3 v4 S = some (zr, zS) → ∀ (H : Heap) (locs : List Loc) (ls : Array Slot), gw_I D A s.heap (gw_mw cc a S) H locs → lv_has ls 7 [(0, .ref (a 0)), (1, .int v1), (2, .int v2), (3, .int v3), (4, .int v4)] → W p l e rm_X9_home s m args below meth c H locs 0 0 (MQ below (gw_Q (some (.int zr)) (gw_Pst D A (fun w => w = gw_mw cc a zS)) A) args s 0 0 A) (F0 m 66 ls []) := by
    intro v1 v2 v3 v4 S h H locs ls hI hl
    unfold f_X9_home_b66 at h
    refine lv_aload_n hx hb dX9_home_66 rfl (lv_at hl 0 rfl) ?_
    refine gw_get (T := TX9) (k := 38) (v := .ref (a 33)) B hI gm_g0 rfl ly_X9_home_9 (by decide) m_X9_home_107 rfl rfl dX9_home_67 ?_
    refine lv_iload_n hx hb dX9_home_70 rfl (lv_at hl 1 rfl) ?_
    obtain ⟨g20, h⟩ := gw_gdE h
    refine gw_iald (t0 := 0) B hI gm_g33 rfl g20 dX9_home_71 ?_
    refine lv_iconst (v := 1) hx hb dX9_home_72 (by decide) ?_
    refine lv_icmp_eq (tgt := 80) hx hb dX9_home_73 (by decide) (fun c21 => ?_) (fun c21 => ?_)
    · replace h := gw_ifT c21 h
      refine lv_aload_n hx hb dX9_home_80 rfl (lv_at hl 0 rfl) ?_
      refine gw_get (T := TX9) (k := 38) (v := .ref (a 33)) B hI gm_g0 rfl ly_X9_home_9 (by decide) m_X9_home_107 rfl rfl dX9_home_81 ?_
      refine lv_iload_n hx hb dX9_home_84 rfl (lv_at hl 1 rfl) ?_
      refine lv_iconst (v := 2) hx hb dX9_home_85 (by decide) ?_
      obtain ⟨S22, e23, h⟩ := gw_letE h
      refine gw_iast (t0 := 0) (w' := gw_mw cc a S22) B hI gm_g33 rfl g20 (gm_s33 e23) dX9_home_86 (fun H locs hI => ?_)
      refine lv_aload_n hx hb dX9_home_87 rfl (lv_at hl 0 rfl) ?_
      refine gw_get (T := TX9) (k := 17) (v := .ref (a 15)) B hI gm_g0 rfl ly_X9_home_9 (by decide) m_X9_home_52 rfl rfl dX9_home_88 ?_
      refine lv_iload hx hb dX9_home_91 (lv_at hl 4 rfl) ?_
      refine lv_dup2_11 hx hb dX9_home_93 rfl rfl ?_
      obtain ⟨g24, h⟩ := gw_gdE h
      refine gw_iald (t0 := 0) B hI gm_g15 rfl g24 dX9_home_94 ?_
      refine lv_iconst (v := 1) hx hb dX9_home_95 (by decide) ?_
      refine lv_iadd hx hb dX9_home_96 ?_
      obtain ⟨S25, e26, h⟩ := gw_letE h
      refine gw_iast (t0 := 0) (w' := gw_mw cc a S25) B hI gm_g15 rfl g24 (gm_s15 e26) dX9_home_97 (fun H locs hI => ?_)
      refine lv_aload_n hx hb dX9_home_98 rfl (lv_at hl 0 rfl) ?_
      refine gw_get (T := TX9) (k := 32) (v := .ref (a 27)) B hI gm_g0 rfl ly_X9_home_9 (by decide) m_X9_home_89 rfl rfl dX9_home_99 ?_
      refine lv_iload_n hx hb dX9_home_102 rfl (lv_at hl 1 rfl) ?_
      refine gw_iald (t0 := 0) B hI gm_g27 rfl g20 dX9_home_103 ?_
      refine lv_aload_n hx hb dX9_home_104 rfl (lv_at hl 0 rfl) ?_
      refine lv_iload hx hb dX9_home_105 (lv_at hl 4 rfl) ?_
      refine lv_iload_n hx hb dX9_home_107 rfl (lv_at hl 1 rfl) ?_
      obtain ⟨r27, e28, h⟩ := gw_bdE h
      refine gw_callV (As := [.int v4, .int v1]) (n := 2) B hI (k_X9_postOf v4 v1 S25 e28) gX9_home_X9_postOf rfl rfl rfl nd_X9_postOf ⟨Nat.le_of_ble_eq_true rfl, Nat.le_of_ble_eq_true rfl⟩ gm_g0 rfl rfl rfl hl.1 (by simp [gw_catq, gw_cI, gw_cR, gw_cL]) dX9_home_108 ⟨Nat.le_of_ble_eq_true rfl, Nat.le_of_ble_eq_true rfl⟩ rfl (fun w' H locs hw hI => ?_)
      subst hw
      refine lv_iadd hx hb dX9_home_111 ?_
      obtain ⟨y29, e30, h⟩ := gw_letE h
      rw [← e30]
      refine lv_istore (lv' := [(5, .int y29), (0, .ref (a 0)), (1, .int v1), (2, .int v2), (3, .int v3), (4, .int v4)]) hx hb dX9_home_112 hl (by decide) rfl (fun ls hl => ?_)
      refine lv_aload_n hx hb dX9_home_114 rfl (lv_at hl 1 rfl) ?_
      refine gw_get (T := TX9) (k := 41) (v := .ref (a 36)) B hI gm_g0 rfl ly_X9_home_9 (by decide) m_X9_home_116 rfl rfl dX9_home_115 ?_
      refine lv_iload_n hx hb dX9_home_118 rfl (lv_at hl 2 rfl) ?_
      refine lv_iload_n hx hb dX9_home_119 rfl (lv_at hl 3 rfl) ?_
      refine lv_iload hx hb dX9_home_120 (lv_at hl 0 rfl) ?_
      refine lv_icmp_le (tgt := 132) hx hb dX9_home_122 (by decide) (fun c31 => ?_) (fun c31 => ?_)
      · replace h := gw_ifT c31 h
        refine lv_iconst (v := 0) hx hb dX9_home_132 (by decide) ?_
        exact hb133  v1 v3 (0 : Int32) v1 S25 h _ _ _ hI (lv_sub hl [1, 2, 4] rfl)
      · replace h := gw_ifF c31 h
        refine lv_iload_n hx hb dX9_home_125 rfl (lv_at hl 3 rfl) ?_
        refine lv_iload hx hb dX9_home_126 (lv_at hl 0 rfl) ?_
        refine lv_isub hx hb dX9_home_128 ?_
        refine lv_goto (tgt := 133) hx hb dX9_home_129 (by decide) ?_
        exact hb133  v1 v3 (v2 - y29) v1 S25 h _ _ _ hI (lv_sub hl [1, 2, 4] rfl)
    · replace h := gw_ifF c21 h
      refine lv_ldcw (v := -1000002) hx hb hown (hts (.constant RX9 327 (-1000002)) (by decide +kernel)) dX9_home_76 ?_
      obtain ⟨h1, h2⟩ := Prod.mk.inj (Option.some.inj h)
      rw [h2] at hI
      rw [← h1]
      exact gw_iret (W' := (fun w => w = gw_mw cc a zS)) B hI rfl (Nat.zero_le _) (Nat.zero_le _) dX9_home_79
  unfold f_X9_home at h
  refine lv_aload_n hx hb dX9_home_0 rfl (lv_at hl 0 rfl) ?_
  refine lv_iload_n hx hb dX9_home_1 rfl (lv_at hl 1 rfl) ?_
  obtain ⟨r32, e33, h⟩ := gw_bdE h
  refine gw_callV (As := [.int x1]) (n := 1) B hI (k_X9_isThere x1 S e33) gX9_home_X9_isThere rfl rfl rfl nd_X9_isThere ⟨Nat.le_of_ble_eq_true rfl, Nat.le_of_ble_eq_true rfl⟩ gm_g0 rfl rfl rfl hl.1 (Nat.zero_le _) dX9_home_2 ⟨Nat.le_of_ble_eq_true rfl, Nat.le_of_ble_eq_true rfl⟩ rfl (fun w' H locs hw hI => ?_)
  subst hw
  refine lv_if_eq (tgt := 34) hx hb dX9_home_5 (by decide) (fun c34 => ?_) (fun c34 => ?_)
  · replace h := gw_ifT c34 h
    refine lv_ldcw (v := -1000001) hx hb hown (hts (.constant RX9 326 (-1000001)) (by decide +kernel)) dX9_home_34 ?_
    obtain ⟨h1, h2⟩ := Prod.mk.inj (Option.some.inj h)
    rw [h2] at hI
    rw [← h1]
    exact gw_iret (W' := (fun w => w = gw_mw cc a zS)) B hI rfl (Nat.zero_le _) (Nat.zero_le _) dX9_home_37
  · replace h := gw_ifF c34 h
    refine lv_iload_n hx hb dX9_home_8 rfl (lv_at hl 2 rfl) ?_
    refine lv_i2l hx hb dX9_home_9 rfl ?_
    refine lv_lconst (v := 0) hx hb dX9_home_10 (by decide) ?_
    refine lv_ldc2 (v := 399) hx hb hown (hts (.constantLong RX9 251 (399)) (by decide +kernel)) dX9_home_11 ?_
    obtain ⟨r35, e36, h⟩ := gw_bdE h
    refine gw_callS (As := [.long (x2.toInt64), .long (0 : Int64), .long (399 : Int64)]) (n := 3) B hI (k_X9_in (x2.toInt64) (0 : Int64) (399 : Int64) S e36) gX9_home_X9_in rfl rfl rfl nds_X9_in ⟨Nat.le_of_ble_eq_true rfl, Nat.le_of_ble_eq_true rfl⟩ rfl hl.1 (Nat.zero_le _) dX9_home_14 ⟨Nat.le_of_ble_eq_true rfl, Nat.le_of_ble_eq_true rfl⟩ rfl (fun w' H locs hw hI => ?_)
    subst hw
    refine lv_if_eq (tgt := 34) hx hb dX9_home_17 (by decide) (fun c37 => ?_) (fun c37 => ?_)
    · replace h := gw_ifT c37 h
      refine lv_ldcw (v := -1000001) hx hb hown (hts (.constant RX9 326 (-1000001)) (by decide +kernel)) dX9_home_34 ?_
      obtain ⟨h1, h2⟩ := Prod.mk.inj (Option.some.inj h)
      rw [h2] at hI
      rw [← h1]
      exact gw_iret (W' := (fun w => w = gw_mw cc a zS)) B hI rfl (Nat.zero_le _) (Nat.zero_le _) dX9_home_37
    · replace h := gw_ifF c37 h
      refine lv_iload_n hx hb dX9_home_20 rfl (lv_at hl 3 rfl) ?_
      refine lv_i2l hx hb dX9_home_21 rfl ?_
      refine lv_ldc2 (v := -1) hx hb hown (hts (.constantLong RX9 253 (-1)) (by decide +kernel)) dX9_home_22 ?_
      refine lv_ldc2 (v := 4095) hx hb hown (hts (.constantLong RX9 324 (4095)) (by decide +kernel)) dX9_home_25 ?_
      obtain ⟨r38, e39, h⟩ := gw_bdE h
      refine gw_callS (As := [.long (x3.toInt64), .long (-1 : Int64), .long (4095 : Int64)]) (n := 3) B hI (k_X9_in (x3.toInt64) (-1 : Int64) (4095 : Int64) S e39) gX9_home_X9_in rfl rfl rfl nds_X9_in ⟨Nat.le_of_ble_eq_true rfl, Nat.le_of_ble_eq_true rfl⟩ rfl hl.1 (Nat.zero_le _) dX9_home_28 ⟨Nat.le_of_ble_eq_true rfl, Nat.le_of_ble_eq_true rfl⟩ rfl (fun w' H locs hw hI => ?_)
      subst hw
      refine lv_if_ne (tgt := 38) hx hb dX9_home_31 (by decide) (fun c40 => ?_) (fun c40 => ?_)
      · replace h := gw_ifF c40 h
        refine lv_aload_n hx hb dX9_home_38 rfl (lv_at hl 0 rfl) ?_
        refine gw_get (T := TX9) (k := 37) (v := .ref (a 32)) B hI gm_g0 rfl ly_X9_home_9 (by decide) m_X9_home_104 rfl rfl dX9_home_39 ?_
        refine lv_iload_n hx hb dX9_home_42 rfl (lv_at hl 1 rfl) ?_
        obtain ⟨g41, h⟩ := gw_gdE h
        refine gw_iald (t0 := 0) B hI gm_g32 rfl g41 dX9_home_43 ?_
        obtain ⟨y42, e43, h⟩ := gw_letE h
        rw [← e43]
        refine lv_istore (lv' := [(4, .int y42), (0, .ref (a 0)), (1, .int x1), (2, .int x2), (3, .int x3)]) hx hb dX9_home_44 hl (by decide) rfl (fun ls hl => ?_)
        refine lv_iload hx hb dX9_home_46 (lv_at hl 0 rfl) ?_
        refine lv_if_lt (tgt := 66) hx hb dX9_home_48 (by decide) (fun c44 => ?_) (fun c44 => ?_)
        · replace h := gw_ifT c44 h
          exact hb66  x1 x2 x3 y42 S h _ _ _ hI (lv_sub hl [1, 2, 3, 4, 0] rfl)
        · replace h := gw_ifF c44 h
          refine lv_iload_n hx hb dX9_home_51 rfl (lv_at hl 3 rfl) ?_
          refine lv_aload_n hx hb dX9_home_52 rfl (lv_at hl 1 rfl) ?_
          refine lv_iload hx hb dX9_home_53 (lv_at hl 0 rfl) ?_
          refine lv_iload_n hx hb dX9_home_55 rfl (lv_at hl 2 rfl) ?_
          obtain ⟨r45, e46, h⟩ := gw_bdE h
          refine gw_callV (As := [.int y42, .int x1]) (n := 2) B hI (k_X9_firstAway y42 x1 S e46) gX9_home_X9_firstAway rfl rfl rfl nd_X9_firstAway ⟨Nat.le_of_ble_eq_true rfl, Nat.le_of_ble_eq_true rfl⟩ gm_g0 rfl rfl rfl hl.1 (by simp [gw_catq, gw_cI, gw_cR, gw_cL]) dX9_home_56 ⟨Nat.le_of_ble_eq_true rfl, Nat.le_of_ble_eq_true rfl⟩ rfl (fun w' H locs hw hI => ?_)
          subst hw
          refine lv_icmp_ge (tgt := 66) hx hb dX9_home_59 (by decide) (fun c47 => ?_) (fun c47 => ?_)
          · replace h := gw_ifT c47 h
            exact hb66  x1 x2 x3 y42 S h _ _ _ hI (lv_sub hl [1, 2, 3, 4, 0] rfl)
          · replace h := gw_ifF c47 h
            refine lv_ldcw (v := -1000001) hx hb hown (hts (.constant RX9 326 (-1000001)) (by decide +kernel)) dX9_home_62 ?_
            obtain ⟨h1, h2⟩ := Prod.mk.inj (Option.some.inj h)
            rw [h2] at hI
            rw [← h1]
            exact gw_iret (W' := (fun w => w = gw_mw cc a zS)) B hI rfl (Nat.zero_le _) (Nat.zero_le _) dX9_home_65
      · replace h := gw_ifT c40 h
        refine lv_ldcw (v := -1000001) hx hb hown (hts (.constant RX9 326 (-1000001)) (by decide +kernel)) dX9_home_34 ?_
        obtain ⟨h1, h2⟩ := Prod.mk.inj (Option.some.inj h)
        rw [h2] at hI
        rw [← h1]
        exact gw_iret (W' := (fun w => w = gw_mw cc a zS)) B hI rfl (Nat.zero_le _) (Nat.zero_le _) dX9_home_37
theorem m_X9_about_107 : Cond.fieldLink RX9 107 "GownLetModel" "state" "[I" ∈ wsX9_about := by decide +kernel
theorem m_X9_about_113 : Cond.fieldLink RX9 113 "GownLetModel" "deposits" "[I" ∈ wsX9_about := by decide +kernel
theorem m_X9_about_116 : Cond.fieldLink RX9 116 "GownLetModel" "lates" "[I" ∈ wsX9_about := by decide +kernel
theorem m_X9_about_119 : Cond.fieldLink RX9 119 "GownLetModel" "harms" "[I" ∈ wsX9_about := by decide +kernel
theorem m_X9_about_122 : Cond.fieldLink RX9 122 "GownLetModel" "owed" "[I" ∈ wsX9_about := by decide +kernel
theorem ly_X9_about_9 : ∀ w ∈ wsX90, w ∈ wsX9_about := by decide +kernel
set_option maxRecDepth 100000 in
set_option maxHeartbeats 4000000 in
theorem k_X9_about (x1 : Int32) (x2 : Int32) (S : gw_S) {zr : Int32} (h : f_X9_about x1 x2 S = some zr) : gw_M l yX9_about wsX9_about rm_X9_about 0 0 D (gw_ty cc) t1 t2 [.ref (a 0), .int x1, .int x2] (gw_mw cc a S) (fun w => w = gw_mw cc a S) (some (.int zr)) := by
  refine gw_enter (cc := cX9_about) (maxL := 3) (ret := (some .int)) (own := RX9) rfl (by decide) rfl (Nat.le_of_ble_eq_true rfl) ?_
  intro p e s m below meth c A B hin hI ls hl
  have hl : lv_has ls 3 [(0, .ref (a 0)), (1, .int x1), (2, .int x2)] := hl
  generalize ([.ref (a 0), .int x1, .int x2] : List Value).toArray = args at B ⊢
  have hx := B.1.1
  have hb := B.1.2.1
  have hown : s.vm.findClass RX9 = some m.cls := B.1.2.2.2.1
  have hts := B.1.2.2.2.2
  have hb50 :  ∀ (v1 : Int32) (v2 : Int32), f_X9_about_b50 S  v1 v2 = some zr → ∀ (H : Heap) (locs : List Loc) (ls : Array Slot), gw_I D A s.heap (gw_mw cc a S) H locs → lv_has ls 3 [(0, .ref (a 0)), (1, .int v1), (2, .int v2)] → W p l e rm_X9_about s m args below meth c H locs 0 0 (MQ below (gw_Q (some (.int zr)) (gw_Pst D A (fun w => w = gw_mw cc a S)) A) args s 0 0 A) (F0 m 50 ls []) := by
    intro v1 v2 h H locs ls hI hl
    unfold f_X9_about_b50 at h
    refine lv_iload_n hx hb dX9_about_50 rfl (lv_at hl 2 rfl) ?_
    refine lv_if_ne (tgt := 63) hx hb dX9_about_51 (by decide) (fun c1 => ?_) (fun c1 => ?_)
    · replace h := gw_ifF c1 h
      refine lv_iload_n hx hb dX9_about_63 rfl (lv_at hl 2 rfl) ?_
      refine lv_iconst (v := 1) hx hb dX9_about_64 (by decide) ?_
      refine lv_icmp_ne (tgt := 77) hx hb dX9_about_65 (by decide) (fun c2 => ?_) (fun c2 => ?_)
      · replace h := gw_ifF c2 h
        refine lv_iload_n hx hb dX9_about_77 rfl (lv_at hl 2 rfl) ?_
        refine lv_iconst (v := 2) hx hb dX9_about_78 (by decide) ?_
        refine lv_icmp_ne (tgt := 91) hx hb dX9_about_79 (by decide) (fun c3 => ?_) (fun c3 => ?_)
        · replace h := gw_ifF c3 h
          refine lv_iload_n hx hb dX9_about_91 rfl (lv_at hl 2 rfl) ?_
          refine lv_iconst (v := 3) hx hb dX9_about_92 (by decide) ?_
          refine lv_icmp_ne (tgt := 105) hx hb dX9_about_93 (by decide) (fun c4 => ?_) (fun c4 => ?_)
          · replace h := gw_ifF c4 h
            refine lv_aload_n hx hb dX9_about_105 rfl (lv_at hl 0 rfl) ?_
            refine gw_get (T := TX9) (k := 43) (v := .ref (a 38)) B hI gm_g0 rfl ly_X9_about_9 (by decide) m_X9_about_122 rfl rfl dX9_about_106 ?_
            refine lv_iload_n hx hb dX9_about_109 rfl (lv_at hl 1 rfl) ?_
            obtain ⟨g5, h⟩ := gw_gdE h
            refine gw_iald (t0 := 0) B hI gm_g38 rfl g5 dX9_about_110 ?_
            rw [← Option.some.inj h]
            exact gw_iret (W' := (fun w => w = gw_mw cc a S)) B hI rfl (Nat.zero_le _) (Nat.zero_le _) dX9_about_111
          · replace h := gw_ifT c4 h
            refine lv_aload_n hx hb dX9_about_96 rfl (lv_at hl 0 rfl) ?_
            refine gw_get (T := TX9) (k := 42) (v := .ref (a 37)) B hI gm_g0 rfl ly_X9_about_9 (by decide) m_X9_about_119 rfl rfl dX9_about_97 ?_
            refine lv_iload_n hx hb dX9_about_100 rfl (lv_at hl 1 rfl) ?_
            obtain ⟨g6, h⟩ := gw_gdE h
            refine gw_iald (t0 := 0) B hI gm_g37 rfl g6 dX9_about_101 ?_
            refine lv_goto (tgt := 111) hx hb dX9_about_102 (by decide) ?_
            rw [← Option.some.inj h]
            exact gw_iret (W' := (fun w => w = gw_mw cc a S)) B hI rfl (Nat.zero_le _) (Nat.zero_le _) dX9_about_111
        · replace h := gw_ifT c3 h
          refine lv_aload_n hx hb dX9_about_82 rfl (lv_at hl 0 rfl) ?_
          refine gw_get (T := TX9) (k := 41) (v := .ref (a 36)) B hI gm_g0 rfl ly_X9_about_9 (by decide) m_X9_about_116 rfl rfl dX9_about_83 ?_
          refine lv_iload_n hx hb dX9_about_86 rfl (lv_at hl 1 rfl) ?_
          obtain ⟨g7, h⟩ := gw_gdE h
          refine gw_iald (t0 := 0) B hI gm_g36 rfl g7 dX9_about_87 ?_
          refine lv_goto (tgt := 111) hx hb dX9_about_88 (by decide) ?_
          rw [← Option.some.inj h]
          exact gw_iret (W' := (fun w => w = gw_mw cc a S)) B hI rfl (Nat.zero_le _) (Nat.zero_le _) dX9_about_111
      · replace h := gw_ifT c2 h
        refine lv_aload_n hx hb dX9_about_68 rfl (lv_at hl 0 rfl) ?_
        refine gw_get (T := TX9) (k := 40) (v := .ref (a 35)) B hI gm_g0 rfl ly_X9_about_9 (by decide) m_X9_about_113 rfl rfl dX9_about_69 ?_
        refine lv_iload_n hx hb dX9_about_72 rfl (lv_at hl 1 rfl) ?_
        obtain ⟨g8, h⟩ := gw_gdE h
        refine gw_iald (t0 := 0) B hI gm_g35 rfl g8 dX9_about_73 ?_
        refine lv_goto (tgt := 111) hx hb dX9_about_74 (by decide) ?_
        rw [← Option.some.inj h]
        exact gw_iret (W' := (fun w => w = gw_mw cc a S)) B hI rfl (Nat.zero_le _) (Nat.zero_le _) dX9_about_111
    · replace h := gw_ifT c1 h
      refine lv_aload_n hx hb dX9_about_54 rfl (lv_at hl 0 rfl) ?_
      refine gw_get (T := TX9) (k := 38) (v := .ref (a 33)) B hI gm_g0 rfl ly_X9_about_9 (by decide) m_X9_about_107 rfl rfl dX9_about_55 ?_
      refine lv_iload_n hx hb dX9_about_58 rfl (lv_at hl 1 rfl) ?_
      obtain ⟨g9, h⟩ := gw_gdE h
      refine gw_iald (t0 := 0) B hI gm_g33 rfl g9 dX9_about_59 ?_
      refine lv_goto (tgt := 111) hx hb dX9_about_60 (by decide) ?_
      rw [← Option.some.inj h]
      exact gw_iret (W' := (fun w => w = gw_mw cc a S)) B hI rfl (Nat.zero_le _) (Nat.zero_le _) dX9_about_111
  have hb33 :  ∀ (v1 : Int32) (v2 : Int32), f_X9_about_b33 S  v1 v2 = some zr → ∀ (H : Heap) (locs : List Loc) (ls : Array Slot), gw_I D A s.heap (gw_mw cc a S) H locs → lv_has ls 3 [(0, .ref (a 0)), (1, .int v1), (2, .int v2)] → W p l e rm_X9_about s m args below meth c H locs 0 0 (MQ below (gw_Q (some (.int zr)) (gw_Pst D A (fun w => w = gw_mw cc a S)) A) args s 0 0 A) (F0 m 33 ls []) := by
    intro v1 v2 h H locs ls hI hl
    unfold f_X9_about_b33 at h
    refine lv_iload_n hx hb dX9_about_33 rfl (lv_at hl 2 rfl) ?_
    refine lv_iconst (v := 1) hx hb dX9_about_34 (by decide) ?_
    refine lv_icmp_le (tgt := 50) hx hb dX9_about_35 (by decide) (fun c10 => ?_) (fun c10 => ?_)
    · replace h := gw_ifT c10 h
      exact hb50  v1 v2 h _ _ _ hI (lv_sub hl [0, 1, 2] rfl)
    · replace h := gw_ifF c10 h
      refine lv_aload_n hx hb dX9_about_38 rfl (lv_at hl 0 rfl) ?_
      refine gw_get (T := TX9) (k := 38) (v := .ref (a 33)) B hI gm_g0 rfl ly_X9_about_9 (by decide) m_X9_about_107 rfl rfl dX9_about_39 ?_
      refine lv_iload_n hx hb dX9_about_42 rfl (lv_at hl 1 rfl) ?_
      obtain ⟨g11, h⟩ := gw_gdE h
      refine gw_iald (t0 := 0) B hI gm_g33 rfl g11 dX9_about_43 ?_
      refine lv_iconst (v := 2) hx hb dX9_about_44 (by decide) ?_
      refine lv_icmp_ge (tgt := 50) hx hb dX9_about_45 (by decide) (fun c12 => ?_) (fun c12 => ?_)
      · replace h := gw_ifT c12 h
        exact hb50  v1 v2 h _ _ _ hI (lv_sub hl [0, 1, 2] rfl)
      · replace h := gw_ifF c12 h
        refine lv_iconst (v := -1) hx hb dX9_about_48 (by decide) ?_
        rw [← Option.some.inj h]
        exact gw_iret (W' := (fun w => w = gw_mw cc a S)) B hI rfl (Nat.zero_le _) (Nat.zero_le _) dX9_about_49
  unfold f_X9_about at h
  refine lv_aload_n hx hb dX9_about_0 rfl (lv_at hl 0 rfl) ?_
  refine lv_iload_n hx hb dX9_about_1 rfl (lv_at hl 1 rfl) ?_
  obtain ⟨r13, e14, h⟩ := gw_bdE h
  refine gw_callV (As := [.int x1]) (n := 1) B hI (k_X9_isThere x1 S e14) gX9_about_X9_isThere rfl rfl rfl nd_X9_isThere ⟨Nat.le_of_ble_eq_true rfl, Nat.le_of_ble_eq_true rfl⟩ gm_g0 rfl rfl rfl hl.1 (Nat.zero_le _) dX9_about_2 ⟨Nat.le_of_ble_eq_true rfl, Nat.le_of_ble_eq_true rfl⟩ rfl (fun w' H locs hw hI => ?_)
  subst hw
  refine lv_if_eq (tgt := 48) hx hb dX9_about_5 (by decide) (fun c15 => ?_) (fun c15 => ?_)
  · replace h := gw_ifT c15 h
    refine lv_iconst (v := -1) hx hb dX9_about_48 (by decide) ?_
    rw [← Option.some.inj h]
    exact gw_iret (W' := (fun w => w = gw_mw cc a S)) B hI rfl (Nat.zero_le _) (Nat.zero_le _) dX9_about_49
  · replace h := gw_ifF c15 h
    refine lv_iload_n hx hb dX9_about_8 rfl (lv_at hl 2 rfl) ?_
    refine lv_i2l hx hb dX9_about_9 rfl ?_
    refine lv_lconst (v := 0) hx hb dX9_about_10 (by decide) ?_
    refine lv_ldc2 (v := 4) hx hb hown (hts (.constantLong RX9 255 (4)) (by decide +kernel)) dX9_about_11 ?_
    obtain ⟨r16, e17, h⟩ := gw_bdE h
    refine gw_callS (As := [.long (x2.toInt64), .long (0 : Int64), .long (4 : Int64)]) (n := 3) B hI (k_X9_in (x2.toInt64) (0 : Int64) (4 : Int64) S e17) gX9_about_X9_in rfl rfl rfl nds_X9_in ⟨Nat.le_of_ble_eq_true rfl, Nat.le_of_ble_eq_true rfl⟩ rfl hl.1 (Nat.zero_le _) dX9_about_14 ⟨Nat.le_of_ble_eq_true rfl, Nat.le_of_ble_eq_true rfl⟩ rfl (fun w' H locs hw hI => ?_)
    subst hw
    refine lv_if_eq (tgt := 48) hx hb dX9_about_17 (by decide) (fun c18 => ?_) (fun c18 => ?_)
    · replace h := gw_ifT c18 h
      refine lv_iconst (v := -1) hx hb dX9_about_48 (by decide) ?_
      rw [← Option.some.inj h]
      exact gw_iret (W' := (fun w => w = gw_mw cc a S)) B hI rfl (Nat.zero_le _) (Nat.zero_le _) dX9_about_49
    · replace h := gw_ifF c18 h
      refine lv_iload_n hx hb dX9_about_20 rfl (lv_at hl 2 rfl) ?_
      refine lv_if_le (tgt := 33) hx hb dX9_about_21 (by decide) (fun c19 => ?_) (fun c19 => ?_)
      · replace h := gw_ifT c19 h
        exact hb33  x1 x2 h _ _ _ hI (lv_sub hl [0, 1, 2] rfl)
      · replace h := gw_ifF c19 h
        refine lv_aload_n hx hb dX9_about_24 rfl (lv_at hl 0 rfl) ?_
        refine gw_get (T := TX9) (k := 38) (v := .ref (a 33)) B hI gm_g0 rfl ly_X9_about_9 (by decide) m_X9_about_107 rfl rfl dX9_about_25 ?_
        refine lv_iload_n hx hb dX9_about_28 rfl (lv_at hl 1 rfl) ?_
        obtain ⟨g20, h⟩ := gw_gdE h
        refine gw_iald (t0 := 0) B hI gm_g33 rfl g20 dX9_about_29 ?_
        refine lv_if_eq (tgt := 48) hx hb dX9_about_30 (by decide) (fun c21 => ?_) (fun c21 => ?_)
        · replace h := gw_ifT c21 h
          refine lv_iconst (v := -1) hx hb dX9_about_48 (by decide) ?_
          rw [← Option.some.inj h]
          exact gw_iret (W' := (fun w => w = gw_mw cc a S)) B hI rfl (Nat.zero_le _) (Nat.zero_le _) dX9_about_49
        · replace h := gw_ifF c21 h
          exact hb33  x1 x2 h _ _ _ hI (lv_sub hl [0, 1, 2] rfl)
theorem m_X9_retire_55 : Cond.fieldLink RX9 55 "GownLetModel" "isTold" "[Z" ∈ wsX9_retire := by decide +kernel
theorem ly_X9_retire_9 : ∀ w ∈ wsX90, w ∈ wsX9_retire := by decide +kernel
set_option maxRecDepth 100000 in
set_option maxHeartbeats 4000000 in
theorem k_X9_retire (x1 : Int32) (S : gw_S) {zr : Int32} {zS : gw_S} (h : f_X9_retire x1 S = some (zr, zS)) : gw_M l yX9_retire wsX9_retire rm_X9_retire 0 0 D (gw_ty cc) t1 t2 [.ref (a 0), .int x1] (gw_mw cc a S) (fun w => w = gw_mw cc a zS) (some (.int zr)) := by
  refine gw_enter (cc := cX9_retire) (maxL := 2) (ret := (some .int)) (own := RX9) rfl (by decide) rfl (Nat.le_of_ble_eq_true rfl) ?_
  intro p e s m below meth c A B hin hI ls hl
  have hl : lv_has ls 2 [(0, .ref (a 0)), (1, .int x1)] := hl
  generalize ([.ref (a 0), .int x1] : List Value).toArray = args at B ⊢
  have hx := B.1.1
  have hb := B.1.2.1
  have hown : s.vm.findClass RX9 = some m.cls := B.1.2.2.2.1
  have hts := B.1.2.2.2.2
  unfold f_X9_retire at h
  refine lv_aload_n hx hb dX9_retire_0 rfl (lv_at hl 0 rfl) ?_
  refine lv_iload_n hx hb dX9_retire_1 rfl (lv_at hl 1 rfl) ?_
  obtain ⟨r1, e2, h⟩ := gw_bdE h
  refine gw_callV (As := [.int x1]) (n := 1) B hI (k_X9_isPiece x1 S e2) gX9_retire_X9_isPiece rfl rfl rfl nd_X9_isPiece ⟨Nat.le_of_ble_eq_true rfl, Nat.le_of_ble_eq_true rfl⟩ gm_g0 rfl rfl rfl hl.1 (Nat.zero_le _) dX9_retire_2 ⟨Nat.le_of_ble_eq_true rfl, Nat.le_of_ble_eq_true rfl⟩ rfl (fun w' H locs hw hI => ?_)
  subst hw
  refine lv_if_ne (tgt := 10) hx hb dX9_retire_5 (by decide) (fun c3 => ?_) (fun c3 => ?_)
  · replace h := gw_ifF c3 h
    refine lv_aload_n hx hb dX9_retire_10 rfl (lv_at hl 0 rfl) ?_
    refine lv_iload_n hx hb dX9_retire_11 rfl (lv_at hl 1 rfl) ?_
    obtain ⟨r4, e5, h⟩ := gw_bdE h
    refine gw_callV (As := [.int x1]) (n := 1) B hI (k_X9_isRetired x1 S e5) gX9_retire_X9_isRetired rfl rfl rfl nd_X9_isRetired ⟨Nat.le_of_ble_eq_true rfl, Nat.le_of_ble_eq_true rfl⟩ gm_g0 rfl rfl rfl hl.1 (Nat.zero_le _) dX9_retire_12 ⟨Nat.le_of_ble_eq_true rfl, Nat.le_of_ble_eq_true rfl⟩ rfl (fun w' H locs hw hI => ?_)
    subst hw
    refine lv_if_eq (tgt := 21) hx hb dX9_retire_15 (by decide) (fun c6 => ?_) (fun c6 => ?_)
    · replace h := gw_ifT c6 h
      refine lv_aload_n hx hb dX9_retire_21 rfl (lv_at hl 0 rfl) ?_
      refine gw_get (T := TX9) (k := 18) (v := .ref (a 16)) B hI gm_g0 rfl ly_X9_retire_9 (by decide) m_X9_retire_55 rfl rfl dX9_retire_22 ?_
      refine lv_iload_n hx hb dX9_retire_25 rfl (lv_at hl 1 rfl) ?_
      refine lv_iconst (v := 1) hx hb dX9_retire_26 (by decide) ?_
      obtain ⟨g7, h⟩ := gw_gdE h
      obtain ⟨S8, e9, h⟩ := gw_letE h
      refine gw_zast (t0 := 2) (w' := gw_mw cc a S8) B hI gm_g16 rfl g7 (gm_s16 e9) dX9_retire_27 (fun H locs hI => ?_)
      refine lv_aload_n hx hb dX9_retire_28 rfl (lv_at hl 0 rfl) ?_
      refine lv_iload_n hx hb dX9_retire_29 rfl (lv_at hl 1 rfl) ?_
      obtain ⟨r10, e11, h⟩ := gw_bdE h
      refine gw_callV (As := [.int x1]) (n := 1) B hI (k_X9_worthOf x1 S8 e11) gX9_retire_X9_worthOf rfl rfl rfl nd_X9_worthOf ⟨Nat.le_of_ble_eq_true rfl, Nat.le_of_ble_eq_true rfl⟩ gm_g0 rfl rfl rfl hl.1 (Nat.zero_le _) dX9_retire_30 ⟨Nat.le_of_ble_eq_true rfl, Nat.le_of_ble_eq_true rfl⟩ rfl (fun w' H locs hw hI => ?_)
      subst hw
      obtain ⟨h1, h2⟩ := Prod.mk.inj (Option.some.inj h)
      rw [h2] at hI
      rw [← h1]
      exact gw_iret (W' := (fun w => w = gw_mw cc a zS)) B hI rfl (Nat.zero_le _) (Nat.zero_le _) dX9_retire_33
    · replace h := gw_ifF c6 h
      refine lv_bipush (v := -2) hx hb dX9_retire_18 (by decide) ?_
      obtain ⟨h1, h2⟩ := Prod.mk.inj (Option.some.inj h)
      rw [h2] at hI
      rw [← h1]
      exact gw_iret (W' := (fun w => w = gw_mw cc a zS)) B hI rfl (Nat.zero_le _) (Nat.zero_le _) dX9_retire_20
  · replace h := gw_ifT c3 h
    refine lv_iconst (v := -1) hx hb dX9_retire_8 (by decide) ?_
    obtain ⟨h1, h2⟩ := Prod.mk.inj (Option.some.inj h)
    rw [h2] at hI
    rw [← h1]
    exact gw_iret (W' := (fun w => w = gw_mw cc a zS)) B hI rfl (Nat.zero_le _) (Nat.zero_le _) dX9_retire_9
theorem m_X9_count_101 : Cond.fieldLink RX9 101 "GownLetModel" "offs" "[I" ∈ wsX9_count := by decide +kernel
theorem m_X9_count_104 : Cond.fieldLink RX9 104 "GownLetModel" "had" "[I" ∈ wsX9_count := by decide +kernel
theorem m_X9_count_203 : Cond.fieldLink RX9 203 "GownLetModel" "pieces" "I" ∈ wsX9_count := by decide +kernel
theorem m_X9_count_221 : Cond.fieldLink RX9 221 "GownLetModel" "doubles" "I" ∈ wsX9_count := by decide +kernel
theorem m_X9_count_257 : Cond.fieldLink RX9 257 "GownLetModel" "bookings" "I" ∈ wsX9_count := by decide +kernel
theorem m_X9_count_52 : Cond.fieldLink RX9 52 "GownLetModel" "worn" "[I" ∈ wsX9_count := by decide +kernel
theorem m_X9_count_59 : Cond.fieldLink RX9 59 "GownLetModel" "isTorn" "[Z" ∈ wsX9_count := by decide +kernel
theorem ly_X9_count_9 : ∀ w ∈ wsX90, w ∈ wsX9_count := by decide +kernel
set_option maxRecDepth 100000 in
set_option maxHeartbeats 4000000 in
theorem k_X9_count (x1 : Int32) (S : gw_S) {zr : Int32} (h : f_X9_count x1 S = some zr) : gw_M l yX9_count wsX9_count rm_X9_count 0 0 D (gw_ty cc) t1 t2 [.ref (a 0), .int x1] (gw_mw cc a S) (fun w => w = gw_mw cc a S) (some (.int zr)) := by
  refine gw_enter (cc := cX9_count) (maxL := 4) (ret := (some .int)) (own := RX9) rfl (by decide) rfl (Nat.le_of_ble_eq_true rfl) ?_
  intro p e s m below meth c A B hin hI ls hl
  have hl : lv_has ls 4 [(0, .ref (a 0)), (1, .int x1)] := hl
  generalize ([.ref (a 0), .int x1] : List Value).toArray = args at B ⊢
  have hx := B.1.1
  have hb := B.1.2.1
  have hown : s.vm.findClass RX9 = some m.cls := B.1.2.2.2.1
  have hts := B.1.2.2.2.2
  have hb171 : ∀ (K131 : Int32 → Int32 → Int32 → Option (Int32)) (_ : ∀ (v1 : Int32) (v2 : Int32) (v3 : Int32), K131 v1 v2 v3 = some zr → ∀ (H : Heap) (locs : List Loc) (ls : Array Slot), gw_I D A s.heap (gw_mw cc a S) H locs → lv_has ls 4 [(0, .ref (a 0)), (1, .int v1), (2, .int v2), (3, .int v3)] → W p l e rm_X9_count s m args below meth c H locs 0 0 (MQ below (gw_Q (some (.int zr)) (gw_Pst D A (fun w => w = gw_mw cc a S)) A) args s 0 0 A) (F0 m 131 ls [])), ∀ (v1 : Int32) (v3 : Int32) (t0_ : Int32) (t1_ : Int32), f_X9_count_b171 S K131 v1 v3 t0_ t1_ = some zr → ∀ (H : Heap) (locs : List Loc) (ls : Array Slot), gw_I D A s.heap (gw_mw cc a S) H locs → lv_has ls 4 [(0, .ref (a 0)), (1, .int v1), (3, .int v3)] → W p l e rm_X9_count s m args below meth c H locs 0 0 (MQ below (gw_Q (some (.int zr)) (gw_Pst D A (fun w => w = gw_mw cc a S)) A) args s 0 0 A) (F0 m 171 ls [.int t0_, .int t1_]) := by
    intro K131 hK131
    intro v1 v3 t0_ t1_ h H locs ls hI hl
    unfold f_X9_count_b171 at h
    refine lv_iadd hx hb dX9_count_171 ?_
    obtain ⟨y1, e2, h⟩ := gw_letE h
    rw [← e2]
    refine lv_istore_n (lv' := [(2, .int y1), (0, .ref (a 0)), (1, .int v1), (3, .int v3)]) hx hb dX9_count_172 rfl hl (by decide) rfl (fun ls hl => ?_)
    obtain ⟨y3, e4, h⟩ := gw_letE h
    refine lv_iinc (v := y3) (lv' := [(3, .int y3), (2, .int y1), (0, .ref (a 0)), (1, .int v1)]) hx hb dX9_count_173 hl (k := 3) rfl (by rw [e4]; rfl) (by decide) rfl (fun ls hl => ?_)
    refine lv_goto (tgt := 131) hx hb dX9_count_176 (by decide) ?_
    exact hK131 v1 y1 y3 h _ _ _ hI (lv_sub hl [2, 3, 1, 0] rfl)
  have hb170 : ∀ (K131 : Int32 → Int32 → Int32 → Option (Int32)) (_ : ∀ (v1 : Int32) (v2 : Int32) (v3 : Int32), K131 v1 v2 v3 = some zr → ∀ (H : Heap) (locs : List Loc) (ls : Array Slot), gw_I D A s.heap (gw_mw cc a S) H locs → lv_has ls 4 [(0, .ref (a 0)), (1, .int v1), (2, .int v2), (3, .int v3)] → W p l e rm_X9_count s m args below meth c H locs 0 0 (MQ below (gw_Q (some (.int zr)) (gw_Pst D A (fun w => w = gw_mw cc a S)) A) args s 0 0 A) (F0 m 131 ls [])), ∀ (v1 : Int32) (v3 : Int32) (t0_ : Int32), f_X9_count_b170 S K131 v1 v3 t0_ = some zr → ∀ (H : Heap) (locs : List Loc) (ls : Array Slot), gw_I D A s.heap (gw_mw cc a S) H locs → lv_has ls 4 [(0, .ref (a 0)), (1, .int v1), (3, .int v3)] → W p l e rm_X9_count s m args below meth c H locs 0 0 (MQ below (gw_Q (some (.int zr)) (gw_Pst D A (fun w => w = gw_mw cc a S)) A) args s 0 0 A) (F0 m 170 ls [.int t0_]) := by
    intro K131 hK131
    intro v1 v3 t0_ h H locs ls hI hl
    unfold f_X9_count_b170 at h
    refine lv_iconst (v := 0) hx hb dX9_count_170 (by decide) ?_
    exact hb171 K131 hK131 v1 v3 (0 : Int32) t0_ h _ _ _ hI (lv_sub hl [0, 1, 2] rfl)
  have hb166 : ∀ (K131 : Int32 → Int32 → Int32 → Option (Int32)) (_ : ∀ (v1 : Int32) (v2 : Int32) (v3 : Int32), K131 v1 v2 v3 = some zr → ∀ (H : Heap) (locs : List Loc) (ls : Array Slot), gw_I D A s.heap (gw_mw cc a S) H locs → lv_has ls 4 [(0, .ref (a 0)), (1, .int v1), (2, .int v2), (3, .int v3)] → W p l e rm_X9_count s m args below meth c H locs 0 0 (MQ below (gw_Q (some (.int zr)) (gw_Pst D A (fun w => w = gw_mw cc a S)) A) args s 0 0 A) (F0 m 131 ls [])), ∀ (v1 : Int32) (v3 : Int32) (t0_ : Int32), f_X9_count_b166 S K131 v1 v3 t0_ = some zr → ∀ (H : Heap) (locs : List Loc) (ls : Array Slot), gw_I D A s.heap (gw_mw cc a S) H locs → lv_has ls 4 [(0, .ref (a 0)), (1, .int v1), (3, .int v3)] → W p l e rm_X9_count s m args below meth c H locs 0 0 (MQ below (gw_Q (some (.int zr)) (gw_Pst D A (fun w => w = gw_mw cc a S)) A) args s 0 0 A) (F0 m 166 ls [.int t0_]) := by
    intro K131 hK131
    intro v1 v3 t0_ h H locs ls hI hl
    unfold f_X9_count_b166 at h
    refine lv_iconst (v := 1) hx hb dX9_count_166 (by decide) ?_
    refine lv_goto (tgt := 171) hx hb dX9_count_167 (by decide) ?_
    exact hb171 K131 hK131 v1 v3 (1 : Int32) t0_ h _ _ _ hI (lv_sub hl [0, 1, 2] rfl)
  have hb131 :  ∀ (n : Nat), ∀ (v1 : Int32) (v2 : Int32) (v3 : Int32), f_X9_count_b131 S  n v1 v2 v3 = some zr → ∀ (H : Heap) (locs : List Loc) (ls : Array Slot), gw_I D A s.heap (gw_mw cc a S) H locs → lv_has ls 4 [(0, .ref (a 0)), (1, .int v1), (2, .int v2), (3, .int v3)] → W p l e rm_X9_count s m args below meth c H locs 0 0 (MQ below (gw_Q (some (.int zr)) (gw_Pst D A (fun w => w = gw_mw cc a S)) A) args s 0 0 A) (F0 m 131 ls []) := by
    intro n
    induction n with
    | zero =>
      intro v1 v2 v3 h
      cases h
    | succ n ih =>
      intro v1 v2 v3 h H locs ls hI hl
      unfold f_X9_count_b131 at h
      refine lv_iload_n hx hb dX9_count_131 rfl (lv_at hl 3 rfl) ?_
      refine lv_aload_n hx hb dX9_count_132 rfl (lv_at hl 0 rfl) ?_
      refine gw_get (T := TX9) (k := 29) (v := .int (S 0 29)) B hI gm_g0 rfl ly_X9_count_9 (by decide) m_X9_count_257 rfl rfl dX9_count_133 ?_
      refine lv_icmp_ge (tgt := 179) hx hb dX9_count_136 (by decide) (fun c5 => ?_) (fun c5 => ?_)
      · replace h := gw_ifT c5 h
        refine lv_iload_n hx hb dX9_count_179 rfl (lv_at hl 2 rfl) ?_
        rw [← Option.some.inj h]
        exact gw_iret (W' := (fun w => w = gw_mw cc a S)) B hI rfl (Nat.zero_le _) (Nat.zero_le _) dX9_count_180
      · replace h := gw_ifF c5 h
        refine lv_iload_n hx hb dX9_count_139 rfl (lv_at hl 2 rfl) ?_
        refine lv_iload_n hx hb dX9_count_140 rfl (lv_at hl 1 rfl) ?_
        refine lv_iconst (v := 5) hx hb dX9_count_141 (by decide) ?_
        refine lv_icmp_ne (tgt := 157) hx hb dX9_count_142 (by decide) (fun c6 => ?_) (fun c6 => ?_)
        · replace h := gw_ifF c6 h
          refine lv_aload_n hx hb dX9_count_157 rfl (lv_at hl 0 rfl) ?_
          refine gw_get (T := TX9) (k := 37) (v := .ref (a 32)) B hI gm_g0 rfl ly_X9_count_9 (by decide) m_X9_count_104 rfl rfl dX9_count_158 ?_
          refine lv_iload_n hx hb dX9_count_161 rfl (lv_at hl 3 rfl) ?_
          obtain ⟨g7, h⟩ := gw_gdE h
          refine gw_iald (t0 := 0) B hI gm_g32 rfl g7 dX9_count_162 ?_
          refine lv_if_lt (tgt := 170) hx hb dX9_count_163 (by decide) (fun c8 => ?_) (fun c8 => ?_)
          · replace h := gw_ifT c8 h
            exact hb170 (f_X9_count_b131 S  n) ih v1 v3 v2 h _ _ _ hI (lv_sub hl [0, 1, 3] rfl)
          · replace h := gw_ifF c8 h
            exact hb166 (f_X9_count_b131 S  n) ih v1 v3 v2 h _ _ _ hI (lv_sub hl [0, 1, 3] rfl)
        · replace h := gw_ifT c6 h
          refine lv_aload_n hx hb dX9_count_145 rfl (lv_at hl 0 rfl) ?_
          refine gw_get (T := TX9) (k := 36) (v := .ref (a 31)) B hI gm_g0 rfl ly_X9_count_9 (by decide) m_X9_count_101 rfl rfl dX9_count_146 ?_
          refine lv_iload_n hx hb dX9_count_149 rfl (lv_at hl 3 rfl) ?_
          obtain ⟨g9, h⟩ := gw_gdE h
          refine gw_iald (t0 := 0) B hI gm_g31 rfl g9 dX9_count_150 ?_
          refine lv_if_lt (tgt := 170) hx hb dX9_count_151 (by decide) (fun c10 => ?_) (fun c10 => ?_)
          · replace h := gw_ifT c10 h
            exact hb170 (f_X9_count_b131 S  n) ih v1 v3 v2 h _ _ _ hI (lv_sub hl [0, 1, 3] rfl)
          · replace h := gw_ifF c10 h
            refine lv_goto (tgt := 166) hx hb dX9_count_154 (by decide) ?_
            exact hb166 (f_X9_count_b131 S  n) ih v1 v3 v2 h _ _ _ hI (lv_sub hl [0, 1, 3] rfl)
  have hb129 :  ∀ (v1 : Int32) (v2 : Int32), f_X9_count_b129 S  v1 v2 = some zr → ∀ (H : Heap) (locs : List Loc) (ls : Array Slot), gw_I D A s.heap (gw_mw cc a S) H locs → lv_has ls 4 [(0, .ref (a 0)), (1, .int v1), (2, .int v2)] → W p l e rm_X9_count s m args below meth c H locs 0 0 (MQ below (gw_Q (some (.int zr)) (gw_Pst D A (fun w => w = gw_mw cc a S)) A) args s 0 0 A) (F0 m 129 ls []) := by
    intro v1 v2 h H locs ls hI hl
    unfold f_X9_count_b129 at h
    refine lv_iconst (v := 0) hx hb dX9_count_129 (by decide) ?_
    refine lv_istore_n (lv' := [(3, .int (0 : Int32)), (0, .ref (a 0)), (1, .int v1), (2, .int v2)]) hx hb dX9_count_130 rfl hl (by decide) rfl (fun ls hl => ?_)
    exact hb131  gw_F v1 v2 (0 : Int32) h _ _ _ hI (lv_sub hl [1, 2, 3, 0] rfl)
  have hb109 : ∀ (K55 : Int32 → Int32 → Int32 → Option (Int32)) (_ : ∀ (v1 : Int32) (v2 : Int32) (v3 : Int32), K55 v1 v2 v3 = some zr → ∀ (H : Heap) (locs : List Loc) (ls : Array Slot), gw_I D A s.heap (gw_mw cc a S) H locs → lv_has ls 4 [(0, .ref (a 0)), (1, .int v1), (2, .int v2), (3, .int v3)] → W p l e rm_X9_count s m args below meth c H locs 0 0 (MQ below (gw_Q (some (.int zr)) (gw_Pst D A (fun w => w = gw_mw cc a S)) A) args s 0 0 A) (F0 m 55 ls [])), ∀ (v1 : Int32) (v3 : Int32) (t0_ : Int32) (t1_ : Int32), f_X9_count_b109 S K55 v1 v3 t0_ t1_ = some zr → ∀ (H : Heap) (locs : List Loc) (ls : Array Slot), gw_I D A s.heap (gw_mw cc a S) H locs → lv_has ls 4 [(0, .ref (a 0)), (1, .int v1), (3, .int v3)] → W p l e rm_X9_count s m args below meth c H locs 0 0 (MQ below (gw_Q (some (.int zr)) (gw_Pst D A (fun w => w = gw_mw cc a S)) A) args s 0 0 A) (F0 m 109 ls [.int t0_, .int t1_]) := by
    intro K55 hK55
    intro v1 v3 t0_ t1_ h H locs ls hI hl
    unfold f_X9_count_b109 at h
    refine lv_iadd hx hb dX9_count_109 ?_
    obtain ⟨y11, e12, h⟩ := gw_letE h
    rw [← e12]
    refine lv_istore_n (lv' := [(2, .int y11), (0, .ref (a 0)), (1, .int v1), (3, .int v3)]) hx hb dX9_count_110 rfl hl (by decide) rfl (fun ls hl => ?_)
    obtain ⟨y13, e14, h⟩ := gw_letE h
    refine lv_iinc (v := y13) (lv' := [(3, .int y13), (2, .int y11), (0, .ref (a 0)), (1, .int v1)]) hx hb dX9_count_111 hl (k := 3) rfl (by rw [e14]; rfl) (by decide) rfl (fun ls hl => ?_)
    refine lv_goto (tgt := 55) hx hb dX9_count_114 (by decide) ?_
    exact hK55 v1 y11 y13 h _ _ _ hI (lv_sub hl [2, 3, 1, 0] rfl)
  have hb108 : ∀ (K55 : Int32 → Int32 → Int32 → Option (Int32)) (_ : ∀ (v1 : Int32) (v2 : Int32) (v3 : Int32), K55 v1 v2 v3 = some zr → ∀ (H : Heap) (locs : List Loc) (ls : Array Slot), gw_I D A s.heap (gw_mw cc a S) H locs → lv_has ls 4 [(0, .ref (a 0)), (1, .int v1), (2, .int v2), (3, .int v3)] → W p l e rm_X9_count s m args below meth c H locs 0 0 (MQ below (gw_Q (some (.int zr)) (gw_Pst D A (fun w => w = gw_mw cc a S)) A) args s 0 0 A) (F0 m 55 ls [])), ∀ (v1 : Int32) (v3 : Int32) (t0_ : Int32), f_X9_count_b108 S K55 v1 v3 t0_ = some zr → ∀ (H : Heap) (locs : List Loc) (ls : Array Slot), gw_I D A s.heap (gw_mw cc a S) H locs → lv_has ls 4 [(0, .ref (a 0)), (1, .int v1), (3, .int v3)] → W p l e rm_X9_count s m args below meth c H locs 0 0 (MQ below (gw_Q (some (.int zr)) (gw_Pst D A (fun w => w = gw_mw cc a S)) A) args s 0 0 A) (F0 m 108 ls [.int t0_]) := by
    intro K55 hK55
    intro v1 v3 t0_ h H locs ls hI hl
    unfold f_X9_count_b108 at h
    refine lv_iconst (v := 0) hx hb dX9_count_108 (by decide) ?_
    exact hb109 K55 hK55 v1 v3 (0 : Int32) t0_ h _ _ _ hI (lv_sub hl [0, 1, 2] rfl)
  have hb104 : ∀ (K55 : Int32 → Int32 → Int32 → Option (Int32)) (_ : ∀ (v1 : Int32) (v2 : Int32) (v3 : Int32), K55 v1 v2 v3 = some zr → ∀ (H : Heap) (locs : List Loc) (ls : Array Slot), gw_I D A s.heap (gw_mw cc a S) H locs → lv_has ls 4 [(0, .ref (a 0)), (1, .int v1), (2, .int v2), (3, .int v3)] → W p l e rm_X9_count s m args below meth c H locs 0 0 (MQ below (gw_Q (some (.int zr)) (gw_Pst D A (fun w => w = gw_mw cc a S)) A) args s 0 0 A) (F0 m 55 ls [])), ∀ (v1 : Int32) (v3 : Int32) (t0_ : Int32), f_X9_count_b104 S K55 v1 v3 t0_ = some zr → ∀ (H : Heap) (locs : List Loc) (ls : Array Slot), gw_I D A s.heap (gw_mw cc a S) H locs → lv_has ls 4 [(0, .ref (a 0)), (1, .int v1), (3, .int v3)] → W p l e rm_X9_count s m args below meth c H locs 0 0 (MQ below (gw_Q (some (.int zr)) (gw_Pst D A (fun w => w = gw_mw cc a S)) A) args s 0 0 A) (F0 m 104 ls [.int t0_]) := by
    intro K55 hK55
    intro v1 v3 t0_ h H locs ls hI hl
    unfold f_X9_count_b104 at h
    refine lv_iconst (v := 1) hx hb dX9_count_104 (by decide) ?_
    refine lv_goto (tgt := 109) hx hb dX9_count_105 (by decide) ?_
    exact hb109 K55 hK55 v1 v3 (1 : Int32) t0_ h _ _ _ hI (lv_sub hl [0, 1, 2] rfl)
  have hb55 :  ∀ (n : Nat), ∀ (v1 : Int32) (v2 : Int32) (v3 : Int32), f_X9_count_b55 S  n v1 v2 v3 = some zr → ∀ (H : Heap) (locs : List Loc) (ls : Array Slot), gw_I D A s.heap (gw_mw cc a S) H locs → lv_has ls 4 [(0, .ref (a 0)), (1, .int v1), (2, .int v2), (3, .int v3)] → W p l e rm_X9_count s m args below meth c H locs 0 0 (MQ below (gw_Q (some (.int zr)) (gw_Pst D A (fun w => w = gw_mw cc a S)) A) args s 0 0 A) (F0 m 55 ls []) := by
    intro n
    induction n with
    | zero =>
      intro v1 v2 v3 h
      cases h
    | succ n ih =>
      intro v1 v2 v3 h H locs ls hI hl
      unfold f_X9_count_b55 at h
      refine lv_iload_n hx hb dX9_count_55 rfl (lv_at hl 3 rfl) ?_
      refine lv_aload_n hx hb dX9_count_56 rfl (lv_at hl 0 rfl) ?_
      refine gw_get (T := TX9) (k := 8) (v := .int (S 0 8)) B hI gm_g0 rfl ly_X9_count_9 (by decide) m_X9_count_203 rfl rfl dX9_count_57 ?_
      refine lv_icmp_ge (tgt := 117) hx hb dX9_count_60 (by decide) (fun c15 => ?_) (fun c15 => ?_)
      · replace h := gw_ifT c15 h
        refine lv_iload_n hx hb dX9_count_117 rfl (lv_at hl 2 rfl) ?_
        rw [← Option.some.inj h]
        exact gw_iret (W' := (fun w => w = gw_mw cc a S)) B hI rfl (Nat.zero_le _) (Nat.zero_le _) dX9_count_118
      · replace h := gw_ifF c15 h
        refine lv_iload_n hx hb dX9_count_63 rfl (lv_at hl 2 rfl) ?_
        refine lv_iload_n hx hb dX9_count_64 rfl (lv_at hl 1 rfl) ?_
        refine lv_bipush (v := 7) hx hb dX9_count_65 (by decide) ?_
        refine lv_icmp_ne (tgt := 79) hx hb dX9_count_67 (by decide) (fun c16 => ?_) (fun c16 => ?_)
        · replace h := gw_ifF c16 h
          refine lv_iload_n hx hb dX9_count_79 rfl (lv_at hl 1 rfl) ?_
          refine lv_iconst (v := 1) hx hb dX9_count_80 (by decide) ?_
          refine lv_icmp_ne (tgt := 95) hx hb dX9_count_81 (by decide) (fun c17 => ?_) (fun c17 => ?_)
          · replace h := gw_ifF c17 h
            refine lv_aload_n hx hb dX9_count_95 rfl (lv_at hl 0 rfl) ?_
            refine gw_get (T := TX9) (k := 19) (v := .ref (a 17)) B hI gm_g0 rfl ly_X9_count_9 (by decide) m_X9_count_59 rfl rfl dX9_count_96 ?_
            refine lv_iload_n hx hb dX9_count_99 rfl (lv_at hl 3 rfl) ?_
            obtain ⟨g18, h⟩ := gw_gdE h
            refine gw_zald (t0 := 2) B hI gm_g17 rfl g18 dX9_count_100 ?_
            refine lv_if_eq (tgt := 108) hx hb dX9_count_101 (by decide) (fun c19 => ?_) (fun c19 => ?_)
            · replace h := gw_ifT c19 h
              exact hb108 (f_X9_count_b55 S  n) ih v1 v3 v2 h _ _ _ hI (lv_sub hl [0, 1, 3] rfl)
            · replace h := gw_ifF c19 h
              exact hb104 (f_X9_count_b55 S  n) ih v1 v3 v2 h _ _ _ hI (lv_sub hl [0, 1, 3] rfl)
          · replace h := gw_ifT c17 h
            refine lv_aload_n hx hb dX9_count_84 rfl (lv_at hl 0 rfl) ?_
            refine lv_iload_n hx hb dX9_count_85 rfl (lv_at hl 3 rfl) ?_
            obtain ⟨r20, e21, h⟩ := gw_bdE h
            refine gw_callV (As := [.int v3]) (n := 1) B hI (k_X9_isRetired v3 S e21) gX9_count_X9_isRetired rfl rfl rfl nd_X9_isRetired ⟨Nat.le_of_ble_eq_true rfl, Nat.le_of_ble_eq_true rfl⟩ gm_g0 rfl rfl rfl hl.1 (by simp [gw_catq, gw_cI, gw_cR, gw_cL]) dX9_count_86 ⟨Nat.le_of_ble_eq_true rfl, Nat.le_of_ble_eq_true rfl⟩ rfl (fun w' H locs hw hI => ?_)
            subst hw
            refine lv_if_eq (tgt := 108) hx hb dX9_count_89 (by decide) (fun c22 => ?_) (fun c22 => ?_)
            · replace h := gw_ifT c22 h
              exact hb108 (f_X9_count_b55 S  n) ih v1 v3 v2 h _ _ _ hI (lv_sub hl [0, 1, 3] rfl)
            · replace h := gw_ifF c22 h
              refine lv_goto (tgt := 104) hx hb dX9_count_92 (by decide) ?_
              exact hb104 (f_X9_count_b55 S  n) ih v1 v3 v2 h _ _ _ hI (lv_sub hl [0, 1, 3] rfl)
        · replace h := gw_ifT c16 h
          refine lv_aload_n hx hb dX9_count_70 rfl (lv_at hl 0 rfl) ?_
          refine gw_get (T := TX9) (k := 17) (v := .ref (a 15)) B hI gm_g0 rfl ly_X9_count_9 (by decide) m_X9_count_52 rfl rfl dX9_count_71 ?_
          refine lv_iload_n hx hb dX9_count_74 rfl (lv_at hl 3 rfl) ?_
          obtain ⟨g23, h⟩ := gw_gdE h
          refine gw_iald (t0 := 0) B hI gm_g15 rfl g23 dX9_count_75 ?_
          refine lv_goto (tgt := 109) hx hb dX9_count_76 (by decide) ?_
          exact hb109 (f_X9_count_b55 S  n) ih v1 v3 (S 15 v3.toNatClampNeg) v2 h _ _ _ hI (lv_sub hl [0, 1, 3] rfl)
  have hb53 :  ∀ (v1 : Int32) (v2 : Int32), f_X9_count_b53 S  v1 v2 = some zr → ∀ (H : Heap) (locs : List Loc) (ls : Array Slot), gw_I D A s.heap (gw_mw cc a S) H locs → lv_has ls 4 [(0, .ref (a 0)), (1, .int v1), (2, .int v2)] → W p l e rm_X9_count s m args below meth c H locs 0 0 (MQ below (gw_Q (some (.int zr)) (gw_Pst D A (fun w => w = gw_mw cc a S)) A) args s 0 0 A) (F0 m 53 ls []) := by
    intro v1 v2 h H locs ls hI hl
    unfold f_X9_count_b53 at h
    refine lv_iconst (v := 0) hx hb dX9_count_53 (by decide) ?_
    refine lv_istore_n (lv' := [(3, .int (0 : Int32)), (0, .ref (a 0)), (1, .int v1), (2, .int v2)]) hx hb dX9_count_54 rfl hl (by decide) rfl (fun ls hl => ?_)
    exact hb55  gw_F v1 v2 (0 : Int32) h _ _ _ hI (lv_sub hl [1, 2, 3, 0] rfl)
  unfold f_X9_count at h
  refine lv_iconst (v := 0) hx hb dX9_count_0 (by decide) ?_
  refine lv_istore_n (lv' := [(2, .int (0 : Int32)), (0, .ref (a 0)), (1, .int x1)]) hx hb dX9_count_1 rfl hl (by decide) rfl (fun ls hl => ?_)
  refine lv_iload_n hx hb dX9_count_2 rfl (lv_at hl 2 rfl) ?_
  by_cases c24 : x1 = 0
  · replace h := gw_ifT c24 h
    refine gw_tabIn (k := 0) (off := 45) (tgt := 48) B c24 dX9_count_3 (by decide) (by decide) ?_
    refine lv_aload_n hx hb dX9_count_48 rfl (lv_at hl 1 rfl) ?_
    refine gw_get (T := TX9) (k := 8) (v := .int (S 0 8)) B hI gm_g0 rfl ly_X9_count_9 (by decide) m_X9_count_203 rfl rfl dX9_count_49 ?_
    rw [← Option.some.inj h]
    exact gw_iret (W' := (fun w => w = gw_mw cc a S)) B hI rfl (Nat.zero_le _) (Nat.zero_le _) dX9_count_52
  · replace h := gw_ifF c24 h
    by_cases c25 : x1 = 1
    · replace h := gw_ifT c25 h
      refine gw_tabIn (k := 1) (off := 50) (tgt := 53) B c25 dX9_count_3 (by decide) (by decide) ?_
      exact hb53  x1 (0 : Int32) h _ _ _ hI (lv_sub hl [1, 2, 0] rfl)
    · replace h := gw_ifF c25 h
      by_cases c26 : x1 = 2
      · replace h := gw_ifT c26 h
        refine gw_tabIn (k := 2) (off := 50) (tgt := 53) B c26 dX9_count_3 (by decide) (by decide) ?_
        exact hb53  x1 (0 : Int32) h _ _ _ hI (lv_sub hl [1, 2, 0] rfl)
      · replace h := gw_ifF c26 h
        by_cases c27 : x1 = 3
        · replace h := gw_ifT c27 h
          refine gw_tabIn (k := 3) (off := 116) (tgt := 119) B c27 dX9_count_3 (by decide) (by decide) ?_
          refine lv_aload_n hx hb dX9_count_119 rfl (lv_at hl 1 rfl) ?_
          refine gw_get (T := TX9) (k := 21) (v := .int (S 0 21)) B hI gm_g0 rfl ly_X9_count_9 (by decide) m_X9_count_221 rfl rfl dX9_count_120 ?_
          rw [← Option.some.inj h]
          exact gw_iret (W' := (fun w => w = gw_mw cc a S)) B hI rfl (Nat.zero_le _) (Nat.zero_le _) dX9_count_123
        · replace h := gw_ifF c27 h
          by_cases c28 : x1 = 4
          · replace h := gw_ifT c28 h
            refine gw_tabIn (k := 4) (off := 121) (tgt := 124) B c28 dX9_count_3 (by decide) (by decide) ?_
            refine lv_aload_n hx hb dX9_count_124 rfl (lv_at hl 1 rfl) ?_
            refine gw_get (T := TX9) (k := 29) (v := .int (S 0 29)) B hI gm_g0 rfl ly_X9_count_9 (by decide) m_X9_count_257 rfl rfl dX9_count_125 ?_
            rw [← Option.some.inj h]
            exact gw_iret (W' := (fun w => w = gw_mw cc a S)) B hI rfl (Nat.zero_le _) (Nat.zero_le _) dX9_count_128
          · replace h := gw_ifF c28 h
            by_cases c29 : x1 = 5
            · replace h := gw_ifT c29 h
              refine gw_tabIn (k := 5) (off := 126) (tgt := 129) B c29 dX9_count_3 (by decide) (by decide) ?_
              exact hb129  x1 (0 : Int32) h _ _ _ hI (lv_sub hl [1, 2, 0] rfl)
            · replace h := gw_ifF c29 h
              by_cases c30 : x1 = 6
              · replace h := gw_ifT c30 h
                refine gw_tabIn (k := 6) (off := 126) (tgt := 129) B c30 dX9_count_3 (by decide) (by decide) ?_
                exact hb129  x1 (0 : Int32) h _ _ _ hI (lv_sub hl [1, 2, 0] rfl)
              · replace h := gw_ifF c30 h
                by_cases c31 : x1 = 7
                · replace h := gw_ifT c31 h
                  refine gw_tabIn (k := 7) (off := 50) (tgt := 53) B c31 dX9_count_3 (by decide) (by decide) ?_
                  exact hb53  x1 (0 : Int32) h _ _ _ hI (lv_sub hl [1, 2, 0] rfl)
                · replace h := gw_ifF c31 h
                  refine lv_tableOut (tgt := 181) hx hb dX9_count_3 (gw_out8 c24 c25 c26 c27 c28 c29 c30 c31) (by decide) ?_
                  refine lv_iconst (v := -1) hx hb dX9_count_181 (by decide) ?_
                  rw [← Option.some.inj h]
                  exact gw_iret (W' := (fun w => w = gw_mw cc a S)) B hI rfl (Nat.zero_le _) (Nat.zero_le _) dX9_count_182
end
