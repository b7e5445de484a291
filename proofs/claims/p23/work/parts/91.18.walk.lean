section
/-! contracts: printed by wip/gen -/
section
variable {l : Launch} {D : va_G} {t1 t2 : Nat} {cc : Nat → ClassId} {a b d : Nat → Nat}
theorem m_X9_isTakenBy_131 : Cond.fieldLink RX9 131 "GownLetModel" "taken" "[I" ∈ wsX9_isTakenBy := by decide +kernel
theorem ly_X9_isTakenBy_9 : ∀ w ∈ wsX90, w ∈ wsX9_isTakenBy := fun w h => List.mem_cons_of_mem _ (List.mem_append_right _ h)
set_option maxRecDepth 100000 in
set_option maxHeartbeats 4000000 in
theorem k_X9_isTakenBy (x1 : Int32) (x2 : Int32) (S : gw_S) {zr : Int32} (h : f_X9_isTakenBy x1 x2 S = some zr) : gw_M l yX9_isTakenBy wsX9_isTakenBy rm_X9_isTakenBy 0 0 D (gw_ty cc) t1 t2 [.ref (a 0), .int x1, .int x2] (gw_mw cc a S) (fun w => w = gw_mw cc a S) (some (.int zr)) := by
  refine gw_enter (cc := cX9_isTakenBy) (maxL := 5) (ret := (some .boolean)) (own := RX9) rfl (by decide) rfl (Nat.le_of_ble_eq_true rfl) ?_
  intro p e s m below meth c A B hin hI ls hl
  have hl : lv_has ls 5 [(0, .ref (a 0)), (1, .int x1), (2, .int x2)] := hl
  generalize ([.ref (a 0), .int x1, .int x2] : List Value).toArray = args at B ⊢
  have hx := B.1.1
  have hb := B.1.2.1
  have hown : s.vm.findClass RX9 = some m.cls := B.1.2.2.2.1
  have hts := B.1.2.2.2.2
  have hb31 : ∀ (K5 : Int32 → Int32 → Int32 → Int32 → Option (Int32)) (_ : ∀ (v1 : Int32) (v2 : Int32) (v3 : Int32) (v4 : Int32), K5 v1 v2 v3 v4 = some zr → ∀ (H : Heap) (locs : List Loc) (ls : Array Slot), gw_I D A s.heap (gw_mw cc a S) H locs → lv_has ls 5 [(0, .ref (a 0)), (1, .int v1), (2, .int v2), (3, .int v3), (4, .int v4)] → W p l e rm_X9_isTakenBy s m args below meth c H locs 0 0 (MQ below (gw_Q (some (.int zr)) (gw_Pst D A (fun w => w = gw_mw cc a S)) A) args s 0 0 A) (F0 m 5 ls [])), ∀ (v1 : Int32) (v2 : Int32) (v4 : Int32) (t0_ : Int32), f_X9_isTakenBy_b31 S K5 v1 v2 v4 t0_ = some zr → ∀ (H : Heap) (locs : List Loc) (ls : Array Slot), gw_I D A s.heap (gw_mw cc a S) H locs → lv_has ls 5 [(0, .ref (a 0)), (1, .int v1), (2, .int v2), (4, .int v4)] → W p l e rm_X9_isTakenBy s m args below meth c H locs 0 0 (MQ below (gw_Q (some (.int zr)) (gw_Pst D A (fun w => w = gw_mw cc a S)) A) args s 0 0 A) (F0 m 31 ls [.int t0_]) := by
    intro K5 hK5
    intro v1 v2 v4 t0_ h H locs ls hI hl
    unfold f_X9_isTakenBy_b31 at h
    refine lv_istore_n (lv' := [(3, .int t0_), (0, .ref (a 0)), (1, .int v1), (2, .int v2), (4, .int v4)]) hx hb dX9_isTakenBy_31 rfl hl (by decide) rfl (fun ls hl => ?_)
    obtain ⟨y1, e2, h⟩ := gw_letE h
    refine lv_iinc (v := y1) (lv' := [(4, .int y1), (3, .int t0_), (0, .ref (a 0)), (1, .int v1), (2, .int v2)]) hx hb dX9_isTakenBy_32 hl (k := 4) rfl (by rw [e2]; rfl) (by decide) rfl (fun ls hl => ?_)
    refine lv_goto (tgt := 5) hx hb dX9_isTakenBy_35 (by decide) ?_
    exact hK5 v1 v2 t0_ y1 h _ _ _ hI (lv_sub hl [2, 3, 4, 1, 0] rfl)
  have hb26 : ∀ (K5 : Int32 → Int32 → Int32 → Int32 → Option (Int32)) (_ : ∀ (v1 : Int32) (v2 : Int32) (v3 : Int32) (v4 : Int32), K5 v1 v2 v3 v4 = some zr → ∀ (H : Heap) (locs : List Loc) (ls : Array Slot), gw_I D A s.heap (gw_mw cc a S) H locs → lv_has ls 5 [(0, .ref (a 0)), (1, .int v1), (2, .int v2), (3, .int v3), (4, .int v4)] → W p l e rm_X9_isTakenBy s m args below meth c H locs 0 0 (MQ below (gw_Q (some (.int zr)) (gw_Pst D A (fun w => w = gw_mw cc a S)) A) args s 0 0 A) (F0 m 5 ls [])), ∀ (v1 : Int32) (v2 : Int32) (v4 : Int32), f_X9_isTakenBy_b26 S K5 v1 v2 v4 = some zr → ∀ (H : Heap) (locs : List Loc) (ls : Array Slot), gw_I D A s.heap (gw_mw cc a S) H locs → lv_has ls 5 [(0, .ref (a 0)), (1, .int v1), (2, .int v2), (4, .int v4)] → W p l e rm_X9_isTakenBy s m args below meth c H locs 0 0 (MQ below (gw_Q (some (.int zr)) (gw_Pst D A (fun w => w = gw_mw cc a S)) A) args s 0 0 A) (F0 m 26 ls []) := by
    intro K5 hK5
    intro v1 v2 v4 h H locs ls hI hl
    unfold f_X9_isTakenBy_b26 at h
    refine lv_iconst (v := 1) hx hb dX9_isTakenBy_26 (by decide) ?_
    refine lv_goto (tgt := 31) hx hb dX9_isTakenBy_27 (by decide) ?_
    exact hb31 K5 hK5 v1 v2 v4 (1 : Int32) h _ _ _ hI (lv_sub hl [0, 1, 2, 3] rfl)
  have hb5 :  ∀ (n : Nat), ∀ (v1 : Int32) (v2 : Int32) (v3 : Int32) (v4 : Int32), f_X9_isTakenBy_b5 S  n v1 v2 v3 v4 = some zr → ∀ (H : Heap) (locs : List Loc) (ls : Array Slot), gw_I D A s.heap (gw_mw cc a S) H locs → lv_has ls 5 [(0, .ref (a 0)), (1, .int v1), (2, .int v2), (3, .int v3), (4, .int v4)] → W p l e rm_X9_isTakenBy s m args below meth c H locs 0 0 (MQ below (gw_Q (some (.int zr)) (gw_Pst D A (fun w => w = gw_mw cc a S)) A) args s 0 0 A) (F0 m 5 ls []) := by
    intro n
    induction n with
    | zero =>
      intro v1 v2 v3 v4 h
      cases h
    | succ n ih =>
      intro v1 v2 v3 v4 h H locs ls hI hl
      unfold f_X9_isTakenBy_b5 at h
      refine lv_iload hx hb dX9_isTakenBy_5 (lv_at hl 4 rfl) ?_
      refine lv_iload_n hx hb dX9_isTakenBy_7 rfl (lv_at hl 2 rfl) ?_
      refine lv_icmp_ge (tgt := 38) hx hb dX9_isTakenBy_8 (by decide) (fun c3 => ?_) (fun c3 => ?_)
      · replace h := gw_ifT c3 h
        refine lv_iload_n hx hb dX9_isTakenBy_38 rfl (lv_at hl 3 rfl) ?_
        obtain ⟨g4, h⟩ := gw_gdE h
        rw [← Option.some.inj h]
        exact gw_zret (W' := (fun w => w = gw_mw cc a S)) B hI rfl g4 (Nat.zero_le _) (Nat.zero_le _) dX9_isTakenBy_39
      · replace h := gw_ifF c3 h
        refine lv_iload_n hx hb dX9_isTakenBy_11 rfl (lv_at hl 3 rfl) ?_
        refine lv_if_ne (tgt := 26) hx hb dX9_isTakenBy_12 (by decide) (fun c5 => ?_) (fun c5 => ?_)
        · replace h := gw_ifF c5 h
          exact hb26 (f_X9_isTakenBy_b5 S  n) ih v1 v2 v4 h _ _ _ hI (lv_sub hl [0, 1, 2, 4] rfl)
        · replace h := gw_ifT c5 h
          refine lv_aload_n hx hb dX9_isTakenBy_15 rfl (lv_at hl 0 rfl) ?_
          refine gw_get (T := TX9) (k := 46) (v := .ref (a 41)) B hI gm_g0 rfl ly_X9_isTakenBy_9 (by decide) m_X9_isTakenBy_131 rfl rfl dX9_isTakenBy_16 ?_
          refine lv_iload hx hb dX9_isTakenBy_19 (lv_at hl 4 rfl) ?_
          obtain ⟨g6, h⟩ := gw_gdE h
          refine gw_iald (t0 := 0) B hI gm_g41 rfl g6 dX9_isTakenBy_21 ?_
          refine lv_iload_n hx hb dX9_isTakenBy_22 rfl (lv_at hl 1 rfl) ?_
          refine lv_icmp_ne (tgt := 30) hx hb dX9_isTakenBy_23 (by decide) (fun c7 => ?_) (fun c7 => ?_)
          · replace h := gw_ifF c7 h
            refine lv_iconst (v := 0) hx hb dX9_isTakenBy_30 (by decide) ?_
            exact hb31 (f_X9_isTakenBy_b5 S  n) ih v1 v2 v4 (0 : Int32) h _ _ _ hI (lv_sub hl [0, 1, 2, 4] rfl)
          · replace h := gw_ifT c7 h
            exact hb26 (f_X9_isTakenBy_b5 S  n) ih v1 v2 v4 h _ _ _ hI (lv_sub hl [0, 1, 2, 4] rfl)
  unfold f_X9_isTakenBy at h
  refine lv_iconst (v := 0) hx hb dX9_isTakenBy_0 (by decide) ?_
  refine lv_istore_n (lv' := [(3, .int (0 : Int32)), (0, .ref (a 0)), (1, .int x1), (2, .int x2)]) hx hb dX9_isTakenBy_1 rfl hl (by decide) rfl (fun ls hl => ?_)
  refine lv_iconst (v := 0) hx hb dX9_isTakenBy_2 (by decide) ?_
  refine lv_istore (lv' := [(4, .int (0 : Int32)), (3, .int (0 : Int32)), (0, .ref (a 0)), (1, .int x1), (2, .int x2)]) hx hb dX9_isTakenBy_3 hl (by decide) rfl (fun ls hl => ?_)
  exact hb5  gw_F x1 x2 (0 : Int32) (0 : Int32) h _ _ _ hI (lv_sub hl [2, 3, 4, 1, 0] rfl)
theorem m_X9_canTake_125 : Cond.fieldLink RX9 125 "GownLetModel" "far" "[I" ∈ wsX9_canTake := by decide +kernel
theorem m_X9_canTake_128 : Cond.fieldLink RX9 128 "GownLetModel" "chain" "[I" ∈ wsX9_canTake := by decide +kernel
theorem m_X9_canTake_83 : Cond.fieldLink RX9 83 "GownLetModel" "bodies" "[I" ∈ wsX9_canTake := by decide +kernel
theorem m_X9_canTake_86 : Cond.fieldLink RX9 86 "GownLetModel" "wanted" "[I" ∈ wsX9_canTake := by decide +kernel
theorem ly_X9_canTake_9 : ∀ w ∈ wsX90, w ∈ wsX9_canTake := fun w h => List.mem_cons_of_mem _ (List.mem_append_right _ h)
set_option maxRecDepth 100000 in
set_option maxHeartbeats 4000000 in
theorem k_X9_canTake (x1 : Int32) (x2 : Int32) (x3 : Int32) (S : gw_S) {zr : Int32} (h : f_X9_canTake x1 x2 x3 S = some zr) : gw_M l yX9_canTake wsX9_canTake rm_X9_canTake 0 0 D (gw_ty cc) t1 t2 [.ref (a 0), .int x1, .int x2, .int x3] (gw_mw cc a S) (fun w => w = gw_mw cc a S) (some (.int zr)) := by
  refine gw_enter (cc := cX9_canTake) (maxL := 6) (ret := (some .boolean)) (own := RX9) rfl (by decide) rfl (Nat.le_of_ble_eq_true rfl) ?_
  intro p e s m below meth c A B hin hI ls hl
  have hl : lv_has ls 6 [(0, .ref (a 0)), (1, .int x1), (2, .int x2), (3, .int x3)] := hl
  generalize ([.ref (a 0), .int x1, .int x2, .int x3] : List Value).toArray = args at B ⊢
  have hx := B.1.1
  have hb := B.1.2.1
  have hown : s.vm.findClass RX9 = some m.cls := B.1.2.2.2.1
  have hts := B.1.2.2.2.2
  unfold f_X9_canTake at h
  refine lv_aload_n hx hb dX9_canTake_0 rfl (lv_at hl 0 rfl) ?_
  refine gw_get (T := TX9) (k := 45) (v := .ref (a 40)) B hI gm_g0 rfl ly_X9_canTake_9 (by decide) m_X9_canTake_128 rfl rfl dX9_canTake_1 ?_
  refine lv_iload_n hx hb dX9_canTake_4 rfl (lv_at hl 2 rfl) ?_
  obtain ⟨g1, h⟩ := gw_gdE h
  refine gw_iald (t0 := 0) B hI gm_g40 rfl g1 dX9_canTake_5 ?_
  obtain ⟨y2, e3, h⟩ := gw_letE h
  rw [← e3]
  refine lv_istore (lv' := [(4, .int y2), (0, .ref (a 0)), (1, .int x1), (2, .int x2), (3, .int x3)]) hx hb dX9_canTake_6 hl (by decide) rfl (fun ls hl => ?_)
  refine lv_aload_n hx hb dX9_canTake_8 rfl (lv_at hl 1 rfl) ?_
  refine lv_iload_n hx hb dX9_canTake_9 rfl (lv_at hl 2 rfl) ?_
  refine lv_iload_n hx hb dX9_canTake_10 rfl (lv_at hl 3 rfl) ?_
  obtain ⟨r4, e5, h⟩ := gw_bdE h
  refine gw_callV (As := [.int x1, .int x2]) (n := 2) B hI (k_X9_isTakenBy x1 x2 S e5) gX9_canTake_X9_isTakenBy rfl rfl rfl nd_X9_isTakenBy ⟨Nat.le_of_ble_eq_true rfl, Nat.le_of_ble_eq_true rfl⟩ gm_g0 rfl rfl rfl hl.1 (Nat.zero_le _) dX9_canTake_11 ⟨Nat.le_of_ble_eq_true rfl, Nat.le_of_ble_eq_true rfl⟩ rfl (fun w' H locs hw hI => ?_)
  subst hw
  refine lv_if_eq (tgt := 19) hx hb dX9_canTake_14 (by decide) (fun c6 => ?_) (fun c6 => ?_)
  · replace h := gw_ifT c6 h
    refine lv_iload_n hx hb dX9_canTake_19 rfl (lv_at hl 3 rfl) ?_
    refine lv_iload_n hx hb dX9_canTake_20 rfl (lv_at hl 4 rfl) ?_
    refine lv_iconst (v := 1) hx hb dX9_canTake_21 (by decide) ?_
    refine lv_isub hx hb dX9_canTake_22 ?_
    refine lv_icmp_ne (tgt := 65) hx hb dX9_canTake_23 (by decide) (fun c7 => ?_) (fun c7 => ?_)
    · replace h := gw_ifF c7 h
      refine lv_aload_n hx hb dX9_canTake_65 rfl (lv_at hl 1 rfl) ?_
      refine lv_iload_n hx hb dX9_canTake_66 rfl (lv_at hl 2 rfl) ?_
      refine lv_iload hx hb dX9_canTake_67 (lv_at hl 0 rfl) ?_
      obtain ⟨r8, e9, h⟩ := gw_bdE h
      refine gw_callV (As := [.int x1, .int y2]) (n := 2) B hI (k_X9_fromWhom x1 y2 S e9) gX9_canTake_X9_fromWhom rfl rfl rfl nd_X9_fromWhom ⟨Nat.le_of_ble_eq_true rfl, Nat.le_of_ble_eq_true rfl⟩ gm_g0 rfl rfl rfl hl.1 (Nat.zero_le _) dX9_canTake_69 ⟨Nat.le_of_ble_eq_true rfl, Nat.le_of_ble_eq_true rfl⟩ rfl (fun w' H locs hw hI => ?_)
      subst hw
      refine lv_istore (lv' := [(5, .int r8), (4, .int y2), (0, .ref (a 0)), (1, .int x1), (2, .int x2), (3, .int x3)]) hx hb dX9_canTake_72 hl (by decide) rfl (fun ls hl => ?_)
      refine lv_iload hx hb dX9_canTake_74 (lv_at hl 0 rfl) ?_
      refine lv_if_lt (tgt := 108) hx hb dX9_canTake_76 (by decide) (fun c10 => ?_) (fun c10 => ?_)
      · replace h := gw_ifT c10 h
        refine lv_iconst (v := 0) hx hb dX9_canTake_108 (by decide) ?_
        rw [← Option.some.inj h]
        exact gw_zret (W' := (fun w => w = gw_mw cc a S)) B hI rfl (Or.inl rfl) (Nat.zero_le _) (Nat.zero_le _) dX9_canTake_109
      · replace h := gw_ifF c10 h
        refine lv_aload_n hx hb dX9_canTake_79 rfl (lv_at hl 2 rfl) ?_
        refine lv_iload hx hb dX9_canTake_80 (lv_at hl 0 rfl) ?_
        refine lv_iload_n hx hb dX9_canTake_82 rfl (lv_at hl 4 rfl) ?_
        obtain ⟨r11, e12, h⟩ := gw_bdE h
        refine gw_callV (As := [.int r8, .int x2]) (n := 2) B hI (k_X9_isInChain r8 x2 S e12) gX9_canTake_X9_isInChain rfl rfl rfl nd_X9_isInChain ⟨Nat.le_of_ble_eq_true rfl, Nat.le_of_ble_eq_true rfl⟩ gm_g0 rfl rfl rfl hl.1 (Nat.zero_le _) dX9_canTake_83 ⟨Nat.le_of_ble_eq_true rfl, Nat.le_of_ble_eq_true rfl⟩ rfl (fun w' H locs hw hI => ?_)
        subst hw
        refine lv_if_ne (tgt := 108) hx hb dX9_canTake_86 (by decide) (fun c13 => ?_) (fun c13 => ?_)
        · replace h := gw_ifF c13 h
          refine lv_iconst (v := 0) hx hb dX9_canTake_108 (by decide) ?_
          rw [← Option.some.inj h]
          exact gw_zret (W' := (fun w => w = gw_mw cc a S)) B hI rfl (Or.inl rfl) (Nat.zero_le _) (Nat.zero_le _) dX9_canTake_109
        · replace h := gw_ifT c13 h
          refine lv_aload_n hx hb dX9_canTake_89 rfl (lv_at hl 2 rfl) ?_
          refine gw_get (T := TX9) (k := 44) (v := .ref (a 39)) B hI gm_g0 rfl ly_X9_canTake_9 (by decide) m_X9_canTake_125 rfl rfl dX9_canTake_90 ?_
          refine lv_iload hx hb dX9_canTake_93 (lv_at hl 0 rfl) ?_
          obtain ⟨g14, h⟩ := gw_gdE h
          refine gw_iald (t0 := 0) B hI gm_g39 rfl g14 dX9_canTake_95 ?_
          refine lv_iload_n hx hb dX9_canTake_96 rfl (lv_at hl 5 rfl) ?_
          refine lv_iconst (v := 1) hx hb dX9_canTake_97 (by decide) ?_
          refine lv_isub hx hb dX9_canTake_98 ?_
          refine lv_iload_n hx hb dX9_canTake_99 rfl (lv_at hl 4 rfl) ?_
          refine lv_isub hx hb dX9_canTake_100 ?_
          refine lv_icmp_gt (tgt := 108) hx hb dX9_canTake_101 (by decide) (fun c15 => ?_) (fun c15 => ?_)
          · replace h := gw_ifT c15 h
            refine lv_iconst (v := 0) hx hb dX9_canTake_108 (by decide) ?_
            rw [← Option.some.inj h]
            exact gw_zret (W' := (fun w => w = gw_mw cc a S)) B hI rfl (Or.inl rfl) (Nat.zero_le _) (Nat.zero_le _) dX9_canTake_109
          · replace h := gw_ifF c15 h
            refine lv_iconst (v := 1) hx hb dX9_canTake_104 (by decide) ?_
            refine lv_goto (tgt := 109) hx hb dX9_canTake_105 (by decide) ?_
            rw [← Option.some.inj h]
            exact gw_zret (W' := (fun w => w = gw_mw cc a S)) B hI rfl (Or.inr rfl) (Nat.zero_le _) (Nat.zero_le _) dX9_canTake_109
    · replace h := gw_ifT c7 h
      refine lv_aload_n hx hb dX9_canTake_26 rfl (lv_at hl 1 rfl) ?_
      refine lv_iload_n hx hb dX9_canTake_27 rfl (lv_at hl 2 rfl) ?_
      refine lv_aload_n hx hb dX9_canTake_28 rfl (lv_at hl 1 rfl) ?_
      refine gw_get (T := TX9) (k := 30) (v := .ref (a 25)) B hI gm_g0 rfl ly_X9_canTake_9 (by decide) m_X9_canTake_83 rfl rfl dX9_canTake_29 ?_
      refine lv_iload hx hb dX9_canTake_32 (lv_at hl 0 rfl) ?_
      obtain ⟨g16, h⟩ := gw_gdE h
      refine gw_iald (t0 := 0) B hI gm_g25 rfl g16 dX9_canTake_34 ?_
      refine lv_aload_n hx hb dX9_canTake_35 rfl (lv_at hl 1 rfl) ?_
      refine gw_get (T := TX9) (k := 31) (v := .ref (a 26)) B hI gm_g0 rfl ly_X9_canTake_9 (by decide) m_X9_canTake_86 rfl rfl dX9_canTake_36 ?_
      refine lv_iload hx hb dX9_canTake_39 (lv_at hl 0 rfl) ?_
      refine gw_iald (t0 := 0) B hI gm_g26 rfl g16 dX9_canTake_41 ?_
      obtain ⟨r17, e18, h⟩ := gw_bdE h
      refine gw_callV (As := [.int x1, .int (S 25 y2.toNatClampNeg), .int (S 26 y2.toNatClampNeg)]) (n := 3) B hI (k_X9_fitOf x1 (S 25 y2.toNatClampNeg) (S 26 y2.toNatClampNeg) S e18) gX9_canTake_X9_fitOf rfl rfl rfl nd_X9_fitOf ⟨Nat.le_of_ble_eq_true rfl, Nat.le_of_ble_eq_true rfl⟩ gm_g0 rfl rfl rfl hl.1 (Nat.zero_le _) dX9_canTake_42 ⟨Nat.le_of_ble_eq_true rfl, Nat.le_of_ble_eq_true rfl⟩ rfl (fun w' H locs hw hI => ?_)
      subst hw
      refine lv_iconst (v := 2) hx hb dX9_canTake_45 (by decide) ?_
      refine lv_icmp_ne (tgt := 63) hx hb dX9_canTake_46 (by decide) (fun c19 => ?_) (fun c19 => ?_)
      · replace h := gw_ifF c19 h
        refine lv_iconst (v := 0) hx hb dX9_canTake_63 (by decide) ?_
        rw [← Option.some.inj h]
        exact gw_zret (W' := (fun w => w = gw_mw cc a S)) B hI rfl (Or.inl rfl) (Nat.zero_le _) (Nat.zero_le _) dX9_canTake_64
      · replace h := gw_ifT c19 h
        refine lv_aload_n hx hb dX9_canTake_49 rfl (lv_at hl 1 rfl) ?_
        refine lv_iload_n hx hb dX9_canTake_50 rfl (lv_at hl 2 rfl) ?_
        refine lv_iload hx hb dX9_canTake_51 (lv_at hl 0 rfl) ?_
        obtain ⟨r20, e21, h⟩ := gw_bdE h
        refine gw_callV (As := [.int x1, .int y2]) (n := 2) B hI (k_X9_isFree x1 y2 S e21) gX9_canTake_X9_isFree rfl rfl rfl nd_X9_isFree ⟨Nat.le_of_ble_eq_true rfl, Nat.le_of_ble_eq_true rfl⟩ gm_g0 rfl rfl rfl hl.1 (Nat.zero_le _) dX9_canTake_53 ⟨Nat.le_of_ble_eq_true rfl, Nat.le_of_ble_eq_true rfl⟩ rfl (fun w' H locs hw hI => ?_)
        subst hw
        refine lv_if_eq (tgt := 63) hx hb dX9_canTake_56 (by decide) (fun c22 => ?_) (fun c22 => ?_)
        · replace h := gw_ifT c22 h
          refine lv_iconst (v := 0) hx hb dX9_canTake_63 (by decide) ?_
          rw [← Option.some.inj h]
          exact gw_zret (W' := (fun w => w = gw_mw cc a S)) B hI rfl (Or.inl rfl) (Nat.zero_le _) (Nat.zero_le _) dX9_canTake_64
        · replace h := gw_ifF c22 h
          refine lv_iconst (v := 1) hx hb dX9_canTake_59 (by decide) ?_
          refine lv_goto (tgt := 64) hx hb dX9_canTake_60 (by decide) ?_
          rw [← Option.some.inj h]
          exact gw_zret (W' := (fun w => w = gw_mw cc a S)) B hI rfl (Or.inr rfl) (Nat.zero_le _) (Nat.zero_le _) dX9_canTake_64
  · replace h := gw_ifF c6 h
    refine lv_iconst (v := 0) hx hb dX9_canTake_17 (by decide) ?_
    rw [← Option.some.inj h]
    exact gw_zret (W' := (fun w => w = gw_mw cc a S)) B hI rfl (Or.inl rfl) (Nat.zero_le _) (Nat.zero_le _) dX9_canTake_18
theorem m_X9_findChainOf_128 : Cond.fieldLink RX9 128 "GownLetModel" "chain" "[I" ∈ wsX9_findChainOf := by decide +kernel
theorem m_X9_findChainOf_131 : Cond.fieldLink RX9 131 "GownLetModel" "taken" "[I" ∈ wsX9_findChainOf := by decide +kernel
theorem m_X9_findChainOf_203 : Cond.fieldLink RX9 203 "GownLetModel" "pieces" "I" ∈ wsX9_findChainOf := by decide +kernel
theorem ly_X9_findChainOf_9 : ∀ w ∈ wsX90, w ∈ wsX9_findChainOf := fun w h => List.mem_cons_of_mem _ (List.mem_append_right _ h)
set_option maxRecDepth 100000 in
set_option maxHeartbeats 4000000 in
theorem k_X9_findChainOf (x1 : Int32) (x2 : Int32) (S : gw_S) {zr : Int32} {zS : gw_S} (h : f_X9_findChainOf x1 x2 S = some (zr, zS)) : gw_M l yX9_findChainOf wsX9_findChainOf rm_X9_findChainOf 0 0 D (gw_ty cc) t1 t2 [.ref (a 0), .int x1, .int x2] (gw_mw cc a S) (fun w => w = gw_mw cc a zS) (some (.int zr)) := by
  refine gw_enter (cc := cX9_findChainOf) (maxL := 6) (ret := (some .boolean)) (own := RX9) rfl (by decide) rfl (Nat.le_of_ble_eq_true rfl) ?_
  intro p e s m below meth c A B hin hI ls hl
  have hl : lv_has ls 6 [(0, .ref (a 0)), (1, .int x1), (2, .int x2)] := hl
  generalize ([.ref (a 0), .int x1, .int x2] : List Value).toArray = args at B ⊢
  have hx := B.1.1
  have hb := B.1.2.1
  have hown : s.vm.findClass RX9 = some m.cls := B.1.2.2.2.1
  have hts := B.1.2.2.2.2
  have hb126 :  ∀ (v2 : Int32) (v3 : Int32) (S : gw_S), f_X9_findChainOf_b126  v2 v3 S = some (zr, zS) → ∀ (H : Heap) (locs : List Loc) (ls : Array Slot), gw_I D A s.heap (gw_mw cc a S) H locs → lv_has ls 6 [(2, .int v2), (3, .int v3)] → W p l e rm_X9_findChainOf s m args below meth c H locs 0 0 (MQ below (gw_Q (some (.int zr)) (gw_Pst D A (fun w => w = gw_mw cc a zS)) A) args s 0 0 A) (F0 m 126 ls []) := by
    intro v2 v3 S h H locs ls hI hl
    unfold f_X9_findChainOf_b126 at h
    refine lv_iload_n hx hb dX9_findChainOf_126 rfl (lv_at hl 1 rfl) ?_
    refine lv_iload_n hx hb dX9_findChainOf_127 rfl (lv_at hl 0 rfl) ?_
    refine lv_icmp_ne (tgt := 135) hx hb dX9_findChainOf_128 (by decide) (fun c1 => ?_) (fun c1 => ?_)
    · replace h := gw_ifF c1 h
      refine lv_iconst (v := 0) hx hb dX9_findChainOf_135 (by decide) ?_
      obtain ⟨h1, h2⟩ := Prod.mk.inj (Option.some.inj h)
      rw [h2] at hI
      rw [← h1]
      exact gw_zret (W' := (fun w => w = gw_mw cc a zS)) B hI rfl (Or.inl rfl) (Nat.zero_le _) (Nat.zero_le _) dX9_findChainOf_136
    · replace h := gw_ifT c1 h
      refine lv_iconst (v := 1) hx hb dX9_findChainOf_131 (by decide) ?_
      refine lv_goto (tgt := 136) hx hb dX9_findChainOf_132 (by decide) ?_
      obtain ⟨h1, h2⟩ := Prod.mk.inj (Option.some.inj h)
      rw [h2] at hI
      rw [← h1]
      exact gw_zret (W' := (fun w => w = gw_mw cc a zS)) B hI rfl (Or.inr rfl) (Nat.zero_le _) (Nat.zero_le _) dX9_findChainOf_136
  have hb123 : ∀ (K12 : Int32 → Int32 → Int32 → gw_S → Option (Int32 × gw_S)) (_ : ∀ (v2 : Int32) (v3 : Int32) (v4 : Int32) (S : gw_S), K12 v2 v3 v4 S = some (zr, zS) → ∀ (H : Heap) (locs : List Loc) (ls : Array Slot), gw_I D A s.heap (gw_mw cc a S) H locs → lv_has ls 6 [(0, .ref (a 0)), (2, .int v2), (3, .int v3), (4, .int v4)] → W p l e rm_X9_findChainOf s m args below meth c H locs 0 0 (MQ below (gw_Q (some (.int zr)) (gw_Pst D A (fun w => w = gw_mw cc a zS)) A) args s 0 0 A) (F0 m 12 ls [])), ∀ (v2 : Int32) (v3 : Int32) (v4 : Int32) (S : gw_S), f_X9_findChainOf_b123 K12 v2 v3 v4 S = some (zr, zS) → ∀ (H : Heap) (locs : List Loc) (ls : Array Slot), gw_I D A s.heap (gw_mw cc a S) H locs → lv_has ls 6 [(0, .ref (a 0)), (2, .int v2), (3, .int v3), (4, .int v4)] → W p l e rm_X9_findChainOf s m args below meth c H locs 0 0 (MQ below (gw_Q (some (.int zr)) (gw_Pst D A (fun w => w = gw_mw cc a zS)) A) args s 0 0 A) (F0 m 123 ls []) := by
    intro K12 hK12
    intro v2 v3 v4 S h H locs ls hI hl
    unfold f_X9_findChainOf_b123 at h
    refine lv_goto (tgt := 12) hx hb dX9_findChainOf_123 (by decide) ?_
    exact hK12 v2 v3 v4 S h _ _ _ hI (lv_sub hl [0, 1, 2, 3] rfl)
  have hb121 : ∀ (K12 : Int32 → Int32 → Int32 → gw_S → Option (Int32 × gw_S)) (_ : ∀ (v2 : Int32) (v3 : Int32) (v4 : Int32) (S : gw_S), K12 v2 v3 v4 S = some (zr, zS) → ∀ (H : Heap) (locs : List Loc) (ls : Array Slot), gw_I D A s.heap (gw_mw cc a S) H locs → lv_has ls 6 [(0, .ref (a 0)), (2, .int v2), (3, .int v3), (4, .int v4)] → W p l e rm_X9_findChainOf s m args below meth c H locs 0 0 (MQ below (gw_Q (some (.int zr)) (gw_Pst D A (fun w => w = gw_mw cc a zS)) A) args s 0 0 A) (F0 m 12 ls [])), ∀ (v2 : Int32) (v3 : Int32) (t0_ : Int32) (S : gw_S), f_X9_findChainOf_b121 K12 v2 v3 t0_ S = some (zr, zS) → ∀ (H : Heap) (locs : List Loc) (ls : Array Slot), gw_I D A s.heap (gw_mw cc a S) H locs → lv_has ls 6 [(0, .ref (a 0)), (2, .int v2), (3, .int v3)] → W p l e rm_X9_findChainOf s m args below meth c H locs 0 0 (MQ below (gw_Q (some (.int zr)) (gw_Pst D A (fun w => w = gw_mw cc a zS)) A) args s 0 0 A) (F0 m 121 ls [.int t0_]) := by
    intro K12 hK12
    intro v2 v3 t0_ S h H locs ls hI hl
    unfold f_X9_findChainOf_b121 at h
    refine lv_istore (lv' := [(4, .int t0_), (0, .ref (a 0)), (2, .int v2), (3, .int v3)]) hx hb dX9_findChainOf_121 hl (by decide) rfl (fun ls hl => ?_)
    exact hb123 K12 hK12 v2 v3 t0_ S h _ _ _ hI (lv_sub hl [1, 2, 3, 0] rfl)
  have hb96 : ∀ (K12 : Int32 → Int32 → Int32 → gw_S → Option (Int32 × gw_S)) (_ : ∀ (v2 : Int32) (v3 : Int32) (v4 : Int32) (S : gw_S), K12 v2 v3 v4 S = some (zr, zS) → ∀ (H : Heap) (locs : List Loc) (ls : Array Slot), gw_I D A s.heap (gw_mw cc a S) H locs → lv_has ls 6 [(0, .ref (a 0)), (2, .int v2), (3, .int v3), (4, .int v4)] → W p l e rm_X9_findChainOf s m args below meth c H locs 0 0 (MQ below (gw_Q (some (.int zr)) (gw_Pst D A (fun w => w = gw_mw cc a zS)) A) args s 0 0 A) (F0 m 12 ls [])), ∀ (v2 : Int32) (v3 : Int32) (S : gw_S), f_X9_findChainOf_b96 K12 v2 v3 S = some (zr, zS) → ∀ (H : Heap) (locs : List Loc) (ls : Array Slot), gw_I D A s.heap (gw_mw cc a S) H locs → lv_has ls 6 [(0, .ref (a 0)), (2, .int v2), (3, .int v3)] → W p l e rm_X9_findChainOf s m args below meth c H locs 0 0 (MQ below (gw_Q (some (.int zr)) (gw_Pst D A (fun w => w = gw_mw cc a zS)) A) args s 0 0 A) (F0 m 96 ls []) := by
    intro K12 hK12
    intro v2 v3 S h H locs ls hI hl
    unfold f_X9_findChainOf_b96 at h
    refine lv_iconst (v := 0) hx hb dX9_findChainOf_96 (by decide) ?_
    refine lv_istore (lv' := [(4, .int (0 : Int32)), (0, .ref (a 0)), (2, .int v2), (3, .int v3)]) hx hb dX9_findChainOf_97 hl (by decide) rfl (fun ls hl => ?_)
    refine lv_goto (tgt := 123) hx hb dX9_findChainOf_99 (by decide) ?_
    exact hb123 K12 hK12 v2 v3 (0 : Int32) S h _ _ _ hI (lv_sub hl [1, 2, 3, 0] rfl)
  have hb51 : ∀ (K12 : Int32 → Int32 → Int32 → gw_S → Option (Int32 × gw_S)) (_ : ∀ (v2 : Int32) (v3 : Int32) (v4 : Int32) (S : gw_S), K12 v2 v3 v4 S = some (zr, zS) → ∀ (H : Heap) (locs : List Loc) (ls : Array Slot), gw_I D A s.heap (gw_mw cc a S) H locs → lv_has ls 6 [(0, .ref (a 0)), (2, .int v2), (3, .int v3), (4, .int v4)] → W p l e rm_X9_findChainOf s m args below meth c H locs 0 0 (MQ below (gw_Q (some (.int zr)) (gw_Pst D A (fun w => w = gw_mw cc a zS)) A) args s 0 0 A) (F0 m 12 ls [])), ∀ (v2 : Int32) (v3 : Int32) (v5 : Int32) (S : gw_S), f_X9_findChainOf_b51 K12 v2 v3 v5 S = some (zr, zS) → ∀ (H : Heap) (locs : List Loc) (ls : Array Slot), gw_I D A s.heap (gw_mw cc a S) H locs → lv_has ls 6 [(0, .ref (a 0)), (2, .int v2), (3, .int v3), (5, .int v5)] → W p l e rm_X9_findChainOf s m args below meth c H locs 0 0 (MQ below (gw_Q (some (.int zr)) (gw_Pst D A (fun w => w = gw_mw cc a zS)) A) args s 0 0 A) (F0 m 51 ls []) := by
    intro K12 hK12
    intro v2 v3 v5 S h H locs ls hI hl
    unfold f_X9_findChainOf_b51 at h
    refine lv_iload hx hb dX9_findChainOf_51 (lv_at hl 3 rfl) ?_
    refine lv_aload_n hx hb dX9_findChainOf_53 rfl (lv_at hl 0 rfl) ?_
    refine gw_get (T := TX9) (k := 8) (v := .int (S 0 8)) B hI gm_g0 rfl ly_X9_findChainOf_9 (by decide) m_X9_findChainOf_203 rfl rfl dX9_findChainOf_54 ?_
    refine lv_icmp_ge (tgt := 102) hx hb dX9_findChainOf_57 (by decide) (fun c2 => ?_) (fun c2 => ?_)
    · replace h := gw_ifT c2 h
      obtain ⟨y3, e4, h⟩ := gw_letE h
      refine lv_iinc (v := y3) (lv' := [(3, .int y3), (0, .ref (a 0)), (2, .int v2), (5, .int v5)]) hx hb dX9_findChainOf_102 hl (k := 2) rfl (by rw [e4]; rfl) (by decide) rfl (fun ls hl => ?_)
      refine lv_iload_n hx hb dX9_findChainOf_105 rfl (lv_at hl 0 rfl) ?_
      refine lv_if_lt (tgt := 120) hx hb dX9_findChainOf_106 (by decide) (fun c5 => ?_) (fun c5 => ?_)
      · replace h := gw_ifT c5 h
        refine lv_iconst (v := 0) hx hb dX9_findChainOf_120 (by decide) ?_
        exact hb121 K12 hK12 v2 y3 (0 : Int32) S h _ _ _ hI (lv_sub hl [1, 2, 0] rfl)
      · replace h := gw_ifF c5 h
        refine lv_aload_n hx hb dX9_findChainOf_109 rfl (lv_at hl 1 rfl) ?_
        refine gw_get (T := TX9) (k := 46) (v := .ref (a 41)) B hI gm_g0 rfl ly_X9_findChainOf_9 (by decide) m_X9_findChainOf_131 rfl rfl dX9_findChainOf_110 ?_
        refine lv_iload_n hx hb dX9_findChainOf_113 rfl (lv_at hl 0 rfl) ?_
        obtain ⟨g6, h⟩ := gw_gdE h
        refine gw_iald (t0 := 0) B hI gm_g41 rfl g6 dX9_findChainOf_114 ?_
        refine lv_iconst (v := 1) hx hb dX9_findChainOf_115 (by decide) ?_
        refine lv_iadd hx hb dX9_findChainOf_116 ?_
        refine lv_goto (tgt := 121) hx hb dX9_findChainOf_117 (by decide) ?_
        exact hb121 K12 hK12 v2 y3 ((S 41 y3.toNatClampNeg) + (1 : Int32)) S h _ _ _ hI (lv_sub hl [1, 2, 0] rfl)
    · replace h := gw_ifF c2 h
      refine lv_aload_n hx hb dX9_findChainOf_60 rfl (lv_at hl 0 rfl) ?_
      refine gw_get (T := TX9) (k := 46) (v := .ref (a 41)) B hI gm_g0 rfl ly_X9_findChainOf_9 (by decide) m_X9_findChainOf_131 rfl rfl dX9_findChainOf_61 ?_
      refine lv_iload_n hx hb dX9_findChainOf_64 rfl (lv_at hl 2 rfl) ?_
      refine lv_iload hx hb dX9_findChainOf_65 (lv_at hl 3 rfl) ?_
      obtain ⟨g7, h⟩ := gw_gdE h
      obtain ⟨S8, e9, h⟩ := gw_letE h
      refine gw_iast (t0 := 0) (w' := gw_mw cc a S8) B hI gm_g41 rfl g7 (gm_s41 e9) dX9_findChainOf_67 (fun H locs hI => ?_)
      obtain ⟨y10, e11, h⟩ := gw_letE h
      refine lv_iinc (v := y10) (lv' := [(3, .int y10), (0, .ref (a 0)), (2, .int v2), (5, .int v5)]) hx hb dX9_findChainOf_68 hl (k := 2) rfl (by rw [e11]; rfl) (by decide) rfl (fun ls hl => ?_)
      refine lv_iload_n hx hb dX9_findChainOf_71 rfl (lv_at hl 0 rfl) ?_
      refine lv_iload_n hx hb dX9_findChainOf_72 rfl (lv_at hl 2 rfl) ?_
      refine lv_icmp_ge (tgt := 96) hx hb dX9_findChainOf_73 (by decide) (fun c12 => ?_) (fun c12 => ?_)
      · replace h := gw_ifT c12 h
        exact hb96 K12 hK12 v2 y10 S8 h _ _ _ hI (lv_sub hl [1, 2, 0] rfl)
      · replace h := gw_ifF c12 h
        refine lv_aload_n hx hb dX9_findChainOf_76 rfl (lv_at hl 1 rfl) ?_
        refine gw_get (T := TX9) (k := 45) (v := .ref (a 40)) B hI gm_g0 rfl ly_X9_findChainOf_9 (by decide) m_X9_findChainOf_128 rfl rfl dX9_findChainOf_77 ?_
        refine lv_iload_n hx hb dX9_findChainOf_80 rfl (lv_at hl 0 rfl) ?_
        refine lv_aload_n hx hb dX9_findChainOf_81 rfl (lv_at hl 1 rfl) ?_
        refine lv_iload hx hb dX9_findChainOf_82 (lv_at hl 3 rfl) ?_
        refine lv_aload_n hx hb dX9_findChainOf_84 rfl (lv_at hl 1 rfl) ?_
        refine gw_get (T := TX9) (k := 45) (v := .ref (a 40)) B hI gm_g0 rfl ly_X9_findChainOf_9 (by decide) m_X9_findChainOf_128 rfl rfl dX9_findChainOf_85 ?_
        refine lv_iload_n hx hb dX9_findChainOf_88 rfl (lv_at hl 0 rfl) ?_
        refine lv_iconst (v := 1) hx hb dX9_findChainOf_89 (by decide) ?_
        refine lv_isub hx hb dX9_findChainOf_90 ?_
        obtain ⟨g13, h⟩ := gw_gdE h
        refine gw_iald (t0 := 0) B hI gm_g40 rfl g13 dX9_findChainOf_91 ?_
        obtain ⟨r14, e15, h⟩ := gw_bdE h
        refine gw_callV (As := [.int v5, .int (S8 40 (y10 - (1 : Int32)).toNatClampNeg)]) (n := 2) B hI (k_X9_fromWhom v5 (S8 40 (y10 - (1 : Int32)).toNatClampNeg) S8 e15) gX9_findChainOf_X9_fromWhom rfl rfl rfl nd_X9_fromWhom ⟨Nat.le_of_ble_eq_true rfl, Nat.le_of_ble_eq_true rfl⟩ gm_g0 rfl rfl rfl hl.1 (by simp [gw_catq, gw_cI, gw_cR, gw_cL]) dX9_findChainOf_92 ⟨Nat.le_of_ble_eq_true rfl, Nat.le_of_ble_eq_true rfl⟩ rfl (fun w' H locs hw hI => ?_)
        subst hw
        obtain ⟨g16, h⟩ := gw_gdE h
        obtain ⟨S17, e18, h⟩ := gw_letE h
        refine gw_iast (t0 := 0) (w' := gw_mw cc a S17) B hI gm_g40 rfl g16 (gm_s40 e18) dX9_findChainOf_95 (fun H locs hI => ?_)
        exact hb96 K12 hK12 v2 y10 S17 h _ _ _ hI (lv_sub hl [1, 2, 0] rfl)
  have hb25 : ∀ (K12 : Int32 → Int32 → Int32 → gw_S → Option (Int32 × gw_S)) (_ : ∀ (v2 : Int32) (v3 : Int32) (v4 : Int32) (S : gw_S), K12 v2 v3 v4 S = some (zr, zS) → ∀ (H : Heap) (locs : List Loc) (ls : Array Slot), gw_I D A s.heap (gw_mw cc a S) H locs → lv_has ls 6 [(0, .ref (a 0)), (2, .int v2), (3, .int v3), (4, .int v4)] → W p l e rm_X9_findChainOf s m args below meth c H locs 0 0 (MQ below (gw_Q (some (.int zr)) (gw_Pst D A (fun w => w = gw_mw cc a zS)) A) args s 0 0 A) (F0 m 12 ls [])), ∀ (n : Nat), ∀ (v2 : Int32) (v3 : Int32) (v5 : Int32) (S : gw_S), f_X9_findChainOf_b25 K12 n v2 v3 v5 S = some (zr, zS) → ∀ (H : Heap) (locs : List Loc) (ls : Array Slot), gw_I D A s.heap (gw_mw cc a S) H locs → lv_has ls 6 [(0, .ref (a 0)), (2, .int v2), (3, .int v3), (5, .int v5)] → W p l e rm_X9_findChainOf s m args below meth c H locs 0 0 (MQ below (gw_Q (some (.int zr)) (gw_Pst D A (fun w => w = gw_mw cc a zS)) A) args s 0 0 A) (F0 m 25 ls []) := by
    intro K12 hK12
    intro n
    induction n with
    | zero =>
      intro v2 v3 v5 S h
      cases h
    | succ n ih =>
      intro v2 v3 v5 S h H locs ls hI hl
      unfold f_X9_findChainOf_b25 at h
      refine lv_iload hx hb dX9_findChainOf_25 (lv_at hl 3 rfl) ?_
      refine lv_aload_n hx hb dX9_findChainOf_27 rfl (lv_at hl 0 rfl) ?_
      refine gw_get (T := TX9) (k := 8) (v := .int (S 0 8)) B hI gm_g0 rfl ly_X9_findChainOf_9 (by decide) m_X9_findChainOf_203 rfl rfl dX9_findChainOf_28 ?_
      refine lv_icmp_ge (tgt := 51) hx hb dX9_findChainOf_31 (by decide) (fun c19 => ?_) (fun c19 => ?_)
      · replace h := gw_ifT c19 h
        exact hb51 K12 hK12 v2 v3 v5 S h _ _ _ hI (lv_sub hl [0, 1, 2, 3] rfl)
      · replace h := gw_ifF c19 h
        refine lv_aload_n hx hb dX9_findChainOf_34 rfl (lv_at hl 0 rfl) ?_
        refine lv_iload hx hb dX9_findChainOf_35 (lv_at hl 3 rfl) ?_
        refine lv_iload_n hx hb dX9_findChainOf_37 rfl (lv_at hl 2 rfl) ?_
        refine lv_iload_n hx hb dX9_findChainOf_38 rfl (lv_at hl 1 rfl) ?_
        obtain ⟨r20, e21, h⟩ := gw_bdE h
        refine gw_callV (As := [.int v5, .int v3, .int v2]) (n := 3) B hI (k_X9_canTake v5 v3 v2 S e21) gX9_findChainOf_X9_canTake rfl rfl rfl nd_X9_canTake ⟨Nat.le_of_ble_eq_true rfl, Nat.le_of_ble_eq_true rfl⟩ gm_g0 rfl rfl rfl hl.1 (Nat.zero_le _) dX9_findChainOf_39 ⟨Nat.le_of_ble_eq_true rfl, Nat.le_of_ble_eq_true rfl⟩ rfl (fun w' H locs hw hI => ?_)
        subst hw
        refine lv_if_ne (tgt := 51) hx hb dX9_findChainOf_42 (by decide) (fun c22 => ?_) (fun c22 => ?_)
        · replace h := gw_ifF c22 h
          exact hb51 K12 hK12 v2 v3 v5 S h _ _ _ hI (lv_sub hl [0, 1, 2, 3] rfl)
        · replace h := gw_ifT c22 h
          obtain ⟨y23, e24, h⟩ := gw_letE h
          refine lv_iinc (v := y23) (lv' := [(5, .int y23), (0, .ref (a 0)), (2, .int v2), (3, .int v3)]) hx hb dX9_findChainOf_45 hl (k := 3) rfl (by rw [e24]; rfl) (by decide) rfl (fun ls hl => ?_)
          refine lv_goto (tgt := 25) hx hb dX9_findChainOf_48 (by decide) ?_
          exact ih v2 v3 y23 S h _ _ _ hI (lv_sub hl [1, 2, 3, 0] rfl)
  have hb12 :  ∀ (n : Nat), ∀ (v2 : Int32) (v3 : Int32) (v4 : Int32) (S : gw_S), f_X9_findChainOf_b12  n v2 v3 v4 S = some (zr, zS) → ∀ (H : Heap) (locs : List Loc) (ls : Array Slot), gw_I D A s.heap (gw_mw cc a S) H locs → lv_has ls 6 [(0, .ref (a 0)), (2, .int v2), (3, .int v3), (4, .int v4)] → W p l e rm_X9_findChainOf s m args below meth c H locs 0 0 (MQ below (gw_Q (some (.int zr)) (gw_Pst D A (fun w => w = gw_mw cc a zS)) A) args s 0 0 A) (F0 m 12 ls []) := by
    intro n
    induction n with
    | zero =>
      intro v2 v3 v4 S h
      cases h
    | succ n ih =>
      intro v2 v3 v4 S h H locs ls hI hl
      unfold f_X9_findChainOf_b12 at h
      refine lv_iload_n hx hb dX9_findChainOf_12 rfl (lv_at hl 2 rfl) ?_
      refine lv_if_lt (tgt := 126) hx hb dX9_findChainOf_13 (by decide) (fun c25 => ?_) (fun c25 => ?_)
      · replace h := gw_ifT c25 h
        exact hb126  v2 v3 S h _ _ _ hI (lv_sub hl [1, 2] rfl)
      · replace h := gw_ifF c25 h
        refine lv_iload_n hx hb dX9_findChainOf_16 rfl (lv_at hl 2 rfl) ?_
        refine lv_iload_n hx hb dX9_findChainOf_17 rfl (lv_at hl 1 rfl) ?_
        refine lv_icmp_ge (tgt := 126) hx hb dX9_findChainOf_18 (by decide) (fun c26 => ?_) (fun c26 => ?_)
        · replace h := gw_ifT c26 h
          exact hb126  v2 v3 S h _ _ _ hI (lv_sub hl [1, 2] rfl)
        · replace h := gw_ifF c26 h
          refine lv_iload hx hb dX9_findChainOf_21 (lv_at hl 3 rfl) ?_
          refine lv_istore (lv' := [(5, .int v4), (0, .ref (a 0)), (2, .int v2), (3, .int v3), (4, .int v4)]) hx hb dX9_findChainOf_23 hl (by decide) rfl (fun ls hl => ?_)
          exact hb25 (f_X9_findChainOf_b12  n) ih gw_F v2 v3 v4 S h _ _ _ hI (lv_sub hl [1, 2, 3, 0] rfl)
  unfold f_X9_findChainOf at h
  refine lv_aload_n hx hb dX9_findChainOf_0 rfl (lv_at hl 0 rfl) ?_
  refine gw_get (T := TX9) (k := 45) (v := .ref (a 40)) B hI gm_g0 rfl ly_X9_findChainOf_9 (by decide) m_X9_findChainOf_128 rfl rfl dX9_findChainOf_1 ?_
  refine lv_iconst (v := 0) hx hb dX9_findChainOf_4 (by decide) ?_
  refine lv_iload_n hx hb dX9_findChainOf_5 rfl (lv_at hl 1 rfl) ?_
  obtain ⟨S27, e28, h⟩ := gw_letE h
  refine gw_iast (t0 := 0) (w' := gw_mw cc a S27) B hI gm_g40 rfl (by decide) (gm_s40 e28) dX9_findChainOf_6 (fun H locs hI => ?_)
  refine lv_iconst (v := 0) hx hb dX9_findChainOf_7 (by decide) ?_
  refine lv_istore_n (lv' := [(3, .int (0 : Int32)), (0, .ref (a 0)), (1, .int x1), (2, .int x2)]) hx hb dX9_findChainOf_8 rfl hl (by decide) rfl (fun ls hl => ?_)
  refine lv_iconst (v := 0) hx hb dX9_findChainOf_9 (by decide) ?_
  refine lv_istore (lv' := [(4, .int (0 : Int32)), (3, .int (0 : Int32)), (0, .ref (a 0)), (1, .int x1), (2, .int x2)]) hx hb dX9_findChainOf_10 hl (by decide) rfl (fun ls hl => ?_)
  exact hb12  gw_F x2 (0 : Int32) (0 : Int32) S27 h _ _ _ hI (lv_sub hl [2, 4, 1, 0] rfl)
theorem m_X9_findChain_125 : Cond.fieldLink RX9 125 "GownLetModel" "far" "[I" ∈ wsX9_findChain := by decide +kernel
theorem m_X9_findChain_16 : Cond.fieldLink RX9 16 "GownLetModel" "terms" "[I" ∈ wsX9_findChain := by decide +kernel
theorem ly_X9_findChain_9 : ∀ w ∈ wsX90, w ∈ wsX9_findChain := fun w h => List.mem_cons_of_mem _ (List.mem_append_right _ h)
set_option maxRecDepth 100000 in
set_option maxHeartbeats 4000000 in
theorem k_X9_findChain (x1 : Int32) (S : gw_S) {zr : Int32} {zS : gw_S} (h : f_X9_findChain x1 S = some (zr, zS)) : gw_M l yX9_findChain wsX9_findChain rm_X9_findChain 0 0 D (gw_ty cc) t1 t2 [.ref (a 0), .int x1] (gw_mw cc a S) (fun w => w = gw_mw cc a zS) (some (.int zr)) := by
  refine gw_enter (cc := cX9_findChain) (maxL := 3) (ret := (some .int)) (own := RX9) rfl (by decide) rfl (Nat.le_of_ble_eq_true rfl) ?_
  intro p e s m below meth c A B hin hI ls hl
  have hl : lv_has ls 3 [(0, .ref (a 0)), (1, .int x1)] := hl
  generalize ([.ref (a 0), .int x1] : List Value).toArray = args at B ⊢
  have hx := B.1.1
  have hb := B.1.2.1
  have hown : s.vm.findClass RX9 = some m.cls := B.1.2.2.2.1
  have hts := B.1.2.2.2.2
  have hb44 : ∀ (K10 : Int32 → Int32 → gw_S → Option (Int32 × gw_S)) (_ : ∀ (v1 : Int32) (v2 : Int32) (S : gw_S), K10 v1 v2 S = some (zr, zS) → ∀ (H : Heap) (locs : List Loc) (ls : Array Slot), gw_I D A s.heap (gw_mw cc a S) H locs → lv_has ls 3 [(0, .ref (a 0)), (1, .int v1), (2, .int v2)] → W p l e rm_X9_findChain s m args below meth c H locs 0 0 (MQ below (gw_Q (some (.int zr)) (gw_Pst D A (fun w => w = gw_mw cc a zS)) A) args s 0 0 A) (F0 m 10 ls [])), ∀ (v1 : Int32) (v2 : Int32) (S : gw_S), f_X9_findChain_b44 K10 v1 v2 S = some (zr, zS) → ∀ (H : Heap) (locs : List Loc) (ls : Array Slot), gw_I D A s.heap (gw_mw cc a S) H locs → lv_has ls 3 [(0, .ref (a 0)), (1, .int v1), (2, .int v2)] → W p l e rm_X9_findChain s m args below meth c H locs 0 0 (MQ below (gw_Q (some (.int zr)) (gw_Pst D A (fun w => w = gw_mw cc a zS)) A) args s 0 0 A) (F0 m 44 ls []) := by
    intro K10 hK10
    intro v1 v2 S h H locs ls hI hl
    unfold f_X9_findChain_b44 at h
    obtain ⟨y1, e2, h⟩ := gw_letE h
    refine lv_iinc (v := y1) (lv' := [(2, .int y1), (0, .ref (a 0)), (1, .int v1)]) hx hb dX9_findChain_44 hl (k := 2) rfl (by rw [e2]; rfl) (by decide) rfl (fun ls hl => ?_)
    refine lv_goto (tgt := 10) hx hb dX9_findChain_47 (by decide) ?_
    exact hK10 v1 y1 S h _ _ _ hI (lv_sub hl [1, 2, 0] rfl)
  have hb10 :  ∀ (n : Nat), ∀ (v1 : Int32) (v2 : Int32) (S : gw_S), f_X9_findChain_b10  n v1 v2 S = some (zr, zS) → ∀ (H : Heap) (locs : List Loc) (ls : Array Slot), gw_I D A s.heap (gw_mw cc a S) H locs → lv_has ls 3 [(0, .ref (a 0)), (1, .int v1), (2, .int v2)] → W p l e rm_X9_findChain s m args below meth c H locs 0 0 (MQ below (gw_Q (some (.int zr)) (gw_Pst D A (fun w => w = gw_mw cc a zS)) A) args s 0 0 A) (F0 m 10 ls []) := by
    intro n
    induction n with
    | zero =>
      intro v1 v2 S h
      cases h
    | succ n ih =>
      intro v1 v2 S h H locs ls hI hl
      unfold f_X9_findChain_b10 at h
      refine lv_iload_n hx hb dX9_findChain_10 rfl (lv_at hl 2 rfl) ?_
      refine lv_aload_n hx hb dX9_findChain_11 rfl (lv_at hl 0 rfl) ?_
      refine gw_get (T := TX9) (k := 2) (v := .ref (a 3)) B hI gm_g0 rfl ly_X9_findChain_9 (by decide) m_X9_findChain_16 rfl rfl dX9_findChain_12 ?_
      refine lv_bipush (v := 7) hx hb dX9_findChain_15 (by decide) ?_
      refine gw_iald (t0 := 0) B hI gm_g3 rfl (by decide) dX9_findChain_17 ?_
      refine lv_iconst (v := 1) hx hb dX9_findChain_18 (by decide) ?_
      refine lv_iadd hx hb dX9_findChain_19 ?_
      refine lv_icmp_gt (tgt := 50) hx hb dX9_findChain_20 (by decide) (fun c3 => ?_) (fun c3 => ?_)
      · replace h := gw_ifT c3 h
        refine lv_bipush (v := -4) hx hb dX9_findChain_50 (by decide) ?_
        obtain ⟨h1, h2⟩ := Prod.mk.inj (Option.some.inj h)
        rw [h2] at hI
        rw [← h1]
        exact gw_iret (W' := (fun w => w = gw_mw cc a zS)) B hI rfl (Nat.zero_le _) (Nat.zero_le _) dX9_findChain_52
      · replace h := gw_ifF c3 h
        refine lv_aload_n hx hb dX9_findChain_23 rfl (lv_at hl 0 rfl) ?_
        refine gw_get (T := TX9) (k := 44) (v := .ref (a 39)) B hI gm_g0 rfl ly_X9_findChain_9 (by decide) m_X9_findChain_125 rfl rfl dX9_findChain_24 ?_
        refine lv_iload_n hx hb dX9_findChain_27 rfl (lv_at hl 1 rfl) ?_
        obtain ⟨g4, h⟩ := gw_gdE h
        refine gw_iald (t0 := 0) B hI gm_g39 rfl g4 dX9_findChain_28 ?_
        refine lv_iload_n hx hb dX9_findChain_29 rfl (lv_at hl 2 rfl) ?_
        refine lv_icmp_gt (tgt := 44) hx hb dX9_findChain_30 (by decide) (fun c5 => ?_) (fun c5 => ?_)
        · replace h := gw_ifT c5 h
          exact hb44 (f_X9_findChain_b10  n) ih v1 v2 S h _ _ _ hI (lv_sub hl [0, 1, 2] rfl)
        · replace h := gw_ifF c5 h
          refine lv_aload_n hx hb dX9_findChain_33 rfl (lv_at hl 0 rfl) ?_
          refine lv_iload_n hx hb dX9_findChain_34 rfl (lv_at hl 1 rfl) ?_
          refine lv_iload_n hx hb dX9_findChain_35 rfl (lv_at hl 2 rfl) ?_
          obtain ⟨r6, S7, e8, h⟩ := gw_b2E h
          refine gw_callV (As := [.int v1, .int v2]) (n := 2) B hI (k_X9_findChainOf v1 v2 S e8) gX9_findChain_X9_findChainOf rfl rfl rfl nd_X9_findChainOf ⟨Nat.le_of_ble_eq_true rfl, Nat.le_of_ble_eq_true rfl⟩ gm_g0 rfl rfl rfl hl.1 (Nat.zero_le _) dX9_findChain_36 ⟨Nat.le_of_ble_eq_true rfl, Nat.le_of_ble_eq_true rfl⟩ rfl (fun w' H locs hw hI => ?_)
          subst hw
          refine lv_if_eq (tgt := 44) hx hb dX9_findChain_39 (by decide) (fun c9 => ?_) (fun c9 => ?_)
          · replace h := gw_ifT c9 h
            exact hb44 (f_X9_findChain_b10  n) ih v1 v2 S7 h _ _ _ hI (lv_sub hl [0, 1, 2] rfl)
          · replace h := gw_ifF c9 h
            refine lv_iload_n hx hb dX9_findChain_42 rfl (lv_at hl 2 rfl) ?_
            obtain ⟨h1, h2⟩ := Prod.mk.inj (Option.some.inj h)
            rw [h2] at hI
            rw [← h1]
            exact gw_iret (W' := (fun w => w = gw_mw cc a zS)) B hI rfl (Nat.zero_le _) (Nat.zero_le _) dX9_findChain_43
  unfold f_X9_findChain at h
  refine lv_aload_n hx hb dX9_findChain_0 rfl (lv_at hl 0 rfl) ?_
  obtain ⟨S10, e11, h⟩ := gw_bdE h
  refine gw_callVv (As := []) (n := 0) B hI (k_X9_findLies  S e11) gX9_findChain_X9_findLies rfl rfl rfl nd_X9_findLies ⟨Nat.le_of_ble_eq_true rfl, Nat.le_of_ble_eq_true rfl⟩ gm_g0 rfl rfl rfl hl.1 (Nat.zero_le _) dX9_findChain_1 ⟨Nat.le_of_ble_eq_true rfl, Nat.le_of_ble_eq_true rfl⟩ rfl (fun w' H locs hw hI => ?_)
  subst hw
  refine lv_aload_n hx hb dX9_findChain_4 rfl (lv_at hl 0 rfl) ?_
  obtain ⟨S12, e13, h⟩ := gw_bdE h
  refine gw_callVv (As := []) (n := 0) B hI (k_X9_findFar  S10 e13) gX9_findChain_X9_findFar rfl rfl rfl nd_X9_findFar ⟨Nat.le_of_ble_eq_true rfl, Nat.le_of_ble_eq_true rfl⟩ gm_g0 rfl rfl rfl hl.1 (Nat.zero_le _) dX9_findChain_5 ⟨Nat.le_of_ble_eq_true rfl, Nat.le_of_ble_eq_true rfl⟩ rfl (fun w' H locs hw hI => ?_)
  subst hw
  refine lv_iconst (v := 1) hx hb dX9_findChain_8 (by decide) ?_
  refine lv_istore_n (lv' := [(2, .int (1 : Int32)), (0, .ref (a 0)), (1, .int x1)]) hx hb dX9_findChain_9 rfl hl (by decide) rfl (fun ls hl => ?_)
  exact hb10  gw_F x1 (1 : Int32) S12 h _ _ _ hI (lv_sub hl [1, 2, 0] rfl)
set_option maxRecDepth 100000 in
set_option maxHeartbeats 4000000 in
theorem k_X9_chain (x1 : Int32) (S : gw_S) {zr : Int32} {zS : gw_S} (h : f_X9_chain x1 S = some (zr, zS)) : gw_M l yX9_chain wsX9_chain rm_X9_chain 0 0 D (gw_ty cc) t1 t2 [.ref (a 0), .int x1] (gw_mw cc a S) (fun w => w = gw_mw cc a zS) (some (.int zr)) := by
  refine gw_enter (cc := cX9_chain) (maxL := 2) (ret := (some .int)) (own := RX9) rfl (by decide) rfl (Nat.le_of_ble_eq_true rfl) ?_
  intro p e s m below meth c A B hin hI ls hl
  have hl : lv_has ls 2 [(0, .ref (a 0)), (1, .int x1)] := hl
  generalize ([.ref (a 0), .int x1] : List Value).toArray = args at B ⊢
  have hx := B.1.1
  have hb := B.1.2.1
  have hown : s.vm.findClass RX9 = some m.cls := B.1.2.2.2.1
  have hts := B.1.2.2.2.2
  unfold f_X9_chain at h
  refine lv_aload_n hx hb dX9_chain_0 rfl (lv_at hl 0 rfl) ?_
  refine lv_iload_n hx hb dX9_chain_1 rfl (lv_at hl 1 rfl) ?_
  obtain ⟨r1, e2, h⟩ := gw_bdE h
  refine gw_callV (As := [.int x1]) (n := 1) B hI (k_X9_isThere x1 S e2) gX9_chain_X9_isThere rfl rfl rfl nd_X9_isThere ⟨Nat.le_of_ble_eq_true rfl, Nat.le_of_ble_eq_true rfl⟩ gm_g0 rfl rfl rfl hl.1 (Nat.zero_le _) dX9_chain_2 ⟨Nat.le_of_ble_eq_true rfl, Nat.le_of_ble_eq_true rfl⟩ rfl (fun w' H locs hw hI => ?_)
  subst hw
  refine lv_if_ne (tgt := 12) hx hb dX9_chain_5 (by decide) (fun c3 => ?_) (fun c3 => ?_)
  · replace h := gw_ifF c3 h
    refine lv_aload_n hx hb dX9_chain_12 rfl (lv_at hl 0 rfl) ?_
    refine lv_iload_n hx hb dX9_chain_13 rfl (lv_at hl 1 rfl) ?_
    obtain ⟨r4, e5, h⟩ := gw_bdE h
    refine gw_callV (As := [.int x1]) (n := 1) B hI (k_X9_isOpen x1 S e5) gX9_chain_X9_isOpen rfl rfl rfl nd_X9_isOpen ⟨Nat.le_of_ble_eq_true rfl, Nat.le_of_ble_eq_true rfl⟩ gm_g0 rfl rfl rfl hl.1 (Nat.zero_le _) dX9_chain_14 ⟨Nat.le_of_ble_eq_true rfl, Nat.le_of_ble_eq_true rfl⟩ rfl (fun w' H locs hw hI => ?_)
    subst hw
    refine lv_if_ne (tgt := 25) hx hb dX9_chain_17 (by decide) (fun c6 => ?_) (fun c6 => ?_)
    · replace h := gw_ifF c6 h
      refine lv_aload_n hx hb dX9_chain_25 rfl (lv_at hl 0 rfl) ?_
      refine lv_iload_n hx hb dX9_chain_26 rfl (lv_at hl 1 rfl) ?_
      obtain ⟨r7, S8, e9, h⟩ := gw_b2E h
      refine gw_callV (As := [.int x1]) (n := 1) B hI (k_X9_findChain x1 S e9) gX9_chain_X9_findChain rfl rfl rfl nd_X9_findChain ⟨Nat.le_of_ble_eq_true rfl, Nat.le_of_ble_eq_true rfl⟩ gm_g0 rfl rfl rfl hl.1 (Nat.zero_le _) dX9_chain_27 ⟨Nat.le_of_ble_eq_true rfl, Nat.le_of_ble_eq_true rfl⟩ rfl (fun w' H locs hw hI => ?_)
      subst hw
      obtain ⟨h1, h2⟩ := Prod.mk.inj (Option.some.inj h)
      rw [h2] at hI
      rw [← h1]
      exact gw_iret (W' := (fun w => w = gw_mw cc a zS)) B hI rfl (Nat.zero_le _) (Nat.zero_le _) dX9_chain_30
    · replace h := gw_ifT c6 h
      refine lv_bipush (v := -2) hx hb dX9_chain_20 (by decide) ?_
      refine lv_goto (tgt := 30) hx hb dX9_chain_22 (by decide) ?_
      obtain ⟨h1, h2⟩ := Prod.mk.inj (Option.some.inj h)
      rw [h2] at hI
      rw [← h1]
      exact gw_iret (W' := (fun w => w = gw_mw cc a zS)) B hI rfl (Nat.zero_le _) (Nat.zero_le _) dX9_chain_30
  · replace h := gw_ifT c3 h
    refine lv_iconst (v := -1) hx hb dX9_chain_8 (by decide) ?_
    refine lv_goto (tgt := 30) hx hb dX9_chain_9 (by decide) ?_
    obtain ⟨h1, h2⟩ := Prod.mk.inj (Option.some.inj h)
    rw [h2] at hI
    rw [← h1]
    exact gw_iret (W' := (fun w => w = gw_mw cc a zS)) B hI rfl (Nat.zero_le _) (Nat.zero_le _) dX9_chain_30
theorem m_X9_link_128 : Cond.fieldLink RX9 128 "GownLetModel" "chain" "[I" ∈ wsX9_link := by decide +kernel
theorem m_X9_link_131 : Cond.fieldLink RX9 131 "GownLetModel" "taken" "[I" ∈ wsX9_link := by decide +kernel
theorem ly_X9_link_9 : ∀ w ∈ wsX90, w ∈ wsX9_link := fun w h => List.mem_cons_of_mem _ (List.mem_append_right _ h)
set_option maxRecDepth 100000 in
set_option maxHeartbeats 4000000 in
theorem k_X9_link (x1 : Int32) (x2 : Int32) (x3 : Int32) (S : gw_S) {zr : Int32} {zS : gw_S} (h : f_X9_link x1 x2 x3 S = some (zr, zS)) : gw_M l yX9_link wsX9_link rm_X9_link 0 0 D (gw_ty cc) t1 t2 [.ref (a 0), .int x1, .int x2, .int x3] (gw_mw cc a S) (fun w => w = gw_mw cc a zS) (some (.int zr)) := by
  refine gw_enter (cc := cX9_link) (maxL := 5) (ret := (some .int)) (own := RX9) rfl (by decide) rfl (Nat.le_of_ble_eq_true rfl) ?_
  intro p e s m below meth c A B hin hI ls hl
  have hl : lv_has ls 5 [(0, .ref (a 0)), (1, .int x1), (2, .int x2), (3, .int x3)] := hl
  generalize ([.ref (a 0), .int x1, .int x2, .int x3] : List Value).toArray = args at B ⊢
  have hx := B.1.1
  have hb := B.1.2.1
  have hown : s.vm.findClass RX9 = some m.cls := B.1.2.2.2.1
  have hts := B.1.2.2.2.2
  unfold f_X9_link at h
  refine lv_aload_n hx hb dX9_link_0 rfl (lv_at hl 0 rfl) ?_
  refine lv_iload_n hx hb dX9_link_1 rfl (lv_at hl 1 rfl) ?_
  obtain ⟨r1, e2, h⟩ := gw_bdE h
  refine gw_callV (As := [.int x1]) (n := 1) B hI (k_X9_isThere x1 S e2) gX9_link_X9_isThere rfl rfl rfl nd_X9_isThere ⟨Nat.le_of_ble_eq_true rfl, Nat.le_of_ble_eq_true rfl⟩ gm_g0 rfl rfl rfl hl.1 (Nat.zero_le _) dX9_link_2 ⟨Nat.le_of_ble_eq_true rfl, Nat.le_of_ble_eq_true rfl⟩ rfl (fun w' H locs hw hI => ?_)
  subst hw
  refine lv_if_eq (tgt := 22) hx hb dX9_link_5 (by decide) (fun c3 => ?_) (fun c3 => ?_)
  · replace h := gw_ifT c3 h
    refine lv_iconst (v := -1) hx hb dX9_link_22 (by decide) ?_
    obtain ⟨h1, h2⟩ := Prod.mk.inj (Option.some.inj h)
    rw [h2] at hI
    rw [← h1]
    exact gw_iret (W' := (fun w => w = gw_mw cc a zS)) B hI rfl (Nat.zero_le _) (Nat.zero_le _) dX9_link_23
  · replace h := gw_ifF c3 h
    refine lv_iload_n hx hb dX9_link_8 rfl (lv_at hl 2 rfl) ?_
    refine lv_if_lt (tgt := 22) hx hb dX9_link_9 (by decide) (fun c4 => ?_) (fun c4 => ?_)
    · replace h := gw_ifT c4 h
      refine lv_iconst (v := -1) hx hb dX9_link_22 (by decide) ?_
      obtain ⟨h1, h2⟩ := Prod.mk.inj (Option.some.inj h)
      rw [h2] at hI
      rw [← h1]
      exact gw_iret (W' := (fun w => w = gw_mw cc a zS)) B hI rfl (Nat.zero_le _) (Nat.zero_le _) dX9_link_23
    · replace h := gw_ifF c4 h
      refine lv_iload_n hx hb dX9_link_12 rfl (lv_at hl 3 rfl) ?_
      refine lv_i2l hx hb dX9_link_13 rfl ?_
      refine lv_lconst (v := 0) hx hb dX9_link_14 (by decide) ?_
      refine lv_lconst (v := 1) hx hb dX9_link_15 (by decide) ?_
      obtain ⟨r5, e6, h⟩ := gw_bdE h
      refine gw_callS (As := [.long (x3.toInt64), .long (0 : Int64), .long (1 : Int64)]) (n := 3) B hI (k_X9_in (x3.toInt64) (0 : Int64) (1 : Int64) S e6) gX9_link_X9_in rfl rfl rfl nds_X9_in ⟨Nat.le_of_ble_eq_true rfl, Nat.le_of_ble_eq_true rfl⟩ rfl hl.1 (Nat.zero_le _) dX9_link_16 ⟨Nat.le_of_ble_eq_true rfl, Nat.le_of_ble_eq_true rfl⟩ rfl (fun w' H locs hw hI => ?_)
      subst hw
      refine lv_if_ne (tgt := 24) hx hb dX9_link_19 (by decide) (fun c7 => ?_) (fun c7 => ?_)
      · replace h := gw_ifF c7 h
        refine lv_aload_n hx hb dX9_link_24 rfl (lv_at hl 0 rfl) ?_
        refine lv_iload_n hx hb dX9_link_25 rfl (lv_at hl 1 rfl) ?_
        obtain ⟨r8, e9, h⟩ := gw_bdE h
        refine gw_callV (As := [.int x1]) (n := 1) B hI (k_X9_isOpen x1 S e9) gX9_link_X9_isOpen rfl rfl rfl nd_X9_isOpen ⟨Nat.le_of_ble_eq_true rfl, Nat.le_of_ble_eq_true rfl⟩ gm_g0 rfl rfl rfl hl.1 (Nat.zero_le _) dX9_link_26 ⟨Nat.le_of_ble_eq_true rfl, Nat.le_of_ble_eq_true rfl⟩ rfl (fun w' H locs hw hI => ?_)
        subst hw
        refine lv_if_ne (tgt := 35) hx hb dX9_link_29 (by decide) (fun c10 => ?_) (fun c10 => ?_)
        · replace h := gw_ifF c10 h
          refine lv_aload_n hx hb dX9_link_35 rfl (lv_at hl 0 rfl) ?_
          refine lv_iload_n hx hb dX9_link_36 rfl (lv_at hl 1 rfl) ?_
          obtain ⟨r11, S12, e13, h⟩ := gw_b2E h
          refine gw_callV (As := [.int x1]) (n := 1) B hI (k_X9_findChain x1 S e13) gX9_link_X9_findChain rfl rfl rfl nd_X9_findChain ⟨Nat.le_of_ble_eq_true rfl, Nat.le_of_ble_eq_true rfl⟩ gm_g0 rfl rfl rfl hl.1 (Nat.zero_le _) dX9_link_37 ⟨Nat.le_of_ble_eq_true rfl, Nat.le_of_ble_eq_true rfl⟩ rfl (fun w' H locs hw hI => ?_)
          subst hw
          refine lv_istore (lv' := [(4, .int r11), (0, .ref (a 0)), (1, .int x1), (2, .int x2), (3, .int x3)]) hx hb dX9_link_40 hl (by decide) rfl (fun ls hl => ?_)
          refine lv_iload hx hb dX9_link_42 (lv_at hl 0 rfl) ?_
          refine lv_if_ge (tgt := 52) hx hb dX9_link_44 (by decide) (fun c14 => ?_) (fun c14 => ?_)
          · replace h := gw_ifT c14 h
            refine lv_iload_n hx hb dX9_link_52 rfl (lv_at hl 3 rfl) ?_
            refine lv_iload hx hb dX9_link_53 (lv_at hl 0 rfl) ?_
            refine lv_icmp_lt (tgt := 62) hx hb dX9_link_55 (by decide) (fun c15 => ?_) (fun c15 => ?_)
            · replace h := gw_ifT c15 h
              refine lv_iload_n hx hb dX9_link_62 rfl (lv_at hl 4 rfl) ?_
              refine lv_if_ne (tgt := 75) hx hb dX9_link_63 (by decide) (fun c16 => ?_) (fun c16 => ?_)
              · replace h := gw_ifF c16 h
                refine lv_aload_n hx hb dX9_link_75 rfl (lv_at hl 1 rfl) ?_
                refine gw_get (T := TX9) (k := 46) (v := .ref (a 41)) B hI gm_g0 rfl ly_X9_link_9 (by decide) m_X9_link_131 rfl rfl dX9_link_76 ?_
                refine lv_iload_n hx hb dX9_link_79 rfl (lv_at hl 3 rfl) ?_
                obtain ⟨g17, h⟩ := gw_gdE h
                refine gw_iald (t0 := 0) B hI gm_g41 rfl g17 dX9_link_80 ?_
                obtain ⟨h1, h2⟩ := Prod.mk.inj (Option.some.inj h)
                rw [h2] at hI
                rw [← h1]
                exact gw_iret (W' := (fun w => w = gw_mw cc a zS)) B hI rfl (Nat.zero_le _) (Nat.zero_le _) dX9_link_81
              · replace h := gw_ifT c16 h
                refine lv_aload_n hx hb dX9_link_66 rfl (lv_at hl 1 rfl) ?_
                refine gw_get (T := TX9) (k := 45) (v := .ref (a 40)) B hI gm_g0 rfl ly_X9_link_9 (by decide) m_X9_link_128 rfl rfl dX9_link_67 ?_
                refine lv_iload_n hx hb dX9_link_70 rfl (lv_at hl 3 rfl) ?_
                obtain ⟨g18, h⟩ := gw_gdE h
                refine gw_iald (t0 := 0) B hI gm_g40 rfl g18 dX9_link_71 ?_
                refine lv_goto (tgt := 81) hx hb dX9_link_72 (by decide) ?_
                obtain ⟨h1, h2⟩ := Prod.mk.inj (Option.some.inj h)
                rw [h2] at hI
                rw [← h1]
                exact gw_iret (W' := (fun w => w = gw_mw cc a zS)) B hI rfl (Nat.zero_le _) (Nat.zero_le _) dX9_link_81
            · replace h := gw_ifF c15 h
              refine lv_iconst (v := -1) hx hb dX9_link_58 (by decide) ?_
              refine lv_goto (tgt := 81) hx hb dX9_link_59 (by decide) ?_
              obtain ⟨h1, h2⟩ := Prod.mk.inj (Option.some.inj h)
              rw [h2] at hI
              rw [← h1]
              exact gw_iret (W' := (fun w => w = gw_mw cc a zS)) B hI rfl (Nat.zero_le _) (Nat.zero_le _) dX9_link_81
          · replace h := gw_ifF c14 h
            refine lv_bipush (v := -4) hx hb dX9_link_47 (by decide) ?_
            refine lv_goto (tgt := 81) hx hb dX9_link_49 (by decide) ?_
            obtain ⟨h1, h2⟩ := Prod.mk.inj (Option.some.inj h)
            rw [h2] at hI
            rw [← h1]
            exact gw_iret (W' := (fun w => w = gw_mw cc a zS)) B hI rfl (Nat.zero_le _) (Nat.zero_le _) dX9_link_81
        · replace h := gw_ifT c10 h
          refine lv_bipush (v := -2) hx hb dX9_link_32 (by decide) ?_
          obtain ⟨h1, h2⟩ := Prod.mk.inj (Option.some.inj h)
          rw [h2] at hI
          rw [← h1]
          exact gw_iret (W' := (fun w => w = gw_mw cc a zS)) B hI rfl (Nat.zero_le _) (Nat.zero_le _) dX9_link_34
      · replace h := gw_ifT c7 h
        refine lv_iconst (v := -1) hx hb dX9_link_22 (by decide) ?_
        obtain ⟨h1, h2⟩ := Prod.mk.inj (Option.some.inj h)
        rw [h2] at hI
        rw [← h1]
        exact gw_iret (W' := (fun w => w = gw_mw cc a zS)) B hI rfl (Nat.zero_le _) (Nat.zero_le _) dX9_link_23
theorem m_X9_swap_104 : Cond.fieldLink RX9 104 "GownLetModel" "had" "[I" ∈ wsX9_swap := by decide +kernel
theorem m_X9_swap_128 : Cond.fieldLink RX9 128 "GownLetModel" "chain" "[I" ∈ wsX9_swap := by decide +kernel
theorem m_X9_swap_131 : Cond.fieldLink RX9 131 "GownLetModel" "taken" "[I" ∈ wsX9_swap := by decide +kernel
theorem ly_X9_swap_9 : ∀ w ∈ wsX90, w ∈ wsX9_swap := fun w h => List.mem_cons_of_mem _ (List.mem_append_right _ h)
set_option maxRecDepth 100000 in
set_option maxHeartbeats 4000000 in
theorem k_X9_swap (x1 : Int32) (S : gw_S) {zr : Int32} {zS : gw_S} (h : f_X9_swap x1 S = some (zr, zS)) : gw_M l yX9_swap wsX9_swap rm_X9_swap 0 0 D (gw_ty cc) t1 t2 [.ref (a 0), .int x1] (gw_mw cc a S) (fun w => w = gw_mw cc a zS) (some (.int zr)) := by
  refine gw_enter (cc := cX9_swap) (maxL := 4) (ret := (some .int)) (own := RX9) rfl (by decide) rfl (Nat.le_of_ble_eq_true rfl) ?_
  intro p e s m below meth c A B hin hI ls hl
  have hl : lv_has ls 4 [(0, .ref (a 0)), (1, .int x1)] := hl
  generalize ([.ref (a 0), .int x1] : List Value).toArray = args at B ⊢
  have hx := B.1.1
  have hb := B.1.2.1
  have hown : s.vm.findClass RX9 = some m.cls := B.1.2.2.2.1
  have hts := B.1.2.2.2.2
  have hb29 :  ∀ (n : Nat), ∀ (v2 : Int32) (v3 : Int32) (S : gw_S), f_X9_swap_b29  n v2 v3 S = some (zr, zS) → ∀ (H : Heap) (locs : List Loc) (ls : Array Slot), gw_I D A s.heap (gw_mw cc a S) H locs → lv_has ls 4 [(0, .ref (a 0)), (2, .int v2), (3, .int v3)] → W p l e rm_X9_swap s m args below meth c H locs 0 0 (MQ below (gw_Q (some (.int zr)) (gw_Pst D A (fun w => w = gw_mw cc a zS)) A) args s 0 0 A) (F0 m 29 ls []) := by
    intro n
    induction n with
    | zero =>
      intro v2 v3 S h
      cases h
    | succ n ih =>
      intro v2 v3 S h H locs ls hI hl
      unfold f_X9_swap_b29 at h
      refine lv_iload_n hx hb dX9_swap_29 rfl (lv_at hl 2 rfl) ?_
      refine lv_iload_n hx hb dX9_swap_30 rfl (lv_at hl 1 rfl) ?_
      refine lv_icmp_ge (tgt := 57) hx hb dX9_swap_31 (by decide) (fun c1 => ?_) (fun c1 => ?_)
      · replace h := gw_ifT c1 h
        refine lv_iload_n hx hb dX9_swap_57 rfl (lv_at hl 1 rfl) ?_
        obtain ⟨h1, h2⟩ := Prod.mk.inj (Option.some.inj h)
        rw [h2] at hI
        rw [← h1]
        exact gw_iret (W' := (fun w => w = gw_mw cc a zS)) B hI rfl (Nat.zero_le _) (Nat.zero_le _) dX9_swap_58
      · replace h := gw_ifF c1 h
        refine lv_aload_n hx hb dX9_swap_34 rfl (lv_at hl 0 rfl) ?_
        refine gw_get (T := TX9) (k := 37) (v := .ref (a 32)) B hI gm_g0 rfl ly_X9_swap_9 (by decide) m_X9_swap_104 rfl rfl dX9_swap_35 ?_
        refine lv_aload_n hx hb dX9_swap_38 rfl (lv_at hl 0 rfl) ?_
        refine gw_get (T := TX9) (k := 45) (v := .ref (a 40)) B hI gm_g0 rfl ly_X9_swap_9 (by decide) m_X9_swap_128 rfl rfl dX9_swap_39 ?_
        refine lv_iload_n hx hb dX9_swap_42 rfl (lv_at hl 2 rfl) ?_
        obtain ⟨g2, h⟩ := gw_gdE h
        refine gw_iald (t0 := 0) B hI gm_g40 rfl g2 dX9_swap_43 ?_
        refine lv_aload_n hx hb dX9_swap_44 rfl (lv_at hl 0 rfl) ?_
        refine gw_get (T := TX9) (k := 46) (v := .ref (a 41)) B hI gm_g0 rfl ly_X9_swap_9 (by decide) m_X9_swap_131 rfl rfl dX9_swap_45 ?_
        refine lv_iload_n hx hb dX9_swap_48 rfl (lv_at hl 2 rfl) ?_
        refine gw_iald (t0 := 0) B hI gm_g41 rfl g2 dX9_swap_49 ?_
        obtain ⟨g3, h⟩ := gw_gdE h
        obtain ⟨S4, e5, h⟩ := gw_letE h
        refine gw_iast (t0 := 0) (w' := gw_mw cc a S4) B hI gm_g32 rfl g3 (gm_s32 e5) dX9_swap_50 (fun H locs hI => ?_)
        obtain ⟨y6, e7, h⟩ := gw_letE h
        refine lv_iinc (v := y6) (lv' := [(3, .int y6), (0, .ref (a 0)), (2, .int v2)]) hx hb dX9_swap_51 hl (k := 2) rfl (by rw [e7]; rfl) (by decide) rfl (fun ls hl => ?_)
        refine lv_goto (tgt := 29) hx hb dX9_swap_54 (by decide) ?_
        exact ih v2 y6 S4 h _ _ _ hI (lv_sub hl [1, 2, 0] rfl)
  unfold f_X9_swap at h
  refine lv_aload_n hx hb dX9_swap_0 rfl (lv_at hl 0 rfl) ?_
  refine lv_iload_n hx hb dX9_swap_1 rfl (lv_at hl 1 rfl) ?_
  obtain ⟨r8, e9, h⟩ := gw_bdE h
  refine gw_callV (As := [.int x1]) (n := 1) B hI (k_X9_isThere x1 S e9) gX9_swap_X9_isThere rfl rfl rfl nd_X9_isThere ⟨Nat.le_of_ble_eq_true rfl, Nat.le_of_ble_eq_true rfl⟩ gm_g0 rfl rfl rfl hl.1 (Nat.zero_le _) dX9_swap_2 ⟨Nat.le_of_ble_eq_true rfl, Nat.le_of_ble_eq_true rfl⟩ rfl (fun w' H locs hw hI => ?_)
  subst hw
  refine lv_if_ne (tgt := 10) hx hb dX9_swap_5 (by decide) (fun c10 => ?_) (fun c10 => ?_)
  · replace h := gw_ifF c10 h
    refine lv_aload_n hx hb dX9_swap_10 rfl (lv_at hl 0 rfl) ?_
    refine lv_iload_n hx hb dX9_swap_11 rfl (lv_at hl 1 rfl) ?_
    obtain ⟨r11, e12, h⟩ := gw_bdE h
    refine gw_callV (As := [.int x1]) (n := 1) B hI (k_X9_isOpen x1 S e12) gX9_swap_X9_isOpen rfl rfl rfl nd_X9_isOpen ⟨Nat.le_of_ble_eq_true rfl, Nat.le_of_ble_eq_true rfl⟩ gm_g0 rfl rfl rfl hl.1 (Nat.zero_le _) dX9_swap_12 ⟨Nat.le_of_ble_eq_true rfl, Nat.le_of_ble_eq_true rfl⟩ rfl (fun w' H locs hw hI => ?_)
    subst hw
    refine lv_if_ne (tgt := 21) hx hb dX9_swap_15 (by decide) (fun c13 => ?_) (fun c13 => ?_)
    · replace h := gw_ifF c13 h
      refine lv_aload_n hx hb dX9_swap_21 rfl (lv_at hl 0 rfl) ?_
      refine lv_iload_n hx hb dX9_swap_22 rfl (lv_at hl 1 rfl) ?_
      obtain ⟨r14, S15, e16, h⟩ := gw_b2E h
      refine gw_callV (As := [.int x1]) (n := 1) B hI (k_X9_findChain x1 S e16) gX9_swap_X9_findChain rfl rfl rfl nd_X9_findChain ⟨Nat.le_of_ble_eq_true rfl, Nat.le_of_ble_eq_true rfl⟩ gm_g0 rfl rfl rfl hl.1 (Nat.zero_le _) dX9_swap_23 ⟨Nat.le_of_ble_eq_true rfl, Nat.le_of_ble_eq_true rfl⟩ rfl (fun w' H locs hw hI => ?_)
      subst hw
      refine lv_istore_n (lv' := [(2, .int r14), (0, .ref (a 0)), (1, .int x1)]) hx hb dX9_swap_26 rfl hl (by decide) rfl (fun ls hl => ?_)
      refine lv_iconst (v := 0) hx hb dX9_swap_27 (by decide) ?_
      refine lv_istore_n (lv' := [(3, .int (0 : Int32)), (2, .int r14), (0, .ref (a 0)), (1, .int x1)]) hx hb dX9_swap_28 rfl hl (by decide) rfl (fun ls hl => ?_)
      exact hb29  gw_F r14 (0 : Int32) S15 h _ _ _ hI (lv_sub hl [2, 1, 0] rfl)
    · replace h := gw_ifT c13 h
      refine lv_bipush (v := -2) hx hb dX9_swap_18 (by decide) ?_
      obtain ⟨h1, h2⟩ := Prod.mk.inj (Option.some.inj h)
      rw [h2] at hI
      rw [← h1]
      exact gw_iret (W' := (fun w => w = gw_mw cc a zS)) B hI rfl (Nat.zero_le _) (Nat.zero_le _) dX9_swap_20
  · replace h := gw_ifT c10 h
    refine lv_iconst (v := -1) hx hb dX9_swap_8 (by decide) ?_
    obtain ⟨h1, h2⟩ := Prod.mk.inj (Option.some.inj h)
    rw [h2] at hI
    rw [← h1]
    exact gw_iret (W' := (fun w => w = gw_mw cc a zS)) B hI rfl (Nat.zero_le _) (Nat.zero_le _) dX9_swap_9
theorem m_X9_matchOf_101 : Cond.fieldLink RX9 101 "GownLetModel" "offs" "[I" ∈ wsX9_matchOf := by decide +kernel
theorem m_X9_matchOf_104 : Cond.fieldLink RX9 104 "GownLetModel" "had" "[I" ∈ wsX9_matchOf := by decide +kernel
theorem m_X9_matchOf_134 : Cond.fieldLink RX9 134 "GownLetModel" "hadKept" "[I" ∈ wsX9_matchOf := by decide +kernel
theorem m_X9_matchOf_257 : Cond.fieldLink RX9 257 "GownLetModel" "bookings" "I" ∈ wsX9_matchOf := by decide +kernel
theorem m_X9_matchOf_37 : Cond.fieldLink RX9 37 "GownLetModel" "lots" "[I" ∈ wsX9_matchOf := by decide +kernel
theorem m_X9_matchOf_98 : Cond.fieldLink RX9 98 "GownLetModel" "parties" "[I" ∈ wsX9_matchOf := by decide +kernel
theorem ly_X9_matchOf_9 : ∀ w ∈ wsX90, w ∈ wsX9_matchOf := fun w h => List.mem_cons_of_mem _ (List.mem_append_right _ h)
set_option maxRecDepth 100000 in
set_option maxHeartbeats 4000000 in
theorem k_X9_matchOf (x1 : Int32) (x2 : Int32) (S : gw_S) {zr : Int32} {zS : gw_S} (h : f_X9_matchOf x1 x2 S = some (zr, zS)) : gw_M l yX9_matchOf wsX9_matchOf rm_X9_matchOf 0 0 D (gw_ty cc) t1 t2 [.ref (a 0), .int x1, .int x2] (gw_mw cc a S) (fun w => w = gw_mw cc a zS) (some (.int zr)) := by
  refine gw_enter (cc := cX9_matchOf) (maxL := 6) (ret := (some .int)) (own := RX9) rfl (by decide) rfl (Nat.le_of_ble_eq_true rfl) ?_
  intro p e s m below meth c A B hin hI ls hl
  have hl : lv_has ls 6 [(0, .ref (a 0)), (1, .int x1), (2, .int x2)] := hl
  generalize ([.ref (a 0), .int x1, .int x2] : List Value).toArray = args at B ⊢
  have hx := B.1.1
  have hb := B.1.2.1
  have hown : s.vm.findClass RX9 = some m.cls := B.1.2.2.2.1
  have hts := B.1.2.2.2.2
  have hb143 :  ∀ (n : Nat), ∀ (v3 : Int32) (v4 : Int32) (S : gw_S), f_X9_matchOf_b143  n v3 v4 S = some (zr, zS) → ∀ (H : Heap) (locs : List Loc) (ls : Array Slot), gw_I D A s.heap (gw_mw cc a S) H locs → lv_has ls 6 [(0, .ref (a 0)), (3, .int v3), (4, .int v4)] → W p l e rm_X9_matchOf s m args below meth c H locs 0 0 (MQ below (gw_Q (some (.int zr)) (gw_Pst D A (fun w => w = gw_mw cc a zS)) A) args s 0 0 A) (F0 m 143 ls []) := by
    intro n
    induction n with
    | zero =>
      intro v3 v4 S h
      cases h
    | succ n ih =>
      intro v3 v4 S h H locs ls hI hl
      unfold f_X9_matchOf_b143 at h
      refine lv_iload hx hb dX9_matchOf_143 (lv_at hl 2 rfl) ?_
      refine lv_aload_n hx hb dX9_matchOf_145 rfl (lv_at hl 0 rfl) ?_
      refine gw_get (T := TX9) (k := 29) (v := .int (S 0 29)) B hI gm_g0 rfl ly_X9_matchOf_9 (by decide) m_X9_matchOf_257 rfl rfl dX9_matchOf_146 ?_
      refine lv_icmp_ge (tgt := 172) hx hb dX9_matchOf_149 (by decide) (fun c1 => ?_) (fun c1 => ?_)
      · replace h := gw_ifT c1 h
        refine lv_iload_n hx hb dX9_matchOf_172 rfl (lv_at hl 1 rfl) ?_
        obtain ⟨h1, h2⟩ := Prod.mk.inj (Option.some.inj h)
        rw [h2] at hI
        rw [← h1]
        exact gw_iret (W' := (fun w => w = gw_mw cc a zS)) B hI rfl (Nat.zero_le _) (Nat.zero_le _) dX9_matchOf_173
      · replace h := gw_ifF c1 h
        refine lv_aload_n hx hb dX9_matchOf_152 rfl (lv_at hl 0 rfl) ?_
        refine gw_get (T := TX9) (k := 37) (v := .ref (a 32)) B hI gm_g0 rfl ly_X9_matchOf_9 (by decide) m_X9_matchOf_104 rfl rfl dX9_matchOf_153 ?_
        refine lv_iload hx hb dX9_matchOf_156 (lv_at hl 2 rfl) ?_
        refine lv_aload_n hx hb dX9_matchOf_158 rfl (lv_at hl 0 rfl) ?_
        refine gw_get (T := TX9) (k := 47) (v := .ref (a 42)) B hI gm_g0 rfl ly_X9_matchOf_9 (by decide) m_X9_matchOf_134 rfl rfl dX9_matchOf_159 ?_
        refine lv_iload hx hb dX9_matchOf_162 (lv_at hl 2 rfl) ?_
        obtain ⟨g2, h⟩ := gw_gdE h
        refine gw_iald (t0 := 0) B hI gm_g42 rfl g2 dX9_matchOf_164 ?_
        obtain ⟨S3, e4, h⟩ := gw_letE h
        refine gw_iast (t0 := 0) (w' := gw_mw cc a S3) B hI gm_g32 rfl g2 (gm_s32 e4) dX9_matchOf_165 (fun H locs hI => ?_)
        obtain ⟨y5, e6, h⟩ := gw_letE h
        refine lv_iinc (v := y5) (lv' := [(4, .int y5), (0, .ref (a 0)), (3, .int v3)]) hx hb dX9_matchOf_166 hl (k := 2) rfl (by rw [e6]; rfl) (by decide) rfl (fun ls hl => ?_)
        refine lv_goto (tgt := 143) hx hb dX9_matchOf_169 (by decide) ?_
        exact ih v3 y5 S3 h _ _ _ hI (lv_sub hl [1, 2, 0] rfl)
  have hb134 : ∀ (K33 : Int32 → Int32 → Int32 → Int32 → gw_S → Option (Int32 × gw_S)) (_ : ∀ (v1 : Int32) (v2 : Int32) (v3 : Int32) (v4 : Int32) (S : gw_S), K33 v1 v2 v3 v4 S = some (zr, zS) → ∀ (H : Heap) (locs : List Loc) (ls : Array Slot), gw_I D A s.heap (gw_mw cc a S) H locs → lv_has ls 6 [(0, .ref (a 0)), (1, .int v1), (2, .int v2), (3, .int v3), (4, .int v4)] → W p l e rm_X9_matchOf s m args below meth c H locs 0 0 (MQ below (gw_Q (some (.int zr)) (gw_Pst D A (fun w => w = gw_mw cc a zS)) A) args s 0 0 A) (F0 m 33 ls [])), ∀ (v1 : Int32) (v2 : Int32) (v3 : Int32) (v4 : Int32) (S : gw_S), f_X9_matchOf_b134 K33 v1 v2 v3 v4 S = some (zr, zS) → ∀ (H : Heap) (locs : List Loc) (ls : Array Slot), gw_I D A s.heap (gw_mw cc a S) H locs → lv_has ls 6 [(0, .ref (a 0)), (1, .int v1), (2, .int v2), (3, .int v3), (4, .int v4)] → W p l e rm_X9_matchOf s m args below meth c H locs 0 0 (MQ below (gw_Q (some (.int zr)) (gw_Pst D A (fun w => w = gw_mw cc a zS)) A) args s 0 0 A) (F0 m 134 ls []) := by
    intro K33 hK33
    intro v1 v2 v3 v4 S h H locs ls hI hl
    unfold f_X9_matchOf_b134 at h
    obtain ⟨y7, e8, h⟩ := gw_letE h
    refine lv_iinc (v := y7) (lv' := [(4, .int y7), (0, .ref (a 0)), (1, .int v1), (2, .int v2), (3, .int v3)]) hx hb dX9_matchOf_134 hl (k := 4) rfl (by rw [e8]; rfl) (by decide) rfl (fun ls hl => ?_)
    refine lv_goto (tgt := 33) hx hb dX9_matchOf_137 (by decide) ?_
    exact hK33 v1 v2 v3 y7 S h _ _ _ hI (lv_sub hl [1, 2, 3, 4, 0] rfl)
  have hb132 : ∀ (K33 : Int32 → Int32 → Int32 → Int32 → gw_S → Option (Int32 × gw_S)) (_ : ∀ (v1 : Int32) (v2 : Int32) (v3 : Int32) (v4 : Int32) (S : gw_S), K33 v1 v2 v3 v4 S = some (zr, zS) → ∀ (H : Heap) (locs : List Loc) (ls : Array Slot), gw_I D A s.heap (gw_mw cc a S) H locs → lv_has ls 6 [(0, .ref (a 0)), (1, .int v1), (2, .int v2), (3, .int v3), (4, .int v4)] → W p l e rm_X9_matchOf s m args below meth c H locs 0 0 (MQ below (gw_Q (some (.int zr)) (gw_Pst D A (fun w => w = gw_mw cc a zS)) A) args s 0 0 A) (F0 m 33 ls [])), ∀ (v1 : Int32) (v2 : Int32) (v4 : Int32) (t0_ : Int32) (t1_ : Int32) (S : gw_S), f_X9_matchOf_b132 K33 v1 v2 v4 t0_ t1_ S = some (zr, zS) → ∀ (H : Heap) (locs : List Loc) (ls : Array Slot), gw_I D A s.heap (gw_mw cc a S) H locs → lv_has ls 6 [(0, .ref (a 0)), (1, .int v1), (2, .int v2), (4, .int v4)] → W p l e rm_X9_matchOf s m args below meth c H locs 0 0 (MQ below (gw_Q (some (.int zr)) (gw_Pst D A (fun w => w = gw_mw cc a zS)) A) args s 0 0 A) (F0 m 132 ls [.int t0_, .int t1_]) := by
    intro K33 hK33
    intro v1 v2 v4 t0_ t1_ S h H locs ls hI hl
    unfold f_X9_matchOf_b132 at h
    refine lv_iadd hx hb dX9_matchOf_132 ?_
    obtain ⟨y9, e10, h⟩ := gw_letE h
    rw [← e10]
    refine lv_istore_n (lv' := [(3, .int y9), (0, .ref (a 0)), (1, .int v1), (2, .int v2), (4, .int v4)]) hx hb dX9_matchOf_133 rfl hl (by decide) rfl (fun ls hl => ?_)
    exact hb134 K33 hK33 v1 v2 y9 v4 S h _ _ _ hI (lv_sub hl [1, 2, 3, 0, 4] rfl)
  have hb131 : ∀ (K33 : Int32 → Int32 → Int32 → Int32 → gw_S → Option (Int32 × gw_S)) (_ : ∀ (v1 : Int32) (v2 : Int32) (v3 : Int32) (v4 : Int32) (S : gw_S), K33 v1 v2 v3 v4 S = some (zr, zS) → ∀ (H : Heap) (locs : List Loc) (ls : Array Slot), gw_I D A s.heap (gw_mw cc a S) H locs → lv_has ls 6 [(0, .ref (a 0)), (1, .int v1), (2, .int v2), (3, .int v3), (4, .int v4)] → W p l e rm_X9_matchOf s m args below meth c H locs 0 0 (MQ below (gw_Q (some (.int zr)) (gw_Pst D A (fun w => w = gw_mw cc a zS)) A) args s 0 0 A) (F0 m 33 ls [])), ∀ (v1 : Int32) (v2 : Int32) (v4 : Int32) (t0_ : Int32) (S : gw_S), f_X9_matchOf_b131 K33 v1 v2 v4 t0_ S = some (zr, zS) → ∀ (H : Heap) (locs : List Loc) (ls : Array Slot), gw_I D A s.heap (gw_mw cc a S) H locs → lv_has ls 6 [(0, .ref (a 0)), (1, .int v1), (2, .int v2), (4, .int v4)] → W p l e rm_X9_matchOf s m args below meth c H locs 0 0 (MQ below (gw_Q (some (.int zr)) (gw_Pst D A (fun w => w = gw_mw cc a zS)) A) args s 0 0 A) (F0 m 131 ls [.int t0_]) := by
    intro K33 hK33
    intro v1 v2 v4 t0_ S h H locs ls hI hl
    unfold f_X9_matchOf_b131 at h
    refine lv_iconst (v := 0) hx hb dX9_matchOf_131 (by decide) ?_
    exact hb132 K33 hK33 v1 v2 v4 (0 : Int32) t0_ S h _ _ _ hI (lv_sub hl [0, 1, 2, 3] rfl)
  have hb100 : ∀ (K33 : Int32 → Int32 → Int32 → Int32 → gw_S → Option (Int32 × gw_S)) (_ : ∀ (v1 : Int32) (v2 : Int32) (v3 : Int32) (v4 : Int32) (S : gw_S), K33 v1 v2 v3 v4 S = some (zr, zS) → ∀ (H : Heap) (locs : List Loc) (ls : Array Slot), gw_I D A s.heap (gw_mw cc a S) H locs → lv_has ls 6 [(0, .ref (a 0)), (1, .int v1), (2, .int v2), (3, .int v3), (4, .int v4)] → W p l e rm_X9_matchOf s m args below meth c H locs 0 0 (MQ below (gw_Q (some (.int zr)) (gw_Pst D A (fun w => w = gw_mw cc a zS)) A) args s 0 0 A) (F0 m 33 ls [])), ∀ (v1 : Int32) (v2 : Int32) (v3 : Int32) (v4 : Int32) (S : gw_S), f_X9_matchOf_b100 K33 v1 v2 v3 v4 S = some (zr, zS) → ∀ (H : Heap) (locs : List Loc) (ls : Array Slot), gw_I D A s.heap (gw_mw cc a S) H locs → lv_has ls 6 [(0, .ref (a 0)), (1, .int v1), (2, .int v2), (3, .int v3), (4, .int v4)] → W p l e rm_X9_matchOf s m args below meth c H locs 0 0 (MQ below (gw_Q (some (.int zr)) (gw_Pst D A (fun w => w = gw_mw cc a zS)) A) args s 0 0 A) (F0 m 100 ls []) := by
    intro K33 hK33
    intro v1 v2 v3 v4 S h H locs ls hI hl
    unfold f_X9_matchOf_b100 at h
    refine lv_iload_n hx hb dX9_matchOf_100 rfl (lv_at hl 3 rfl) ?_
    refine lv_aload_n hx hb dX9_matchOf_101 rfl (lv_at hl 0 rfl) ?_
    refine gw_get (T := TX9) (k := 37) (v := .ref (a 32)) B hI gm_g0 rfl ly_X9_matchOf_9 (by decide) m_X9_matchOf_104 rfl rfl dX9_matchOf_102 ?_
    refine lv_iload hx hb dX9_matchOf_105 (lv_at hl 4 rfl) ?_
    obtain ⟨g11, h⟩ := gw_gdE h
    refine gw_iald (t0 := 0) B hI gm_g32 rfl g11 dX9_matchOf_107 ?_
    refine lv_if_lt (tgt := 131) hx hb dX9_matchOf_108 (by decide) (fun c12 => ?_) (fun c12 => ?_)
    · replace h := gw_ifT c12 h
      exact hb131 K33 hK33 v1 v2 v4 v3 S h _ _ _ hI (lv_sub hl [0, 1, 2, 4] rfl)
    · replace h := gw_ifF c12 h
      refine lv_aload_n hx hb dX9_matchOf_111 rfl (lv_at hl 0 rfl) ?_
      refine gw_get (T := TX9) (k := 12) (v := .ref (a 10)) B hI gm_g0 rfl ly_X9_matchOf_9 (by decide) m_X9_matchOf_37 rfl rfl dX9_matchOf_112 ?_
      refine lv_aload_n hx hb dX9_matchOf_115 rfl (lv_at hl 0 rfl) ?_
      refine gw_get (T := TX9) (k := 37) (v := .ref (a 32)) B hI gm_g0 rfl ly_X9_matchOf_9 (by decide) m_X9_matchOf_104 rfl rfl dX9_matchOf_116 ?_
      refine lv_iload hx hb dX9_matchOf_119 (lv_at hl 4 rfl) ?_
      refine gw_iald (t0 := 0) B hI gm_g32 rfl g11 dX9_matchOf_121 ?_
      obtain ⟨g13, h⟩ := gw_gdE h
      refine gw_iald (t0 := 0) B hI gm_g10 rfl g13 dX9_matchOf_122 ?_
      refine lv_iload_n hx hb dX9_matchOf_123 rfl (lv_at hl 2 rfl) ?_
      refine lv_icmp_ne (tgt := 131) hx hb dX9_matchOf_124 (by decide) (fun c14 => ?_) (fun c14 => ?_)
      · replace h := gw_ifF c14 h
        exact hb131 K33 hK33 v1 v2 v4 v3 S h _ _ _ hI (lv_sub hl [0, 1, 2, 4] rfl)
      · replace h := gw_ifT c14 h
        refine lv_iconst (v := 1) hx hb dX9_matchOf_127 (by decide) ?_
        refine lv_goto (tgt := 132) hx hb dX9_matchOf_128 (by decide) ?_
        exact hb132 K33 hK33 v1 v2 v4 (1 : Int32) v3 S h _ _ _ hI (lv_sub hl [0, 1, 2, 4] rfl)
  have hb99 : ∀ (K33 : Int32 → Int32 → Int32 → Int32 → gw_S → Option (Int32 × gw_S)) (_ : ∀ (v1 : Int32) (v2 : Int32) (v3 : Int32) (v4 : Int32) (S : gw_S), K33 v1 v2 v3 v4 S = some (zr, zS) → ∀ (H : Heap) (locs : List Loc) (ls : Array Slot), gw_I D A s.heap (gw_mw cc a S) H locs → lv_has ls 6 [(0, .ref (a 0)), (1, .int v1), (2, .int v2), (3, .int v3), (4, .int v4)] → W p l e rm_X9_matchOf s m args below meth c H locs 0 0 (MQ below (gw_Q (some (.int zr)) (gw_Pst D A (fun w => w = gw_mw cc a zS)) A) args s 0 0 A) (F0 m 33 ls [])), ∀ (v1 : Int32) (v2 : Int32) (v3 : Int32) (v4 : Int32) (t0_ : Int32) (t1_ : Int32) (S : gw_S), f_X9_matchOf_b99 K33 v1 v2 v3 v4 t0_ t1_ S = some (zr, zS) → ∀ (H : Heap) (locs : List Loc) (ls : Array Slot), gw_I D A s.heap (gw_mw cc a S) H locs → lv_has ls 6 [(0, .ref (a 0)), (1, .int v1), (2, .int v2), (3, .int v3), (4, .int v4)] → W p l e rm_X9_matchOf s m args below meth c H locs 0 0 (MQ below (gw_Q (some (.int zr)) (gw_Pst D A (fun w => w = gw_mw cc a zS)) A) args s 0 0 A) (F0 m 99 ls [.int t0_, .int t1_, .ref (a 32)]) := by
    intro K33 hK33
    intro v1 v2 v3 v4 t0_ t1_ S h H locs ls hI hl
    unfold f_X9_matchOf_b99 at h
    obtain ⟨g15, h⟩ := gw_gdE h
    obtain ⟨S16, e17, h⟩ := gw_letE h
    refine gw_iast (t0 := 0) (w' := gw_mw cc a S16) B hI gm_g32 rfl g15 (gm_s32 e17) dX9_matchOf_99 (fun H locs hI => ?_)
    exact hb100 K33 hK33 v1 v2 v3 v4 S16 h _ _ _ hI (lv_sub hl [0, 1, 2, 3, 4] rfl)
  have hb33 :  ∀ (n : Nat), ∀ (v1 : Int32) (v2 : Int32) (v3 : Int32) (v4 : Int32) (S : gw_S), f_X9_matchOf_b33  n v1 v2 v3 v4 S = some (zr, zS) → ∀ (H : Heap) (locs : List Loc) (ls : Array Slot), gw_I D A s.heap (gw_mw cc a S) H locs → lv_has ls 6 [(0, .ref (a 0)), (1, .int v1), (2, .int v2), (3, .int v3), (4, .int v4)] → W p l e rm_X9_matchOf s m args below meth c H locs 0 0 (MQ below (gw_Q (some (.int zr)) (gw_Pst D A (fun w => w = gw_mw cc a zS)) A) args s 0 0 A) (F0 m 33 ls []) := by
    intro n
    induction n with
    | zero =>
      intro v1 v2 v3 v4 S h
      cases h
    | succ n ih =>
      intro v1 v2 v3 v4 S h H locs ls hI hl
      unfold f_X9_matchOf_b33 at h
      refine lv_iload hx hb dX9_matchOf_33 (lv_at hl 4 rfl) ?_
      refine lv_aload_n hx hb dX9_matchOf_35 rfl (lv_at hl 0 rfl) ?_
      refine gw_get (T := TX9) (k := 29) (v := .int (S 0 29)) B hI gm_g0 rfl ly_X9_matchOf_9 (by decide) m_X9_matchOf_257 rfl rfl dX9_matchOf_36 ?_
      refine lv_icmp_ge (tgt := 140) hx hb dX9_matchOf_39 (by decide) (fun c18 => ?_) (fun c18 => ?_)
      · replace h := gw_ifT c18 h
        refine lv_iconst (v := 0) hx hb dX9_matchOf_140 (by decide) ?_
        refine lv_istore (lv' := [(4, .int (0 : Int32)), (0, .ref (a 0)), (1, .int v1), (2, .int v2), (3, .int v3)]) hx hb dX9_matchOf_141 hl (by decide) rfl (fun ls hl => ?_)
        exact hb143  gw_F v3 (0 : Int32) S h _ _ _ hI (lv_sub hl [1, 4, 0] rfl)
      · replace h := gw_ifF c18 h
        refine lv_aload_n hx hb dX9_matchOf_42 rfl (lv_at hl 0 rfl) ?_
        refine gw_get (T := TX9) (k := 35) (v := .ref (a 30)) B hI gm_g0 rfl ly_X9_matchOf_9 (by decide) m_X9_matchOf_98 rfl rfl dX9_matchOf_43 ?_
        refine lv_iload hx hb dX9_matchOf_46 (lv_at hl 4 rfl) ?_
        obtain ⟨g19, h⟩ := gw_gdE h
        refine gw_iald (t0 := 0) B hI gm_g30 rfl g19 dX9_matchOf_48 ?_
        refine lv_iload_n hx hb dX9_matchOf_49 rfl (lv_at hl 1 rfl) ?_
        refine lv_icmp_ne (tgt := 134) hx hb dX9_matchOf_50 (by decide) (fun c20 => ?_) (fun c20 => ?_)
        · replace h := gw_ifF c20 h
          exact hb134 (f_X9_matchOf_b33  n) ih v1 v2 v3 v4 S h _ _ _ hI (lv_sub hl [0, 1, 2, 3, 4] rfl)
        · replace h := gw_ifT c20 h
          refine lv_aload_n hx hb dX9_matchOf_53 rfl (lv_at hl 0 rfl) ?_
          refine gw_get (T := TX9) (k := 36) (v := .ref (a 31)) B hI gm_g0 rfl ly_X9_matchOf_9 (by decide) m_X9_matchOf_101 rfl rfl dX9_matchOf_54 ?_
          refine lv_iload hx hb dX9_matchOf_57 (lv_at hl 4 rfl) ?_
          refine gw_iald (t0 := 0) B hI gm_g31 rfl g19 dX9_matchOf_59 ?_
          refine lv_if_ge (tgt := 134) hx hb dX9_matchOf_60 (by decide) (fun c21 => ?_) (fun c21 => ?_)
          · replace h := gw_ifT c21 h
            exact hb134 (f_X9_matchOf_b33  n) ih v1 v2 v3 v4 S h _ _ _ hI (lv_sub hl [0, 1, 2, 3, 4] rfl)
          · replace h := gw_ifF c21 h
            refine lv_aload_n hx hb dX9_matchOf_63 rfl (lv_at hl 0 rfl) ?_
            refine gw_get (T := TX9) (k := 37) (v := .ref (a 32)) B hI gm_g0 rfl ly_X9_matchOf_9 (by decide) m_X9_matchOf_104 rfl rfl dX9_matchOf_64 ?_
            refine lv_iload hx hb dX9_matchOf_67 (lv_at hl 4 rfl) ?_
            refine gw_iald (t0 := 0) B hI gm_g32 rfl g19 dX9_matchOf_69 ?_
            refine lv_if_ge (tgt := 100) hx hb dX9_matchOf_70 (by decide) (fun c22 => ?_) (fun c22 => ?_)
            · replace h := gw_ifT c22 h
              exact hb100 (f_X9_matchOf_b33  n) ih v1 v2 v3 v4 S h _ _ _ hI (lv_sub hl [0, 1, 2, 3, 4] rfl)
            · replace h := gw_ifF c22 h
              refine lv_aload_n hx hb dX9_matchOf_73 rfl (lv_at hl 0 rfl) ?_
              refine lv_iload hx hb dX9_matchOf_74 (lv_at hl 4 rfl) ?_
              refine lv_iload_n hx hb dX9_matchOf_76 rfl (lv_at hl 2 rfl) ?_
              obtain ⟨r23, e24, h⟩ := gw_bdE h
              refine gw_callV (As := [.int v4, .int v2]) (n := 2) B hI (k_X9_givenOf v4 v2 S e24) gX9_matchOf_X9_givenOf rfl rfl rfl nd_X9_givenOf ⟨Nat.le_of_ble_eq_true rfl, Nat.le_of_ble_eq_true rfl⟩ gm_g0 rfl rfl rfl hl.1 (Nat.zero_le _) dX9_matchOf_77 ⟨Nat.le_of_ble_eq_true rfl, Nat.le_of_ble_eq_true rfl⟩ rfl (fun w' H locs hw hI => ?_)
              subst hw
              refine lv_istore (lv' := [(5, .int r23), (0, .ref (a 0)), (1, .int v1), (2, .int v2), (3, .int v3), (4, .int v4)]) hx hb dX9_matchOf_80 hl (by decide) rfl (fun ls hl => ?_)
              refine lv_aload_n hx hb dX9_matchOf_82 rfl (lv_at hl 1 rfl) ?_
              refine gw_get (T := TX9) (k := 37) (v := .ref (a 32)) B hI gm_g0 rfl ly_X9_matchOf_9 (by decide) m_X9_matchOf_104 rfl rfl dX9_matchOf_83 ?_
              refine lv_iload hx hb dX9_matchOf_86 (lv_at hl 5 rfl) ?_
              refine lv_iload hx hb dX9_matchOf_88 (lv_at hl 0 rfl) ?_
              refine lv_if_ge (tgt := 97) hx hb dX9_matchOf_90 (by decide) (fun c25 => ?_) (fun c25 => ?_)
              · replace h := gw_ifT c25 h
                refine lv_iload hx hb dX9_matchOf_97 (lv_at hl 0 rfl) ?_
                exact hb99 (f_X9_matchOf_b33  n) ih v1 v2 v3 v4 r23 v4 S h _ _ _ hI (lv_sub hl [1, 2, 3, 4, 5] rfl)
              · replace h := gw_ifF c25 h
                refine lv_iconst (v := -1) hx hb dX9_matchOf_93 (by decide) ?_
                refine lv_goto (tgt := 99) hx hb dX9_matchOf_94 (by decide) ?_
                exact hb99 (f_X9_matchOf_b33  n) ih v1 v2 v3 v4 (-1 : Int32) v4 S h _ _ _ hI (lv_sub hl [1, 2, 3, 4, 5] rfl)
  have hb2 :  ∀ (n : Nat), ∀ (v1 : Int32) (v2 : Int32) (v3 : Int32) (S : gw_S), f_X9_matchOf_b2  n v1 v2 v3 S = some (zr, zS) → ∀ (H : Heap) (locs : List Loc) (ls : Array Slot), gw_I D A s.heap (gw_mw cc a S) H locs → lv_has ls 6 [(0, .ref (a 0)), (1, .int v1), (2, .int v2), (3, .int v3)] → W p l e rm_X9_matchOf s m args below meth c H locs 0 0 (MQ below (gw_Q (some (.int zr)) (gw_Pst D A (fun w => w = gw_mw cc a zS)) A) args s 0 0 A) (F0 m 2 ls []) := by
    intro n
    induction n with
    | zero =>
      intro v1 v2 v3 S h
      cases h
    | succ n ih =>
      intro v1 v2 v3 S h H locs ls hI hl
      unfold f_X9_matchOf_b2 at h
      refine lv_iload_n hx hb dX9_matchOf_2 rfl (lv_at hl 3 rfl) ?_
      refine lv_aload_n hx hb dX9_matchOf_3 rfl (lv_at hl 0 rfl) ?_
      refine gw_get (T := TX9) (k := 29) (v := .int (S 0 29)) B hI gm_g0 rfl ly_X9_matchOf_9 (by decide) m_X9_matchOf_257 rfl rfl dX9_matchOf_4 ?_
      refine lv_icmp_ge (tgt := 28) hx hb dX9_matchOf_7 (by decide) (fun c26 => ?_) (fun c26 => ?_)
      · replace h := gw_ifT c26 h
        refine lv_iconst (v := 0) hx hb dX9_matchOf_28 (by decide) ?_
        refine lv_istore_n (lv' := [(3, .int (0 : Int32)), (0, .ref (a 0)), (1, .int v1), (2, .int v2)]) hx hb dX9_matchOf_29 rfl hl (by decide) rfl (fun ls hl => ?_)
        refine lv_iconst (v := 0) hx hb dX9_matchOf_30 (by decide) ?_
        refine lv_istore (lv' := [(4, .int (0 : Int32)), (3, .int (0 : Int32)), (0, .ref (a 0)), (1, .int v1), (2, .int v2)]) hx hb dX9_matchOf_31 hl (by decide) rfl (fun ls hl => ?_)
        exact hb33  gw_F v1 v2 (0 : Int32) (0 : Int32) S h _ _ _ hI (lv_sub hl [2, 3, 4, 1, 0] rfl)
      · replace h := gw_ifF c26 h
        refine lv_aload_n hx hb dX9_matchOf_10 rfl (lv_at hl 0 rfl) ?_
        refine gw_get (T := TX9) (k := 47) (v := .ref (a 42)) B hI gm_g0 rfl ly_X9_matchOf_9 (by decide) m_X9_matchOf_134 rfl rfl dX9_matchOf_11 ?_
        refine lv_iload_n hx hb dX9_matchOf_14 rfl (lv_at hl 3 rfl) ?_
        refine lv_aload_n hx hb dX9_matchOf_15 rfl (lv_at hl 0 rfl) ?_
        refine gw_get (T := TX9) (k := 37) (v := .ref (a 32)) B hI gm_g0 rfl ly_X9_matchOf_9 (by decide) m_X9_matchOf_104 rfl rfl dX9_matchOf_16 ?_
        refine lv_iload_n hx hb dX9_matchOf_19 rfl (lv_at hl 3 rfl) ?_
        obtain ⟨g27, h⟩ := gw_gdE h
        refine gw_iald (t0 := 0) B hI gm_g32 rfl g27 dX9_matchOf_20 ?_
        obtain ⟨S28, e29, h⟩ := gw_letE h
        refine gw_iast (t0 := 0) (w' := gw_mw cc a S28) B hI gm_g42 rfl g27 (gm_s42 e29) dX9_matchOf_21 (fun H locs hI => ?_)
        obtain ⟨y30, e31, h⟩ := gw_letE h
        refine lv_iinc (v := y30) (lv' := [(3, .int y30), (0, .ref (a 0)), (1, .int v1), (2, .int v2)]) hx hb dX9_matchOf_22 hl (k := 3) rfl (by rw [e31]; rfl) (by decide) rfl (fun ls hl => ?_)
        refine lv_goto (tgt := 2) hx hb dX9_matchOf_25 (by decide) ?_
        exact ih v1 v2 y30 S28 h _ _ _ hI (lv_sub hl [1, 2, 3, 0] rfl)
  unfold f_X9_matchOf at h
  refine lv_iconst (v := 0) hx hb dX9_matchOf_0 (by decide) ?_
  refine lv_istore_n (lv' := [(3, .int (0 : Int32)), (0, .ref (a 0)), (1, .int x1), (2, .int x2)]) hx hb dX9_matchOf_1 rfl hl (by decide) rfl (fun ls hl => ?_)
  exact hb2  gw_F x1 x2 (0 : Int32) S h _ _ _ hI (lv_sub hl [1, 2, 3, 0] rfl)
theorem m_X9_match_101 : Cond.fieldLink RX9 101 "GownLetModel" "offs" "[I" ∈ wsX9_match := by decide +kernel
theorem m_X9_match_257 : Cond.fieldLink RX9 257 "GownLetModel" "bookings" "I" ∈ wsX9_match := by decide +kernel
theorem m_X9_match_98 : Cond.fieldLink RX9 98 "GownLetModel" "parties" "[I" ∈ wsX9_match := by decide +kernel
theorem ly_X9_match_9 : ∀ w ∈ wsX90, w ∈ wsX9_match := fun w h => List.mem_cons_of_mem _ (List.mem_append_right _ h)
set_option maxRecDepth 100000 in
set_option maxHeartbeats 4000000 in
theorem k_X9_match (x1 : Int32) (x2 : Int32) (S : gw_S) {zr : Int32} {zS : gw_S} (h : f_X9_match x1 x2 S = some (zr, zS)) : gw_M l yX9_match wsX9_match rm_X9_match 0 0 D (gw_ty cc) t1 t2 [.ref (a 0), .int x1, .int x2] (gw_mw cc a S) (fun w => w = gw_mw cc a zS) (some (.int zr)) := by
  refine gw_enter (cc := cX9_match) (maxL := 8) (ret := (some .int)) (own := RX9) rfl (by decide) rfl (Nat.le_of_ble_eq_true rfl) ?_
  intro p e s m below meth c A B hin hI ls hl
  have hl : lv_has ls 8 [(0, .ref (a 0)), (1, .int x1), (2, .int x2)] := hl
  generalize ([.ref (a 0), .int x1, .int x2] : List Value).toArray = args at B ⊢
  have hx := B.1.1
  have hb := B.1.2.1
  have hown : s.vm.findClass RX9 = some m.cls := B.1.2.2.2.1
  have hts := B.1.2.2.2.2
  have hb126 : ∀ (K95 : Int32 → Int32 → Int32 → Int32 → Int32 → Int32 → gw_S → Option (Int32 × gw_S)) (_ : ∀ (v1 : Int32) (v2 : Int32) (v3 : Int32) (v4 : Int32) (v5 : Int32) (v6 : Int32) (S : gw_S), K95 v1 v2 v3 v4 v5 v6 S = some (zr, zS) → ∀ (H : Heap) (locs : List Loc) (ls : Array Slot), gw_I D A s.heap (gw_mw cc a S) H locs → lv_has ls 8 [(0, .ref (a 0)), (1, .int v1), (2, .int v2), (3, .int v3), (4, .int v4), (5, .int v5), (6, .int v6)] → W p l e rm_X9_match s m args below meth c H locs 0 0 (MQ below (gw_Q (some (.int zr)) (gw_Pst D A (fun w => w = gw_mw cc a zS)) A) args s 0 0 A) (F0 m 95 ls [])), ∀ (v1 : Int32) (v2 : Int32) (v3 : Int32) (v4 : Int32) (v5 : Int32) (v6 : Int32) (S : gw_S), f_X9_match_b126 K95 v1 v2 v3 v4 v5 v6 S = some (zr, zS) → ∀ (H : Heap) (locs : List Loc) (ls : Array Slot), gw_I D A s.heap (gw_mw cc a S) H locs → lv_has ls 8 [(0, .ref (a 0)), (1, .int v1), (2, .int v2), (3, .int v3), (4, .int v4), (5, .int v5), (6, .int v6)] → W p l e rm_X9_match s m args below meth c H locs 0 0 (MQ below (gw_Q (some (.int zr)) (gw_Pst D A (fun w => w = gw_mw cc a zS)) A) args s 0 0 A) (F0 m 126 ls []) := by
    intro K95 hK95
    intro v1 v2 v3 v4 v5 v6 S h H locs ls hI hl
    unfold f_X9_match_b126 at h
    obtain ⟨y1, e2, h⟩ := gw_letE h
    refine lv_iinc (v := y1) (lv' := [(6, .int y1), (0, .ref (a 0)), (1, .int v1), (2, .int v2), (3, .int v3), (4, .int v4), (5, .int v5)]) hx hb dX9_match_126 hl (k := 6) rfl (by rw [e2]; rfl) (by decide) rfl (fun ls hl => ?_)
    refine lv_goto (tgt := 95) hx hb dX9_match_129 (by decide) ?_
    exact hK95 v1 v2 v3 v4 v5 y1 S h _ _ _ hI (lv_sub hl [1, 2, 3, 4, 5, 6, 0] rfl)
  have hb95 :  ∀ (n : Nat), ∀ (v1 : Int32) (v2 : Int32) (v3 : Int32) (v4 : Int32) (v5 : Int32) (v6 : Int32) (S : gw_S), f_X9_match_b95  n v1 v2 v3 v4 v5 v6 S = some (zr, zS) → ∀ (H : Heap) (locs : List Loc) (ls : Array Slot), gw_I D A s.heap (gw_mw cc a S) H locs → lv_has ls 8 [(0, .ref (a 0)), (1, .int v1), (2, .int v2), (3, .int v3), (4, .int v4), (5, .int v5), (6, .int v6)] → W p l e rm_X9_match s m args below meth c H locs 0 0 (MQ below (gw_Q (some (.int zr)) (gw_Pst D A (fun w => w = gw_mw cc a zS)) A) args s 0 0 A) (F0 m 95 ls []) := by
    intro n
    induction n with
    | zero =>
      intro v1 v2 v3 v4 v5 v6 S h
      cases h
    | succ n ih =>
      intro v1 v2 v3 v4 v5 v6 S h H locs ls hI hl
      unfold f_X9_match_b95 at h
      refine lv_iload hx hb dX9_match_95 (lv_at hl 6 rfl) ?_
      refine lv_bipush (v := 10) hx hb dX9_match_97 (by decide) ?_
      refine lv_icmp_ge (tgt := 132) hx hb dX9_match_99 (by decide) (fun c3 => ?_) (fun c3 => ?_)
      · replace h := gw_ifT c3 h
        refine lv_iload_n hx hb dX9_match_132 rfl (lv_at hl 2 rfl) ?_
        refine lv_if_ne (tgt := 141) hx hb dX9_match_133 (by decide) (fun c4 => ?_) (fun c4 => ?_)
        · replace h := gw_ifF c4 h
          refine lv_iload_n hx hb dX9_match_141 rfl (lv_at hl 2 rfl) ?_
          refine lv_iconst (v := 1) hx hb dX9_match_142 (by decide) ?_
          refine lv_icmp_ne (tgt := 151) hx hb dX9_match_143 (by decide) (fun c5 => ?_) (fun c5 => ?_)
          · replace h := gw_ifF c5 h
            refine lv_iload_n hx hb dX9_match_151 rfl (lv_at hl 3 rfl) ?_
            obtain ⟨h1, h2⟩ := Prod.mk.inj (Option.some.inj h)
            rw [h2] at hI
            rw [← h1]
            exact gw_iret (W' := (fun w => w = gw_mw cc a zS)) B hI rfl (Nat.zero_le _) (Nat.zero_le _) dX9_match_152
          · replace h := gw_ifT c5 h
            refine lv_iload hx hb dX9_match_146 (lv_at hl 5 rfl) ?_
            refine lv_goto (tgt := 152) hx hb dX9_match_148 (by decide) ?_
            obtain ⟨h1, h2⟩ := Prod.mk.inj (Option.some.inj h)
            rw [h2] at hI
            rw [← h1]
            exact gw_iret (W' := (fun w => w = gw_mw cc a zS)) B hI rfl (Nat.zero_le _) (Nat.zero_le _) dX9_match_152
        · replace h := gw_ifT c4 h
          refine lv_iload hx hb dX9_match_136 (lv_at hl 4 rfl) ?_
          refine lv_goto (tgt := 152) hx hb dX9_match_138 (by decide) ?_
          obtain ⟨h1, h2⟩ := Prod.mk.inj (Option.some.inj h)
          rw [h2] at hI
          rw [← h1]
          exact gw_iret (W' := (fun w => w = gw_mw cc a zS)) B hI rfl (Nat.zero_le _) (Nat.zero_le _) dX9_match_152
      · replace h := gw_ifF c3 h
        refine lv_aload_n hx hb dX9_match_102 rfl (lv_at hl 0 rfl) ?_
        refine lv_iload_n hx hb dX9_match_103 rfl (lv_at hl 1 rfl) ?_
        refine lv_iload hx hb dX9_match_104 (lv_at hl 6 rfl) ?_
        obtain ⟨r6, S7, e8, h⟩ := gw_b2E h
        refine gw_callV (As := [.int v1, .int v6]) (n := 2) B hI (k_X9_matchOf v1 v6 S e8) gX9_match_X9_matchOf rfl rfl rfl nd_X9_matchOf ⟨Nat.le_of_ble_eq_true rfl, Nat.le_of_ble_eq_true rfl⟩ gm_g0 rfl rfl rfl hl.1 (Nat.zero_le _) dX9_match_106 ⟨Nat.le_of_ble_eq_true rfl, Nat.le_of_ble_eq_true rfl⟩ rfl (fun w' H locs hw hI => ?_)
        subst hw
        refine lv_istore (lv' := [(7, .int r6), (0, .ref (a 0)), (1, .int v1), (2, .int v2), (3, .int v3), (4, .int v4), (5, .int v5), (6, .int v6)]) hx hb dX9_match_109 hl (by decide) rfl (fun ls hl => ?_)
        refine lv_iload hx hb dX9_match_111 (lv_at hl 0 rfl) ?_
        refine lv_iload hx hb dX9_match_113 (lv_at hl 6 rfl) ?_
        refine lv_icmp_le (tgt := 126) hx hb dX9_match_115 (by decide) (fun c9 => ?_) (fun c9 => ?_)
        · replace h := gw_ifT c9 h
          exact hb126 (f_X9_match_b95  n) ih v1 v2 v3 v4 v5 v6 S7 h _ _ _ hI (lv_sub hl [1, 2, 3, 4, 5, 6, 7] rfl)
        · replace h := gw_ifF c9 h
          refine lv_iload hx hb dX9_match_118 (lv_at hl 0 rfl) ?_
          refine lv_istore (lv' := [(5, .int r6), (7, .int r6), (0, .ref (a 0)), (1, .int v1), (2, .int v2), (3, .int v3), (4, .int v4), (6, .int v6)]) hx hb dX9_match_120 hl (by decide) rfl (fun ls hl => ?_)
          refine lv_iload hx hb dX9_match_122 (lv_at hl 7 rfl) ?_
          refine lv_istore (lv' := [(4, .int v6), (5, .int r6), (7, .int r6), (0, .ref (a 0)), (1, .int v1), (2, .int v2), (3, .int v3), (6, .int v6)]) hx hb dX9_match_124 hl (by decide) rfl (fun ls hl => ?_)
          exact hb126 (f_X9_match_b95  n) ih v1 v2 v3 v6 r6 v6 S7 h _ _ _ hI (lv_sub hl [3, 4, 5, 6, 0, 1, 7] rfl)
  have hb67 : ∀ (K31 : Int32 → Int32 → Int32 → Int32 → gw_S → Option (Int32 × gw_S)) (_ : ∀ (v1 : Int32) (v2 : Int32) (v3 : Int32) (v4 : Int32) (S : gw_S), K31 v1 v2 v3 v4 S = some (zr, zS) → ∀ (H : Heap) (locs : List Loc) (ls : Array Slot), gw_I D A s.heap (gw_mw cc a S) H locs → lv_has ls 8 [(0, .ref (a 0)), (1, .int v1), (2, .int v2), (3, .int v3), (4, .int v4)] → W p l e rm_X9_match s m args below meth c H locs 0 0 (MQ below (gw_Q (some (.int zr)) (gw_Pst D A (fun w => w = gw_mw cc a zS)) A) args s 0 0 A) (F0 m 31 ls [])), ∀ (v1 : Int32) (v2 : Int32) (v4 : Int32) (t0_ : Int32) (t1_ : Int32) (S : gw_S), f_X9_match_b67 K31 v1 v2 v4 t0_ t1_ S = some (zr, zS) → ∀ (H : Heap) (locs : List Loc) (ls : Array Slot), gw_I D A s.heap (gw_mw cc a S) H locs → lv_has ls 8 [(0, .ref (a 0)), (1, .int v1), (2, .int v2), (4, .int v4)] → W p l e rm_X9_match s m args below meth c H locs 0 0 (MQ below (gw_Q (some (.int zr)) (gw_Pst D A (fun w => w = gw_mw cc a zS)) A) args s 0 0 A) (F0 m 67 ls [.int t0_, .int t1_]) := by
    intro K31 hK31
    intro v1 v2 v4 t0_ t1_ S h H locs ls hI hl
    unfold f_X9_match_b67 at h
    refine lv_iadd hx hb dX9_match_67 ?_
    obtain ⟨y10, e11, h⟩ := gw_letE h
    rw [← e11]
    refine lv_istore_n (lv' := [(3, .int y10), (0, .ref (a 0)), (1, .int v1), (2, .int v2), (4, .int v4)]) hx hb dX9_match_68 rfl hl (by decide) rfl (fun ls hl => ?_)
    obtain ⟨y12, e13, h⟩ := gw_letE h
    refine lv_iinc (v := y12) (lv' := [(4, .int y12), (3, .int y10), (0, .ref (a 0)), (1, .int v1), (2, .int v2)]) hx hb dX9_match_69 hl (k := 4) rfl (by rw [e13]; rfl) (by decide) rfl (fun ls hl => ?_)
    refine lv_goto (tgt := 31) hx hb dX9_match_72 (by decide) ?_
    exact hK31 v1 v2 y10 y12 S h _ _ _ hI (lv_sub hl [2, 3, 4, 1, 0] rfl)
  have hb66 : ∀ (K31 : Int32 → Int32 → Int32 → Int32 → gw_S → Option (Int32 × gw_S)) (_ : ∀ (v1 : Int32) (v2 : Int32) (v3 : Int32) (v4 : Int32) (S : gw_S), K31 v1 v2 v3 v4 S = some (zr, zS) → ∀ (H : Heap) (locs : List Loc) (ls : Array Slot), gw_I D A s.heap (gw_mw cc a S) H locs → lv_has ls 8 [(0, .ref (a 0)), (1, .int v1), (2, .int v2), (3, .int v3), (4, .int v4)] → W p l e rm_X9_match s m args below meth c H locs 0 0 (MQ below (gw_Q (some (.int zr)) (gw_Pst D A (fun w => w = gw_mw cc a zS)) A) args s 0 0 A) (F0 m 31 ls [])), ∀ (v1 : Int32) (v2 : Int32) (v4 : Int32) (t0_ : Int32) (S : gw_S), f_X9_match_b66 K31 v1 v2 v4 t0_ S = some (zr, zS) → ∀ (H : Heap) (locs : List Loc) (ls : Array Slot), gw_I D A s.heap (gw_mw cc a S) H locs → lv_has ls 8 [(0, .ref (a 0)), (1, .int v1), (2, .int v2), (4, .int v4)] → W p l e rm_X9_match s m args below meth c H locs 0 0 (MQ below (gw_Q (some (.int zr)) (gw_Pst D A (fun w => w = gw_mw cc a zS)) A) args s 0 0 A) (F0 m 66 ls [.int t0_]) := by
    intro K31 hK31
    intro v1 v2 v4 t0_ S h H locs ls hI hl
    unfold f_X9_match_b66 at h
    refine lv_iconst (v := 0) hx hb dX9_match_66 (by decide) ?_
    exact hb67 K31 hK31 v1 v2 v4 (0 : Int32) t0_ S h _ _ _ hI (lv_sub hl [0, 1, 2, 3] rfl)
  have hb31 :  ∀ (n : Nat), ∀ (v1 : Int32) (v2 : Int32) (v3 : Int32) (v4 : Int32) (S : gw_S), f_X9_match_b31  n v1 v2 v3 v4 S = some (zr, zS) → ∀ (H : Heap) (locs : List Loc) (ls : Array Slot), gw_I D A s.heap (gw_mw cc a S) H locs → lv_has ls 8 [(0, .ref (a 0)), (1, .int v1), (2, .int v2), (3, .int v3), (4, .int v4)] → W p l e rm_X9_match s m args below meth c H locs 0 0 (MQ below (gw_Q (some (.int zr)) (gw_Pst D A (fun w => w = gw_mw cc a zS)) A) args s 0 0 A) (F0 m 31 ls []) := by
    intro n
    induction n with
    | zero =>
      intro v1 v2 v3 v4 S h
      cases h
    | succ n ih =>
      intro v1 v2 v3 v4 S h H locs ls hI hl
      unfold f_X9_match_b31 at h
      refine lv_iload hx hb dX9_match_31 (lv_at hl 4 rfl) ?_
      refine lv_aload_n hx hb dX9_match_33 rfl (lv_at hl 0 rfl) ?_
      refine gw_get (T := TX9) (k := 29) (v := .int (S 0 29)) B hI gm_g0 rfl ly_X9_match_9 (by decide) m_X9_match_257 rfl rfl dX9_match_34 ?_
      refine lv_icmp_ge (tgt := 75) hx hb dX9_match_37 (by decide) (fun c14 => ?_) (fun c14 => ?_)
      · replace h := gw_ifT c14 h
        refine lv_iload_n hx hb dX9_match_75 rfl (lv_at hl 3 rfl) ?_
        refine lv_if_ne (tgt := 82) hx hb dX9_match_76 (by decide) (fun c15 => ?_) (fun c15 => ?_)
        · replace h := gw_ifF c15 h
          refine lv_aload_n hx hb dX9_match_82 rfl (lv_at hl 0 rfl) ?_
          obtain ⟨S16, e17, h⟩ := gw_bdE h
          refine gw_callVv (As := []) (n := 0) B hI (k_X9_findLies  S e17) gX9_match_X9_findLies rfl rfl rfl nd_X9_findLies ⟨Nat.le_of_ble_eq_true rfl, Nat.le_of_ble_eq_true rfl⟩ gm_g0 rfl rfl rfl hl.1 (Nat.zero_le _) dX9_match_83 ⟨Nat.le_of_ble_eq_true rfl, Nat.le_of_ble_eq_true rfl⟩ rfl (fun w' H locs hw hI => ?_)
          subst hw
          refine lv_iconst (v := 0) hx hb dX9_match_86 (by decide) ?_
          refine lv_istore (lv' := [(4, .int (0 : Int32)), (0, .ref (a 0)), (1, .int v1), (2, .int v2), (3, .int v3)]) hx hb dX9_match_87 hl (by decide) rfl (fun ls hl => ?_)
          refine lv_iconst (v := -1) hx hb dX9_match_89 (by decide) ?_
          refine lv_istore (lv' := [(5, .int (-1 : Int32)), (4, .int (0 : Int32)), (0, .ref (a 0)), (1, .int v1), (2, .int v2), (3, .int v3)]) hx hb dX9_match_90 hl (by decide) rfl (fun ls hl => ?_)
          refine lv_iconst (v := 0) hx hb dX9_match_92 (by decide) ?_
          refine lv_istore (lv' := [(6, .int (0 : Int32)), (5, .int (-1 : Int32)), (4, .int (0 : Int32)), (0, .ref (a 0)), (1, .int v1), (2, .int v2), (3, .int v3)]) hx hb dX9_match_93 hl (by decide) rfl (fun ls hl => ?_)
          exact hb95  gw_F v1 v2 v3 (0 : Int32) (-1 : Int32) (0 : Int32) S16 h _ _ _ hI (lv_sub hl [3, 4, 5, 6, 2, 1, 0] rfl)
        · replace h := gw_ifT c15 h
          refine lv_bipush (v := -4) hx hb dX9_match_79 (by decide) ?_
          obtain ⟨h1, h2⟩ := Prod.mk.inj (Option.some.inj h)
          rw [h2] at hI
          rw [← h1]
          exact gw_iret (W' := (fun w => w = gw_mw cc a zS)) B hI rfl (Nat.zero_le _) (Nat.zero_le _) dX9_match_81
      · replace h := gw_ifF c14 h
        refine lv_iload_n hx hb dX9_match_40 rfl (lv_at hl 3 rfl) ?_
        refine lv_aload_n hx hb dX9_match_41 rfl (lv_at hl 0 rfl) ?_
        refine gw_get (T := TX9) (k := 35) (v := .ref (a 30)) B hI gm_g0 rfl ly_X9_match_9 (by decide) m_X9_match_98 rfl rfl dX9_match_42 ?_
        refine lv_iload hx hb dX9_match_45 (lv_at hl 4 rfl) ?_
        obtain ⟨g18, h⟩ := gw_gdE h
        refine gw_iald (t0 := 0) B hI gm_g30 rfl g18 dX9_match_47 ?_
        refine lv_iload_n hx hb dX9_match_48 rfl (lv_at hl 1 rfl) ?_
        refine lv_icmp_ne (tgt := 66) hx hb dX9_match_49 (by decide) (fun c19 => ?_) (fun c19 => ?_)
        · replace h := gw_ifF c19 h
          exact hb66 (f_X9_match_b31  n) ih v1 v2 v4 v3 S h _ _ _ hI (lv_sub hl [0, 1, 2, 4] rfl)
        · replace h := gw_ifT c19 h
          refine lv_aload_n hx hb dX9_match_52 rfl (lv_at hl 0 rfl) ?_
          refine gw_get (T := TX9) (k := 36) (v := .ref (a 31)) B hI gm_g0 rfl ly_X9_match_9 (by decide) m_X9_match_101 rfl rfl dX9_match_53 ?_
          refine lv_iload hx hb dX9_match_56 (lv_at hl 4 rfl) ?_
          refine gw_iald (t0 := 0) B hI gm_g31 rfl g18 dX9_match_58 ?_
          refine lv_if_ge (tgt := 66) hx hb dX9_match_59 (by decide) (fun c20 => ?_) (fun c20 => ?_)
          · replace h := gw_ifT c20 h
            exact hb66 (f_X9_match_b31  n) ih v1 v2 v4 v3 S h _ _ _ hI (lv_sub hl [0, 1, 2, 4] rfl)
          · replace h := gw_ifF c20 h
            refine lv_iconst (v := 1) hx hb dX9_match_62 (by decide) ?_
            refine lv_goto (tgt := 67) hx hb dX9_match_63 (by decide) ?_
            exact hb67 (f_X9_match_b31  n) ih v1 v2 v4 (1 : Int32) v3 S h _ _ _ hI (lv_sub hl [0, 1, 2, 4] rfl)
  unfold f_X9_match at h
  refine lv_iload_n hx hb dX9_match_0 rfl (lv_at hl 1 rfl) ?_
  refine lv_i2l hx hb dX9_match_1 rfl ?_
  refine lv_lconst (v := 0) hx hb dX9_match_2 (by decide) ?_
  refine lv_ldc2 (v := 4) hx hb hown (hts (.constantLong RX9 255 (4)) (by decide +kernel)) dX9_match_3 ?_
  obtain ⟨r21, e22, h⟩ := gw_bdE h
  refine gw_callS (As := [.long (x1.toInt64), .long (0 : Int64), .long (4 : Int64)]) (n := 3) B hI (k_X9_in (x1.toInt64) (0 : Int64) (4 : Int64) S e22) gX9_match_X9_in rfl rfl rfl nds_X9_in ⟨Nat.le_of_ble_eq_true rfl, Nat.le_of_ble_eq_true rfl⟩ rfl hl.1 (Nat.zero_le _) dX9_match_6 ⟨Nat.le_of_ble_eq_true rfl, Nat.le_of_ble_eq_true rfl⟩ rfl (fun w' H locs hw hI => ?_)
  subst hw
  refine lv_if_eq (tgt := 24) hx hb dX9_match_9 (by decide) (fun c23 => ?_) (fun c23 => ?_)
  · replace h := gw_ifT c23 h
    refine lv_iconst (v := -1) hx hb dX9_match_24 (by decide) ?_
    obtain ⟨h1, h2⟩ := Prod.mk.inj (Option.some.inj h)
    rw [h2] at hI
    rw [← h1]
    exact gw_iret (W' := (fun w => w = gw_mw cc a zS)) B hI rfl (Nat.zero_le _) (Nat.zero_le _) dX9_match_25
  · replace h := gw_ifF c23 h
    refine lv_iload_n hx hb dX9_match_12 rfl (lv_at hl 2 rfl) ?_
    refine lv_i2l hx hb dX9_match_13 rfl ?_
    refine lv_lconst (v := 0) hx hb dX9_match_14 (by decide) ?_
    refine lv_ldc2 (v := 2) hx hb hown (hts (.constantLong RX9 241 (2)) (by decide +kernel)) dX9_match_15 ?_
    obtain ⟨r24, e25, h⟩ := gw_bdE h
    refine gw_callS (As := [.long (x2.toInt64), .long (0 : Int64), .long (2 : Int64)]) (n := 3) B hI (k_X9_in (x2.toInt64) (0 : Int64) (2 : Int64) S e25) gX9_match_X9_in rfl rfl rfl nds_X9_in ⟨Nat.le_of_ble_eq_true rfl, Nat.le_of_ble_eq_true rfl⟩ rfl hl.1 (Nat.zero_le _) dX9_match_18 ⟨Nat.le_of_ble_eq_true rfl, Nat.le_of_ble_eq_true rfl⟩ rfl (fun w' H locs hw hI => ?_)
    subst hw
    refine lv_if_ne (tgt := 26) hx hb dX9_match_21 (by decide) (fun c26 => ?_) (fun c26 => ?_)
    · replace h := gw_ifF c26 h
      refine lv_iconst (v := 0) hx hb dX9_match_26 (by decide) ?_
      refine lv_istore_n (lv' := [(3, .int (0 : Int32)), (0, .ref (a 0)), (1, .int x1), (2, .int x2)]) hx hb dX9_match_27 rfl hl (by decide) rfl (fun ls hl => ?_)
      refine lv_iconst (v := 0) hx hb dX9_match_28 (by decide) ?_
      refine lv_istore (lv' := [(4, .int (0 : Int32)), (3, .int (0 : Int32)), (0, .ref (a 0)), (1, .int x1), (2, .int x2)]) hx hb dX9_match_29 hl (by decide) rfl (fun ls hl => ?_)
      exact hb31  gw_F x1 x2 (0 : Int32) (0 : Int32) S h _ _ _ hI (lv_sub hl [2, 3, 4, 1, 0] rfl)
    · replace h := gw_ifT c26 h
      refine lv_iconst (v := -1) hx hb dX9_match_24 (by decide) ?_
      obtain ⟨h1, h2⟩ := Prod.mk.inj (Option.some.inj h)
      rw [h2] at hI
      rw [← h1]
      exact gw_iret (W' := (fun w => w = gw_mw cc a zS)) B hI rfl (Nat.zero_le _) (Nat.zero_le _) dX9_match_25
theorem m_X9_asOf_101 : Cond.fieldLink RX9 101 "GownLetModel" "offs" "[I" ∈ wsX9_asOf := by decide +kernel
theorem m_X9_asOf_257 : Cond.fieldLink RX9 257 "GownLetModel" "bookings" "I" ∈ wsX9_asOf := by decide +kernel
theorem m_X9_asOf_89 : Cond.fieldLink RX9 89 "GownLetModel" "nights" "[I" ∈ wsX9_asOf := by decide +kernel
theorem m_X9_asOf_95 : Cond.fieldLink RX9 95 "GownLetModel" "made" "[I" ∈ wsX9_asOf := by decide +kernel
theorem ly_X9_asOf_9 : ∀ w ∈ wsX90, w ∈ wsX9_asOf := fun w h => List.mem_cons_of_mem _ (List.mem_append_right _ h)
set_option maxRecDepth 100000 in
set_option maxHeartbeats 4000000 in
theorem k_X9_asOf (x1 : Int32) (x2 : Int32) (x3 : Int32) (x4 : Int32) (S : gw_S) {zr : Int32} (h : f_X9_asOf x1 x2 x3 x4 S = some zr) : gw_M l yX9_asOf wsX9_asOf rm_X9_asOf 0 0 D (gw_ty cc) t1 t2 [.ref (a 0), .int x1, .int x2, .int x3, .int x4] (gw_mw cc a S) (fun w => w = gw_mw cc a S) (some (.int zr)) := by
  refine gw_enter (cc := cX9_asOf) (maxL := 8) (ret := (some .int)) (own := RX9) rfl (by decide) rfl (Nat.le_of_ble_eq_true rfl) ?_
  intro p e s m below meth c A B hin hI ls hl
  have hl : lv_has ls 8 [(0, .ref (a 0)), (1, .int x1), (2, .int x2), (3, .int x3), (4, .int x4)] := hl
  generalize ([.ref (a 0), .int x1, .int x2, .int x3, .int x4] : List Value).toArray = args at B ⊢
  have hx := B.1.1
  have hb := B.1.2.1
  have hown : s.vm.findClass RX9 = some m.cls := B.1.2.2.2.1
  have hts := B.1.2.2.2.2
  have hb113 : ∀ (K30 : Int32 → Int32 → Int32 → Int32 → Int32 → Int32 → Option (Int32)) (_ : ∀ (v1 : Int32) (v2 : Int32) (v3 : Int32) (v4 : Int32) (v5 : Int32) (v6 : Int32), K30 v1 v2 v3 v4 v5 v6 = some zr → ∀ (H : Heap) (locs : List Loc) (ls : Array Slot), gw_I D A s.heap (gw_mw cc a S) H locs → lv_has ls 8 [(0, .ref (a 0)), (1, .int v1), (2, .int v2), (3, .int v3), (4, .int v4), (5, .int v5), (6, .int v6)] → W p l e rm_X9_asOf s m args below meth c H locs 0 0 (MQ below (gw_Q (some (.int zr)) (gw_Pst D A (fun w => w = gw_mw cc a S)) A) args s 0 0 A) (F0 m 30 ls [])), ∀ (v1 : Int32) (v2 : Int32) (v3 : Int32) (v4 : Int32) (v6 : Int32) (t0_ : Int32) (t1_ : Int32), f_X9_asOf_b113 S K30 v1 v2 v3 v4 v6 t0_ t1_ = some zr → ∀ (H : Heap) (locs : List Loc) (ls : Array Slot), gw_I D A s.heap (gw_mw cc a S) H locs → lv_has ls 8 [(0, .ref (a 0)), (1, .int v1), (2, .int v2), (3, .int v3), (4, .int v4), (6, .int v6)] → W p l e rm_X9_asOf s m args below meth c H locs 0 0 (MQ below (gw_Q (some (.int zr)) (gw_Pst D A (fun w => w = gw_mw cc a S)) A) args s 0 0 A) (F0 m 113 ls [.int t0_, .int t1_]) := by
    intro K30 hK30
    intro v1 v2 v3 v4 v6 t0_ t1_ h H locs ls hI hl
    unfold f_X9_asOf_b113 at h
    refine lv_iadd hx hb dX9_asOf_113 ?_
    obtain ⟨y1, e2, h⟩ := gw_letE h
    rw [← e2]
    refine lv_istore (lv' := [(5, .int y1), (0, .ref (a 0)), (1, .int v1), (2, .int v2), (3, .int v3), (4, .int v4), (6, .int v6)]) hx hb dX9_asOf_114 hl (by decide) rfl (fun ls hl => ?_)
    obtain ⟨y3, e4, h⟩ := gw_letE h
    refine lv_iinc (v := y3) (lv' := [(6, .int y3), (5, .int y1), (0, .ref (a 0)), (1, .int v1), (2, .int v2), (3, .int v3), (4, .int v4)]) hx hb dX9_asOf_116 hl (k := 6) rfl (by rw [e4]; rfl) (by decide) rfl (fun ls hl => ?_)
    refine lv_goto (tgt := 30) hx hb dX9_asOf_119 (by decide) ?_
    exact hK30 v1 v2 v3 v4 y1 y3 h _ _ _ hI (lv_sub hl [2, 3, 4, 5, 6, 1, 0] rfl)
  have hb112 : ∀ (K30 : Int32 → Int32 → Int32 → Int32 → Int32 → Int32 → Option (Int32)) (_ : ∀ (v1 : Int32) (v2 : Int32) (v3 : Int32) (v4 : Int32) (v5 : Int32) (v6 : Int32), K30 v1 v2 v3 v4 v5 v6 = some zr → ∀ (H : Heap) (locs : List Loc) (ls : Array Slot), gw_I D A s.heap (gw_mw cc a S) H locs → lv_has ls 8 [(0, .ref (a 0)), (1, .int v1), (2, .int v2), (3, .int v3), (4, .int v4), (5, .int v5), (6, .int v6)] → W p l e rm_X9_asOf s m args below meth c H locs 0 0 (MQ below (gw_Q (some (.int zr)) (gw_Pst D A (fun w => w = gw_mw cc a S)) A) args s 0 0 A) (F0 m 30 ls [])), ∀ (v1 : Int32) (v2 : Int32) (v3 : Int32) (v4 : Int32) (v6 : Int32) (t0_ : Int32), f_X9_asOf_b112 S K30 v1 v2 v3 v4 v6 t0_ = some zr → ∀ (H : Heap) (locs : List Loc) (ls : Array Slot), gw_I D A s.heap (gw_mw cc a S) H locs → lv_has ls 8 [(0, .ref (a 0)), (1, .int v1), (2, .int v2), (3, .int v3), (4, .int v4), (6, .int v6)] → W p l e rm_X9_asOf s m args below meth c H locs 0 0 (MQ below (gw_Q (some (.int zr)) (gw_Pst D A (fun w => w = gw_mw cc a S)) A) args s 0 0 A) (F0 m 112 ls [.int t0_]) := by
    intro K30 hK30
    intro v1 v2 v3 v4 v6 t0_ h H locs ls hI hl
    unfold f_X9_asOf_b112 at h
    refine lv_iconst (v := 0) hx hb dX9_asOf_112 (by decide) ?_
    exact hb113 K30 hK30 v1 v2 v3 v4 v6 (0 : Int32) t0_ h _ _ _ hI (lv_sub hl [0, 1, 2, 3, 4, 5] rfl)
  have hb108 : ∀ (K30 : Int32 → Int32 → Int32 → Int32 → Int32 → Int32 → Option (Int32)) (_ : ∀ (v1 : Int32) (v2 : Int32) (v3 : Int32) (v4 : Int32) (v5 : Int32) (v6 : Int32), K30 v1 v2 v3 v4 v5 v6 = some zr → ∀ (H : Heap) (locs : List Loc) (ls : Array Slot), gw_I D A s.heap (gw_mw cc a S) H locs → lv_has ls 8 [(0, .ref (a 0)), (1, .int v1), (2, .int v2), (3, .int v3), (4, .int v4), (5, .int v5), (6, .int v6)] → W p l e rm_X9_asOf s m args below meth c H locs 0 0 (MQ below (gw_Q (some (.int zr)) (gw_Pst D A (fun w => w = gw_mw cc a S)) A) args s 0 0 A) (F0 m 30 ls [])), ∀ (v1 : Int32) (v2 : Int32) (v3 : Int32) (v4 : Int32) (v6 : Int32) (t0_ : Int32), f_X9_asOf_b108 S K30 v1 v2 v3 v4 v6 t0_ = some zr → ∀ (H : Heap) (locs : List Loc) (ls : Array Slot), gw_I D A s.heap (gw_mw cc a S) H locs → lv_has ls 8 [(0, .ref (a 0)), (1, .int v1), (2, .int v2), (3, .int v3), (4, .int v4), (6, .int v6)] → W p l e rm_X9_asOf s m args below meth c H locs 0 0 (MQ below (gw_Q (some (.int zr)) (gw_Pst D A (fun w => w = gw_mw cc a S)) A) args s 0 0 A) (F0 m 108 ls [.int t0_]) := by
    intro K30 hK30
    intro v1 v2 v3 v4 v6 t0_ h H locs ls hI hl
    unfold f_X9_asOf_b108 at h
    refine lv_iconst (v := 1) hx hb dX9_asOf_108 (by decide) ?_
    refine lv_goto (tgt := 113) hx hb dX9_asOf_109 (by decide) ?_
    exact hb113 K30 hK30 v1 v2 v3 v4 v6 (1 : Int32) t0_ h _ _ _ hI (lv_sub hl [0, 1, 2, 3, 4, 5] rfl)
  have hb76 : ∀ (K30 : Int32 → Int32 → Int32 → Int32 → Int32 → Int32 → Option (Int32)) (_ : ∀ (v1 : Int32) (v2 : Int32) (v3 : Int32) (v4 : Int32) (v5 : Int32) (v6 : Int32), K30 v1 v2 v3 v4 v5 v6 = some zr → ∀ (H : Heap) (locs : List Loc) (ls : Array Slot), gw_I D A s.heap (gw_mw cc a S) H locs → lv_has ls 8 [(0, .ref (a 0)), (1, .int v1), (2, .int v2), (3, .int v3), (4, .int v4), (5, .int v5), (6, .int v6)] → W p l e rm_X9_asOf s m args below meth c H locs 0 0 (MQ below (gw_Q (some (.int zr)) (gw_Pst D A (fun w => w = gw_mw cc a S)) A) args s 0 0 A) (F0 m 30 ls [])), ∀ (v1 : Int32) (v2 : Int32) (v3 : Int32) (v4 : Int32) (v5 : Int32) (v6 : Int32) (t0_ : Int32), f_X9_asOf_b76 S K30 v1 v2 v3 v4 v5 v6 t0_ = some zr → ∀ (H : Heap) (locs : List Loc) (ls : Array Slot), gw_I D A s.heap (gw_mw cc a S) H locs → lv_has ls 8 [(0, .ref (a 0)), (1, .int v1), (2, .int v2), (3, .int v3), (4, .int v4), (5, .int v5), (6, .int v6)] → W p l e rm_X9_asOf s m args below meth c H locs 0 0 (MQ below (gw_Q (some (.int zr)) (gw_Pst D A (fun w => w = gw_mw cc a S)) A) args s 0 0 A) (F0 m 76 ls [.int t0_]) := by
    intro K30 hK30
    intro v1 v2 v3 v4 v5 v6 t0_ h H locs ls hI hl
    unfold f_X9_asOf_b76 at h
    refine lv_istore (lv' := [(7, .int t0_), (0, .ref (a 0)), (1, .int v1), (2, .int v2), (3, .int v3), (4, .int v4), (5, .int v5), (6, .int v6)]) hx hb dX9_asOf_76 hl (by decide) rfl (fun ls hl => ?_)
    refine lv_iload hx hb dX9_asOf_78 (lv_at hl 6 rfl) ?_
    refine lv_iload hx hb dX9_asOf_80 (lv_at hl 0 rfl) ?_
    refine lv_if_eq (tgt := 112) hx hb dX9_asOf_82 (by decide) (fun c5 => ?_) (fun c5 => ?_)
    · replace h := gw_ifT c5 h
      exact hb112 K30 hK30 v1 v2 v3 v4 v6 v5 h _ _ _ hI (lv_sub hl [1, 2, 3, 4, 5, 7] rfl)
    · replace h := gw_ifF c5 h
      refine lv_iload_n hx hb dX9_asOf_85 rfl (lv_at hl 3 rfl) ?_
      refine lv_if_eq (tgt := 108) hx hb dX9_asOf_86 (by decide) (fun c6 => ?_) (fun c6 => ?_)
      · replace h := gw_ifT c6 h
        exact hb108 K30 hK30 v1 v2 v3 v4 v6 v5 h _ _ _ hI (lv_sub hl [1, 2, 3, 4, 5, 7] rfl)
      · replace h := gw_ifF c6 h
        refine lv_aload_n hx hb dX9_asOf_89 rfl (lv_at hl 1 rfl) ?_
        refine gw_get (T := TX9) (k := 32) (v := .ref (a 27)) B hI gm_g0 rfl ly_X9_asOf_9 (by decide) m_X9_asOf_89 rfl rfl dX9_asOf_90 ?_
        refine lv_iload hx hb dX9_asOf_93 (lv_at hl 7 rfl) ?_
        obtain ⟨g7, h⟩ := gw_gdE h
        refine gw_iald (t0 := 0) B hI gm_g27 rfl g7 dX9_asOf_95 ?_
        refine lv_i2l hx hb dX9_asOf_96 rfl ?_
        refine lv_iload_n hx hb dX9_asOf_97 rfl (lv_at hl 4 rfl) ?_
        refine lv_i2l hx hb dX9_asOf_98 rfl ?_
        refine lv_iload hx hb dX9_asOf_99 (lv_at hl 5 rfl) ?_
        refine lv_i2l hx hb dX9_asOf_101 rfl ?_
        obtain ⟨r8, e9, h⟩ := gw_bdE h
        refine gw_callS (As := [.long ((S 27 v6.toNatClampNeg).toInt64), .long (v3.toInt64), .long (v4.toInt64)]) (n := 3) B hI (k_X9_in ((S 27 v6.toNatClampNeg).toInt64) (v3.toInt64) (v4.toInt64) S e9) gX9_asOf_X9_in rfl rfl rfl nds_X9_in ⟨Nat.le_of_ble_eq_true rfl, Nat.le_of_ble_eq_true rfl⟩ rfl hl.1 (by simp [gw_catq, gw_cI, gw_cR, gw_cL]) dX9_asOf_102 ⟨Nat.le_of_ble_eq_true rfl, Nat.le_of_ble_eq_true rfl⟩ rfl (fun w' H locs hw hI => ?_)
        subst hw
        refine lv_if_eq (tgt := 112) hx hb dX9_asOf_105 (by decide) (fun c10 => ?_) (fun c10 => ?_)
        · replace h := gw_ifT c10 h
          exact hb112 K30 hK30 v1 v2 v3 v4 v6 v5 h _ _ _ hI (lv_sub hl [1, 2, 3, 4, 5, 7] rfl)
        · replace h := gw_ifF c10 h
          exact hb108 K30 hK30 v1 v2 v3 v4 v6 v5 h _ _ _ hI (lv_sub hl [1, 2, 3, 4, 5, 7] rfl)
  have hb75 : ∀ (K30 : Int32 → Int32 → Int32 → Int32 → Int32 → Int32 → Option (Int32)) (_ : ∀ (v1 : Int32) (v2 : Int32) (v3 : Int32) (v4 : Int32) (v5 : Int32) (v6 : Int32), K30 v1 v2 v3 v4 v5 v6 = some zr → ∀ (H : Heap) (locs : List Loc) (ls : Array Slot), gw_I D A s.heap (gw_mw cc a S) H locs → lv_has ls 8 [(0, .ref (a 0)), (1, .int v1), (2, .int v2), (3, .int v3), (4, .int v4), (5, .int v5), (6, .int v6)] → W p l e rm_X9_asOf s m args below meth c H locs 0 0 (MQ below (gw_Q (some (.int zr)) (gw_Pst D A (fun w => w = gw_mw cc a S)) A) args s 0 0 A) (F0 m 30 ls [])), ∀ (v1 : Int32) (v2 : Int32) (v3 : Int32) (v4 : Int32) (v5 : Int32) (v6 : Int32), f_X9_asOf_b75 S K30 v1 v2 v3 v4 v5 v6 = some zr → ∀ (H : Heap) (locs : List Loc) (ls : Array Slot), gw_I D A s.heap (gw_mw cc a S) H locs → lv_has ls 8 [(0, .ref (a 0)), (1, .int v1), (2, .int v2), (3, .int v3), (4, .int v4), (5, .int v5), (6, .int v6)] → W p l e rm_X9_asOf s m args below meth c H locs 0 0 (MQ below (gw_Q (some (.int zr)) (gw_Pst D A (fun w => w = gw_mw cc a S)) A) args s 0 0 A) (F0 m 75 ls []) := by
    intro K30 hK30
    intro v1 v2 v3 v4 v5 v6 h H locs ls hI hl
    unfold f_X9_asOf_b75 at h
    refine lv_iconst (v := 0) hx hb dX9_asOf_75 (by decide) ?_
    exact hb76 K30 hK30 v1 v2 v3 v4 v5 v6 (0 : Int32) h _ _ _ hI (lv_sub hl [0, 1, 2, 3, 4, 5, 6] rfl)
  have hb71 : ∀ (K30 : Int32 → Int32 → Int32 → Int32 → Int32 → Int32 → Option (Int32)) (_ : ∀ (v1 : Int32) (v2 : Int32) (v3 : Int32) (v4 : Int32) (v5 : Int32) (v6 : Int32), K30 v1 v2 v3 v4 v5 v6 = some zr → ∀ (H : Heap) (locs : List Loc) (ls : Array Slot), gw_I D A s.heap (gw_mw cc a S) H locs → lv_has ls 8 [(0, .ref (a 0)), (1, .int v1), (2, .int v2), (3, .int v3), (4, .int v4), (5, .int v5), (6, .int v6)] → W p l e rm_X9_asOf s m args below meth c H locs 0 0 (MQ below (gw_Q (some (.int zr)) (gw_Pst D A (fun w => w = gw_mw cc a S)) A) args s 0 0 A) (F0 m 30 ls [])), ∀ (v1 : Int32) (v2 : Int32) (v3 : Int32) (v4 : Int32) (v5 : Int32) (v6 : Int32), f_X9_asOf_b71 S K30 v1 v2 v3 v4 v5 v6 = some zr → ∀ (H : Heap) (locs : List Loc) (ls : Array Slot), gw_I D A s.heap (gw_mw cc a S) H locs → lv_has ls 8 [(0, .ref (a 0)), (1, .int v1), (2, .int v2), (3, .int v3), (4, .int v4), (5, .int v5), (6, .int v6)] → W p l e rm_X9_asOf s m args below meth c H locs 0 0 (MQ below (gw_Q (some (.int zr)) (gw_Pst D A (fun w => w = gw_mw cc a S)) A) args s 0 0 A) (F0 m 71 ls []) := by
    intro K30 hK30
    intro v1 v2 v3 v4 v5 v6 h H locs ls hI hl
    unfold f_X9_asOf_b71 at h
    refine lv_iconst (v := 1) hx hb dX9_asOf_71 (by decide) ?_
    refine lv_goto (tgt := 76) hx hb dX9_asOf_72 (by decide) ?_
    exact hb76 K30 hK30 v1 v2 v3 v4 v5 v6 (1 : Int32) h _ _ _ hI (lv_sub hl [0, 1, 2, 3, 4, 5, 6] rfl)
  have hb30 :  ∀ (n : Nat), ∀ (v1 : Int32) (v2 : Int32) (v3 : Int32) (v4 : Int32) (v5 : Int32) (v6 : Int32), f_X9_asOf_b30 S  n v1 v2 v3 v4 v5 v6 = some zr → ∀ (H : Heap) (locs : List Loc) (ls : Array Slot), gw_I D A s.heap (gw_mw cc a S) H locs → lv_has ls 8 [(0, .ref (a 0)), (1, .int v1), (2, .int v2), (3, .int v3), (4, .int v4), (5, .int v5), (6, .int v6)] → W p l e rm_X9_asOf s m args below meth c H locs 0 0 (MQ below (gw_Q (some (.int zr)) (gw_Pst D A (fun w => w = gw_mw cc a S)) A) args s 0 0 A) (F0 m 30 ls []) := by
    intro n
    induction n with
    | zero =>
      intro v1 v2 v3 v4 v5 v6 h
      cases h
    | succ n ih =>
      intro v1 v2 v3 v4 v5 v6 h H locs ls hI hl
      unfold f_X9_asOf_b30 at h
      refine lv_iload hx hb dX9_asOf_30 (lv_at hl 6 rfl) ?_
      refine lv_aload_n hx hb dX9_asOf_32 rfl (lv_at hl 0 rfl) ?_
      refine gw_get (T := TX9) (k := 29) (v := .int (S 0 29)) B hI gm_g0 rfl ly_X9_asOf_9 (by decide) m_X9_asOf_257 rfl rfl dX9_asOf_33 ?_
      refine lv_icmp_ge (tgt := 122) hx hb dX9_asOf_36 (by decide) (fun c11 => ?_) (fun c11 => ?_)
      · replace h := gw_ifT c11 h
        refine lv_iload hx hb dX9_asOf_122 (lv_at hl 5 rfl) ?_
        rw [← Option.some.inj h]
        exact gw_iret (W' := (fun w => w = gw_mw cc a S)) B hI rfl (Nat.zero_le _) (Nat.zero_le _) dX9_asOf_124
      · replace h := gw_ifF c11 h
        refine lv_aload_n hx hb dX9_asOf_39 rfl (lv_at hl 0 rfl) ?_
        refine gw_get (T := TX9) (k := 34) (v := .ref (a 29)) B hI gm_g0 rfl ly_X9_asOf_9 (by decide) m_X9_asOf_95 rfl rfl dX9_asOf_40 ?_
        refine lv_iload hx hb dX9_asOf_43 (lv_at hl 6 rfl) ?_
        obtain ⟨g12, h⟩ := gw_gdE h
        refine gw_iald (t0 := 0) B hI gm_g29 rfl g12 dX9_asOf_45 ?_
        refine lv_iload_n hx hb dX9_asOf_46 rfl (lv_at hl 1 rfl) ?_
        refine lv_icmp_gt (tgt := 75) hx hb dX9_asOf_47 (by decide) (fun c13 => ?_) (fun c13 => ?_)
        · replace h := gw_ifT c13 h
          exact hb75 (f_X9_asOf_b30 S  n) ih v1 v2 v3 v4 v5 v6 h _ _ _ hI (lv_sub hl [0, 1, 2, 3, 4, 5, 6] rfl)
        · replace h := gw_ifF c13 h
          refine lv_aload_n hx hb dX9_asOf_50 rfl (lv_at hl 0 rfl) ?_
          refine gw_get (T := TX9) (k := 36) (v := .ref (a 31)) B hI gm_g0 rfl ly_X9_asOf_9 (by decide) m_X9_asOf_101 rfl rfl dX9_asOf_51 ?_
          refine lv_iload hx hb dX9_asOf_54 (lv_at hl 6 rfl) ?_
          refine gw_iald (t0 := 0) B hI gm_g31 rfl g12 dX9_asOf_56 ?_
          refine lv_if_lt (tgt := 71) hx hb dX9_asOf_57 (by decide) (fun c14 => ?_) (fun c14 => ?_)
          · replace h := gw_ifT c14 h
            exact hb71 (f_X9_asOf_b30 S  n) ih v1 v2 v3 v4 v5 v6 h _ _ _ hI (lv_sub hl [0, 1, 2, 3, 4, 5, 6] rfl)
          · replace h := gw_ifF c14 h
            refine lv_aload_n hx hb dX9_asOf_60 rfl (lv_at hl 0 rfl) ?_
            refine gw_get (T := TX9) (k := 36) (v := .ref (a 31)) B hI gm_g0 rfl ly_X9_asOf_9 (by decide) m_X9_asOf_101 rfl rfl dX9_asOf_61 ?_
            refine lv_iload hx hb dX9_asOf_64 (lv_at hl 6 rfl) ?_
            refine gw_iald (t0 := 0) B hI gm_g31 rfl g12 dX9_asOf_66 ?_
            refine lv_iload_n hx hb dX9_asOf_67 rfl (lv_at hl 1 rfl) ?_
            refine lv_icmp_le (tgt := 75) hx hb dX9_asOf_68 (by decide) (fun c15 => ?_) (fun c15 => ?_)
            · replace h := gw_ifT c15 h
              exact hb75 (f_X9_asOf_b30 S  n) ih v1 v2 v3 v4 v5 v6 h _ _ _ hI (lv_sub hl [0, 1, 2, 3, 4, 5, 6] rfl)
            · replace h := gw_ifF c15 h
              exact hb71 (f_X9_asOf_b30 S  n) ih v1 v2 v3 v4 v5 v6 h _ _ _ hI (lv_sub hl [0, 1, 2, 3, 4, 5, 6] rfl)
  unfold f_X9_asOf at h
  refine lv_iload_n hx hb dX9_asOf_0 rfl (lv_at hl 1 rfl) ?_
  refine lv_i2l hx hb dX9_asOf_1 rfl ?_
  refine lv_lconst (v := 0) hx hb dX9_asOf_2 (by decide) ?_
  refine lv_ldc2 (v := 399) hx hb hown (hts (.constantLong RX9 251 (399)) (by decide +kernel)) dX9_asOf_3 ?_
  obtain ⟨r16, e17, h⟩ := gw_bdE h
  refine gw_callS (As := [.long (x1.toInt64), .long (0 : Int64), .long (399 : Int64)]) (n := 3) B hI (k_X9_in (x1.toInt64) (0 : Int64) (399 : Int64) S e17) gX9_asOf_X9_in rfl rfl rfl nds_X9_in ⟨Nat.le_of_ble_eq_true rfl, Nat.le_of_ble_eq_true rfl⟩ rfl hl.1 (Nat.zero_le _) dX9_asOf_6 ⟨Nat.le_of_ble_eq_true rfl, Nat.le_of_ble_eq_true rfl⟩ rfl (fun w' H locs hw hI => ?_)
  subst hw
  refine lv_if_eq (tgt := 22) hx hb dX9_asOf_9 (by decide) (fun c18 => ?_) (fun c18 => ?_)
  · replace h := gw_ifT c18 h
    refine lv_iconst (v := -1) hx hb dX9_asOf_22 (by decide) ?_
    rw [← Option.some.inj h]
    exact gw_iret (W' := (fun w => w = gw_mw cc a S)) B hI rfl (Nat.zero_le _) (Nat.zero_le _) dX9_asOf_23
  · replace h := gw_ifF c18 h
    refine lv_iload_n hx hb dX9_asOf_12 rfl (lv_at hl 2 rfl) ?_
    refine lv_i2l hx hb dX9_asOf_13 rfl ?_
    refine lv_lconst (v := 0) hx hb dX9_asOf_14 (by decide) ?_
    refine lv_lconst (v := 1) hx hb dX9_asOf_15 (by decide) ?_
    obtain ⟨r19, e20, h⟩ := gw_bdE h
    refine gw_callS (As := [.long (x2.toInt64), .long (0 : Int64), .long (1 : Int64)]) (n := 3) B hI (k_X9_in (x2.toInt64) (0 : Int64) (1 : Int64) S e20) gX9_asOf_X9_in rfl rfl rfl nds_X9_in ⟨Nat.le_of_ble_eq_true rfl, Nat.le_of_ble_eq_true rfl⟩ rfl hl.1 (Nat.zero_le _) dX9_asOf_16 ⟨Nat.le_of_ble_eq_true rfl, Nat.le_of_ble_eq_true rfl⟩ rfl (fun w' H locs hw hI => ?_)
    subst hw
    refine lv_if_ne (tgt := 24) hx hb dX9_asOf_19 (by decide) (fun c21 => ?_) (fun c21 => ?_)
    · replace h := gw_ifF c21 h
      refine lv_iconst (v := 0) hx hb dX9_asOf_24 (by decide) ?_
      refine lv_istore (lv' := [(5, .int (0 : Int32)), (0, .ref (a 0)), (1, .int x1), (2, .int x2), (3, .int x3), (4, .int x4)]) hx hb dX9_asOf_25 hl (by decide) rfl (fun ls hl => ?_)
      refine lv_iconst (v := 0) hx hb dX9_asOf_27 (by decide) ?_
      refine lv_istore (lv' := [(6, .int (0 : Int32)), (5, .int (0 : Int32)), (0, .ref (a 0)), (1, .int x1), (2, .int x2), (3, .int x3), (4, .int x4)]) hx hb dX9_asOf_28 hl (by decide) rfl (fun ls hl => ?_)
      exact hb30  gw_F x1 x2 x3 x4 (0 : Int32) (0 : Int32) h _ _ _ hI (lv_sub hl [2, 3, 4, 5, 6, 1, 0] rfl)
    · replace h := gw_ifT c21 h
      refine lv_iconst (v := -1) hx hb dX9_asOf_22 (by decide) ?_
      rw [← Option.some.inj h]
      exact gw_iret (W' := (fun w => w = gw_mw cc a S)) B hI rfl (Nat.zero_le _) (Nat.zero_le _) dX9_asOf_23
set_option maxRecDepth 100000 in
set_option maxHeartbeats 4000000 in
theorem k_X9_ones (x0 : Int32) (S : gw_S) {zr : Int32} (h : f_X9_ones x0 S = some zr) : gw_M l yX9_ones wsX9_ones rm_X9_ones 0 0 D (gw_ty cc) t1 t2 [.int x0] (gw_mw cc a S) (fun w => w = gw_mw cc a S) (some (.int zr)) := by
  refine gw_enter (cc := cX9_ones) (maxL := 3) (ret := (some .int)) (own := RX9) rfl (by decide) rfl (Nat.le_of_ble_eq_true rfl) ?_
  intro p e s m below meth c A B hin hI ls hl
  have hl : lv_has ls 3 [(0, .int x0)] := hl
  generalize ([.int x0] : List Value).toArray = args at B ⊢
  have hx := B.1.1
  have hb := B.1.2.1
  have hown : s.vm.findClass RX9 = some m.cls := B.1.2.2.2.1
  have hts := B.1.2.2.2.2
  have hb4 :  ∀ (n : Nat), ∀ (v1 : Int32) (v2 : Int32), f_X9_ones_b4 S  n v1 v2 = some zr → ∀ (H : Heap) (locs : List Loc) (ls : Array Slot), gw_I D A s.heap (gw_mw cc a S) H locs → lv_has ls 3 [(1, .int v1), (2, .int v2)] → W p l e rm_X9_ones s m args below meth c H locs 0 0 (MQ below (gw_Q (some (.int zr)) (gw_Pst D A (fun w => w = gw_mw cc a S)) A) args s 0 0 A) (F0 m 4 ls []) := by
    intro n
    induction n with
    | zero =>
      intro v1 v2 h
      cases h
    | succ n ih =>
      intro v1 v2 h H locs ls hI hl
      unfold f_X9_ones_b4 at h
      refine lv_iload_n hx hb dX9_ones_4 rfl (lv_at hl 1 rfl) ?_
      refine lv_if_eq (tgt := 20) hx hb dX9_ones_5 (by decide) (fun c1 => ?_) (fun c1 => ?_)
      · replace h := gw_ifT c1 h
        refine lv_iload_n hx hb dX9_ones_20 rfl (lv_at hl 0 rfl) ?_
        rw [← Option.some.inj h]
        exact gw_iret (W' := (fun w => w = gw_mw cc a S)) B hI rfl (Nat.zero_le _) (Nat.zero_le _) dX9_ones_21
      · replace h := gw_ifF c1 h
        obtain ⟨y2, e3, h⟩ := gw_letE h
        refine lv_iinc (v := y2) (lv' := [(1, .int y2), (2, .int v2)]) hx hb dX9_ones_8 hl (k := 0) rfl (by rw [e3]; rfl) (by decide) rfl (fun ls hl => ?_)
        refine lv_iload_n hx hb dX9_ones_11 rfl (lv_at hl 1 rfl) ?_
        refine lv_iload_n hx hb dX9_ones_12 rfl (lv_at hl 1 rfl) ?_
        refine lv_iconst (v := 1) hx hb dX9_ones_13 (by decide) ?_
        refine lv_isub hx hb dX9_ones_14 ?_
        refine lv_iand hx hb dX9_ones_15 ?_
        obtain ⟨y4, e5, h⟩ := gw_letE h
        rw [← e5]
        refine lv_istore_n (lv' := [(2, .int y4), (1, .int y2)]) hx hb dX9_ones_16 rfl hl (by decide) rfl (fun ls hl => ?_)
        refine lv_goto (tgt := 4) hx hb dX9_ones_17 (by decide) ?_
        exact ih y2 y4 h _ _ _ hI (lv_sub hl [1, 0] rfl)
  unfold f_X9_ones at h
  refine lv_iconst (v := 0) hx hb dX9_ones_0 (by decide) ?_
  refine lv_istore_n (lv' := [(1, .int (0 : Int32)), (0, .int x0)]) hx hb dX9_ones_1 rfl hl (by decide) rfl (fun ls hl => ?_)
  refine lv_iload_n hx hb dX9_ones_2 rfl (lv_at hl 1 rfl) ?_
  refine lv_istore_n (lv' := [(2, .int x0), (1, .int (0 : Int32)), (0, .int x0)]) hx hb dX9_ones_3 rfl hl (by decide) rfl (fun ls hl => ?_)
  exact hb4  gw_F (0 : Int32) x0 h _ _ _ hI (lv_sub hl [1, 0] rfl)
theorem m_X9_out_104 : Cond.fieldLink RX9 104 "GownLetModel" "had" "[I" ∈ wsX9_out := by decide +kernel
theorem m_X9_out_107 : Cond.fieldLink RX9 107 "GownLetModel" "state" "[I" ∈ wsX9_out := by decide +kernel
theorem m_X9_out_110 : Cond.fieldLink RX9 110 "GownLetModel" "looks" "[I" ∈ wsX9_out := by decide +kernel
theorem m_X9_out_113 : Cond.fieldLink RX9 113 "GownLetModel" "deposits" "[I" ∈ wsX9_out := by decide +kernel
theorem m_X9_out_16 : Cond.fieldLink RX9 16 "GownLetModel" "terms" "[I" ∈ wsX9_out := by decide +kernel
theorem m_X9_out_43 : Cond.fieldLink RX9 43 "GownLetModel" "prices" "[I" ∈ wsX9_out := by decide +kernel
theorem ly_X9_out_9 : ∀ w ∈ wsX90, w ∈ wsX9_out := fun w h => List.mem_cons_of_mem _ (List.mem_append_right _ h)
set_option maxRecDepth 100000 in
set_option maxHeartbeats 4000000 in
theorem k_X9_out (x1 : Int32) (x2 : Int32) (S : gw_S) {zr : Int32} {zS : gw_S} (h : f_X9_out x1 x2 S = some (zr, zS)) : gw_M l yX9_out wsX9_out rm_X9_out 0 0 D (gw_ty cc) t1 t2 [.ref (a 0), .int x1, .int x2] (gw_mw cc a S) (fun w => w = gw_mw cc a zS) (some (.int zr)) := by
  refine gw_enter (cc := cX9_out) (maxL := 3) (ret := (some .int)) (own := RX9) rfl (by decide) rfl (Nat.le_of_ble_eq_true rfl) ?_
  intro p e s m below meth c A B hin hI ls hl
  have hl : lv_has ls 3 [(0, .ref (a 0)), (1, .int x1), (2, .int x2)] := hl
  generalize ([.ref (a 0), .int x1, .int x2] : List Value).toArray = args at B ⊢
  have hx := B.1.1
  have hb := B.1.2.1
  have hown : s.vm.findClass RX9 = some m.cls := B.1.2.2.2.1
  have hts := B.1.2.2.2.2
  unfold f_X9_out at h
  refine lv_aload_n hx hb dX9_out_0 rfl (lv_at hl 0 rfl) ?_
  refine lv_iload_n hx hb dX9_out_1 rfl (lv_at hl 1 rfl) ?_
  obtain ⟨r1, e2, h⟩ := gw_bdE h
  refine gw_callV (As := [.int x1]) (n := 1) B hI (k_X9_isThere x1 S e2) gX9_out_X9_isThere rfl rfl rfl nd_X9_isThere ⟨Nat.le_of_ble_eq_true rfl, Nat.le_of_ble_eq_true rfl⟩ gm_g0 rfl rfl rfl hl.1 (Nat.zero_le _) dX9_out_2 ⟨Nat.le_of_ble_eq_true rfl, Nat.le_of_ble_eq_true rfl⟩ rfl (fun w' H locs hw hI => ?_)
  subst hw
  refine lv_if_eq (tgt := 20) hx hb dX9_out_5 (by decide) (fun c3 => ?_) (fun c3 => ?_)
  · replace h := gw_ifT c3 h
    refine lv_iconst (v := -1) hx hb dX9_out_20 (by decide) ?_
    obtain ⟨h1, h2⟩ := Prod.mk.inj (Option.some.inj h)
    rw [h2] at hI
    rw [← h1]
    exact gw_iret (W' := (fun w => w = gw_mw cc a zS)) B hI rfl (Nat.zero_le _) (Nat.zero_le _) dX9_out_21
  · replace h := gw_ifF c3 h
    refine lv_iload_n hx hb dX9_out_8 rfl (lv_at hl 2 rfl) ?_
    refine lv_i2l hx hb dX9_out_9 rfl ?_
    refine lv_lconst (v := 0) hx hb dX9_out_10 (by decide) ?_
    refine lv_ldc2 (v := 4095) hx hb hown (hts (.constantLong RX9 324 (4095)) (by decide +kernel)) dX9_out_11 ?_
    obtain ⟨r4, e5, h⟩ := gw_bdE h
    refine gw_callS (As := [.long (x2.toInt64), .long (0 : Int64), .long (4095 : Int64)]) (n := 3) B hI (k_X9_in (x2.toInt64) (0 : Int64) (4095 : Int64) S e5) gX9_out_X9_in rfl rfl rfl nds_X9_in ⟨Nat.le_of_ble_eq_true rfl, Nat.le_of_ble_eq_true rfl⟩ rfl hl.1 (Nat.zero_le _) dX9_out_14 ⟨Nat.le_of_ble_eq_true rfl, Nat.le_of_ble_eq_true rfl⟩ rfl (fun w' H locs hw hI => ?_)
    subst hw
    refine lv_if_ne (tgt := 22) hx hb dX9_out_17 (by decide) (fun c6 => ?_) (fun c6 => ?_)
    · replace h := gw_ifF c6 h
      refine lv_aload_n hx hb dX9_out_22 rfl (lv_at hl 0 rfl) ?_
      refine gw_get (T := TX9) (k := 37) (v := .ref (a 32)) B hI gm_g0 rfl ly_X9_out_9 (by decide) m_X9_out_104 rfl rfl dX9_out_23 ?_
      refine lv_iload_n hx hb dX9_out_26 rfl (lv_at hl 1 rfl) ?_
      obtain ⟨g7, h⟩ := gw_gdE h
      refine gw_iald (t0 := 0) B hI gm_g32 rfl g7 dX9_out_27 ?_
      refine lv_if_lt (tgt := 40) hx hb dX9_out_28 (by decide) (fun c8 => ?_) (fun c8 => ?_)
      · replace h := gw_ifT c8 h
        refine lv_bipush (v := -2) hx hb dX9_out_40 (by decide) ?_
        obtain ⟨h1, h2⟩ := Prod.mk.inj (Option.some.inj h)
        rw [h2] at hI
        rw [← h1]
        exact gw_iret (W' := (fun w => w = gw_mw cc a zS)) B hI rfl (Nat.zero_le _) (Nat.zero_le _) dX9_out_42
      · replace h := gw_ifF c8 h
        refine lv_aload_n hx hb dX9_out_31 rfl (lv_at hl 0 rfl) ?_
        refine gw_get (T := TX9) (k := 38) (v := .ref (a 33)) B hI gm_g0 rfl ly_X9_out_9 (by decide) m_X9_out_107 rfl rfl dX9_out_32 ?_
        refine lv_iload_n hx hb dX9_out_35 rfl (lv_at hl 1 rfl) ?_
        refine gw_iald (t0 := 0) B hI gm_g33 rfl g7 dX9_out_36 ?_
        refine lv_if_le (tgt := 43) hx hb dX9_out_37 (by decide) (fun c9 => ?_) (fun c9 => ?_)
        · replace h := gw_ifT c9 h
          refine lv_aload_n hx hb dX9_out_43 rfl (lv_at hl 0 rfl) ?_
          refine gw_get (T := TX9) (k := 38) (v := .ref (a 33)) B hI gm_g0 rfl ly_X9_out_9 (by decide) m_X9_out_107 rfl rfl dX9_out_44 ?_
          refine lv_iload_n hx hb dX9_out_47 rfl (lv_at hl 1 rfl) ?_
          refine lv_iconst (v := 1) hx hb dX9_out_48 (by decide) ?_
          obtain ⟨S10, e11, h⟩ := gw_letE h
          refine gw_iast (t0 := 0) (w' := gw_mw cc a S10) B hI gm_g33 rfl g7 (gm_s33 e11) dX9_out_49 (fun H locs hI => ?_)
          refine lv_aload_n hx hb dX9_out_50 rfl (lv_at hl 0 rfl) ?_
          refine gw_get (T := TX9) (k := 39) (v := .ref (a 34)) B hI gm_g0 rfl ly_X9_out_9 (by decide) m_X9_out_110 rfl rfl dX9_out_51 ?_
          refine lv_iload_n hx hb dX9_out_54 rfl (lv_at hl 1 rfl) ?_
          refine lv_iload_n hx hb dX9_out_55 rfl (lv_at hl 2 rfl) ?_
          obtain ⟨S12, e13, h⟩ := gw_letE h
          refine gw_iast (t0 := 0) (w' := gw_mw cc a S12) B hI gm_g34 rfl g7 (gm_s34 e13) dX9_out_56 (fun H locs hI => ?_)
          refine lv_aload_n hx hb dX9_out_57 rfl (lv_at hl 0 rfl) ?_
          refine gw_get (T := TX9) (k := 40) (v := .ref (a 35)) B hI gm_g0 rfl ly_X9_out_9 (by decide) m_X9_out_113 rfl rfl dX9_out_58 ?_
          refine lv_iload_n hx hb dX9_out_61 rfl (lv_at hl 1 rfl) ?_
          refine lv_aload_n hx hb dX9_out_62 rfl (lv_at hl 0 rfl) ?_
          refine gw_get (T := TX9) (k := 14) (v := .ref (a 12)) B hI gm_g0 rfl ly_X9_out_9 (by decide) m_X9_out_43 rfl rfl dX9_out_63 ?_
          refine lv_aload_n hx hb dX9_out_66 rfl (lv_at hl 0 rfl) ?_
          refine gw_get (T := TX9) (k := 37) (v := .ref (a 32)) B hI gm_g0 rfl ly_X9_out_9 (by decide) m_X9_out_104 rfl rfl dX9_out_67 ?_
          refine lv_iload_n hx hb dX9_out_70 rfl (lv_at hl 1 rfl) ?_
          refine gw_iald (t0 := 0) B hI gm_g32 rfl g7 dX9_out_71 ?_
          obtain ⟨g14, h⟩ := gw_gdE h
          refine gw_iald (t0 := 0) B hI gm_g12 rfl g14 dX9_out_72 ?_
          refine lv_aload_n hx hb dX9_out_73 rfl (lv_at hl 0 rfl) ?_
          refine gw_get (T := TX9) (k := 2) (v := .ref (a 3)) B hI gm_g0 rfl ly_X9_out_9 (by decide) m_X9_out_16 rfl rfl dX9_out_74 ?_
          refine lv_iconst (v := 3) hx hb dX9_out_77 (by decide) ?_
          refine gw_iald (t0 := 0) B hI gm_g3 rfl (by decide) dX9_out_78 ?_
          refine lv_imul hx hb dX9_out_79 ?_
          refine lv_bipush (v := 100) hx hb dX9_out_80 (by decide) ?_
          refine lv_idiv hx hb dX9_out_82 (by decide) ?_
          obtain ⟨S15, e16, h⟩ := gw_letE h
          refine gw_iast (t0 := 0) (w' := gw_mw cc a S15) B hI gm_g35 rfl g7 (gm_s35 e16) dX9_out_83 (fun H locs hI => ?_)
          refine lv_aload_n hx hb dX9_out_84 rfl (lv_at hl 0 rfl) ?_
          refine gw_get (T := TX9) (k := 40) (v := .ref (a 35)) B hI gm_g0 rfl ly_X9_out_9 (by decide) m_X9_out_113 rfl rfl dX9_out_85 ?_
          refine lv_iload_n hx hb dX9_out_88 rfl (lv_at hl 1 rfl) ?_
          refine gw_iald (t0 := 0) B hI gm_g35 rfl g7 dX9_out_89 ?_
          obtain ⟨h1, h2⟩ := Prod.mk.inj (Option.some.inj h)
          rw [h2] at hI
          rw [← h1]
          exact gw_iret (W' := (fun w => w = gw_mw cc a zS)) B hI rfl (Nat.zero_le _) (Nat.zero_le _) dX9_out_90
        · replace h := gw_ifF c9 h
          refine lv_bipush (v := -2) hx hb dX9_out_40 (by decide) ?_
          obtain ⟨h1, h2⟩ := Prod.mk.inj (Option.some.inj h)
          rw [h2] at hI
          rw [← h1]
          exact gw_iret (W' := (fun w => w = gw_mw cc a zS)) B hI rfl (Nat.zero_le _) (Nat.zero_le _) dX9_out_42
    · replace h := gw_ifT c6 h
      refine lv_iconst (v := -1) hx hb dX9_out_20 (by decide) ?_
      obtain ⟨h1, h2⟩ := Prod.mk.inj (Option.some.inj h)
      rw [h2] at hI
      rw [← h1]
      exact gw_iret (W' := (fun w => w = gw_mw cc a zS)) B hI rfl (Nat.zero_le _) (Nat.zero_le _) dX9_out_21
end
end
section
/-! contracts: printed by wip/gen -/
section
variable {l : Launch} {D : va_G} {t1 t2 : Nat} {cc : Nat → ClassId} {a b d : Nat → Nat}
theorem m_X9_home_104 : Cond.fieldLink RX9 104 "GownLetModel" "had" "[I" ∈ wsX9_home := by decide +kernel
theorem m_X9_home_107 : Cond.fieldLink RX9 107 "GownLetModel" "state" "[I" ∈ wsX9_home := by decide +kernel
theorem m_X9_home_110 : Cond.fieldLink RX9 110 "GownLetModel" "looks" "[I" ∈ wsX9_home := by decide +kernel
theorem m_X9_home_113 : Cond.fieldLink RX9 113 "GownLetModel" "deposits" "[I" ∈ wsX9_home := by decide +kernel
theorem m_X9_home_116 : Cond.fieldLink RX9 116 "GownLetModel" "lates" "[I" ∈ wsX9_home := by decide +kernel
theorem m_X9_home_119 : Cond.fieldLink RX9 119 "GownLetModel" "harms" "[I" ∈ wsX9_home := by decide +kernel
theorem m_X9_home_122 : Cond.fieldLink RX9 122 "GownLetModel" "owed" "[I" ∈ wsX9_home := by decide +kernel
theorem m_X9_home_16 : Cond.fieldLink RX9 16 "GownLetModel" "terms" "[I" ∈ wsX9_home := by decide +kernel
theorem m_X9_home_52 : Cond.fieldLink RX9 52 "GownLetModel" "worn" "[I" ∈ wsX9_home := by decide +kernel
theorem m_X9_home_89 : Cond.fieldLink RX9 89 "GownLetModel" "nights" "[I" ∈ wsX9_home := by decide +kernel
theorem ly_X9_home_9 : ∀ w ∈ wsX90, w ∈ wsX9_home := fun w h => List.mem_cons_of_mem _ (List.mem_append_right _ h)
set_option maxRecDepth 100000 in
set_option maxHeartbeats 4000000 in
theorem k_X9_home (x1 : Int32) (x2 : Int32) (x3 : Int32) (S : gw_S) {zr : Int32} {zS : gw_S} (h : f_X9_home x1 x2 x3 S = some (zr, zS)) : gw_M l yX9_home wsX9_home rm_X9_home 0 0 D (gw_ty cc) t1 t2 [.ref (a 0), .int x1, .int x2, .int x3] (gw_mw cc a S) (fun w => w = gw_mw cc a zS) (some (.int zr)) := by
  refine gw_enter (cc := cX9_home) (maxL := 7) (ret := (some .int)) (own := RX9) rfl (by decide) rfl (Nat.le_of_ble_eq_true rfl) ?_
  intro p e s m below meth c A B hin hI ls hl
  have hl : lv_has ls 7 [(0, .ref (a 0)), (1, .int x1), (2, .int x2), (3, .int x3)] := hl
  generalize ([.ref (a 0), .int x1, .int x2, .int x3] : List Value).toArray = args at B ⊢
  have hx := B.1.1
  have hb := B.1.2.1
  have hown : s.vm.findClass RX9 = some m.cls := B.1.2.2.2.1
  have hts := B.1.2.2.2.2
  have hb234 :  ∀ (v1 : Int32) (t0_ : Int32) (t1_ : Int32) (t2_ : Int32) (S : gw_S), f_X9_home_b234  v1 t0_ t1_ t2_ S = some (zr, zS) → ∀ (H : Heap) (locs : List Loc) (ls : Array Slot), gw_I D A s.heap (gw_mw cc a S) H locs → lv_has ls 7 [(0, .ref (a 0)), (1, .int v1)] → W p l e rm_X9_home s m args below meth c H locs 0 0 (MQ below (gw_Q (some (.int zr)) (gw_Pst D A (fun w => w = gw_mw cc a zS)) A) args s 0 0 A) (F0 m 234 ls [.int t0_, .int t1_, .int t2_, .ref (a 38)]) := by
    intro v1 t0_ t1_ t2_ S h H locs ls hI hl
    unfold f_X9_home_b234 at h
    refine lv_iadd hx hb dX9_home_234 ?_
    obtain ⟨g1, h⟩ := gw_gdE h
    obtain ⟨S2, e3, h⟩ := gw_letE h
    refine gw_iast (t0 := 0) (w' := gw_mw cc a S2) B hI gm_g38 rfl g1 (gm_s38 e3) dX9_home_235 (fun H locs hI => ?_)
    refine lv_aload_n hx hb dX9_home_236 rfl (lv_at hl 0 rfl) ?_
    refine gw_get (T := TX9) (k := 43) (v := .ref (a 38)) B hI gm_g0 rfl ly_X9_home_9 (by decide) m_X9_home_122 rfl rfl dX9_home_237 ?_
    refine lv_iload_n hx hb dX9_home_240 rfl (lv_at hl 1 rfl) ?_
    obtain ⟨g4, h⟩ := gw_gdE h
    refine gw_iald (t0 := 0) B hI gm_g38 rfl g4 dX9_home_241 ?_
    refine lv_aload_n hx hb dX9_home_242 rfl (lv_at hl 0 rfl) ?_
    refine gw_get (T := TX9) (k := 40) (v := .ref (a 35)) B hI gm_g0 rfl ly_X9_home_9 (by decide) m_X9_home_113 rfl rfl dX9_home_243 ?_
    refine lv_iload_n hx hb dX9_home_246 rfl (lv_at hl 1 rfl) ?_
    refine gw_iald (t0 := 0) B hI gm_g35 rfl g4 dX9_home_247 ?_
    refine lv_isub hx hb dX9_home_248 ?_
    obtain ⟨h1, h2⟩ := Prod.mk.inj (Option.some.inj h)
    rw [h2] at hI
    rw [← h1]
    exact gw_iret (W' := (fun w => w = gw_mw cc a zS)) B hI rfl (Nat.zero_le _) (Nat.zero_le _) dX9_home_249
  have hb201 :  ∀ (v1 : Int32) (v3 : Int32) (t0_ : Int32) (t1_ : Int32) (S : gw_S), f_X9_home_b201  v1 v3 t0_ t1_ S = some (zr, zS) → ∀ (H : Heap) (locs : List Loc) (ls : Array Slot), gw_I D A s.heap (gw_mw cc a S) H locs → lv_has ls 7 [(0, .ref (a 0)), (1, .int v1), (3, .int v3)] → W p l e rm_X9_home s m args below meth c H locs 0 0 (MQ below (gw_Q (some (.int zr)) (gw_Pst D A (fun w => w = gw_mw cc a zS)) A) args s 0 0 A) (F0 m 201 ls [.int t0_, .int t1_, .ref (a 37)]) := by
    intro v1 v3 t0_ t1_ S h H locs ls hI hl
    unfold f_X9_home_b201 at h
    obtain ⟨g5, h⟩ := gw_gdE h
    obtain ⟨S6, e7, h⟩ := gw_letE h
    refine gw_iast (t0 := 0) (w' := gw_mw cc a S6) B hI gm_g37 rfl g5 (gm_s37 e7) dX9_home_201 (fun H locs hI => ?_)
    refine lv_aload_n hx hb dX9_home_202 rfl (lv_at hl 0 rfl) ?_
    refine gw_get (T := TX9) (k := 43) (v := .ref (a 38)) B hI gm_g0 rfl ly_X9_home_9 (by decide) m_X9_home_122 rfl rfl dX9_home_203 ?_
    refine lv_iload_n hx hb dX9_home_206 rfl (lv_at hl 1 rfl) ?_
    refine lv_aload_n hx hb dX9_home_207 rfl (lv_at hl 0 rfl) ?_
    refine gw_get (T := TX9) (k := 2) (v := .ref (a 3)) B hI gm_g0 rfl ly_X9_home_9 (by decide) m_X9_home_16 rfl rfl dX9_home_208 ?_
    refine lv_iconst (v := 2) hx hb dX9_home_211 (by decide) ?_
    refine gw_iald (t0 := 0) B hI gm_g3 rfl (by decide) dX9_home_212 ?_
    refine lv_aload_n hx hb dX9_home_213 rfl (lv_at hl 0 rfl) ?_
    refine gw_get (T := TX9) (k := 41) (v := .ref (a 36)) B hI gm_g0 rfl ly_X9_home_9 (by decide) m_X9_home_116 rfl rfl dX9_home_214 ?_
    refine lv_iload_n hx hb dX9_home_217 rfl (lv_at hl 1 rfl) ?_
    obtain ⟨g8, h⟩ := gw_gdE h
    refine gw_iald (t0 := 0) B hI gm_g36 rfl g8 dX9_home_218 ?_
    refine lv_imul hx hb dX9_home_219 ?_
    refine lv_iload_n hx hb dX9_home_220 rfl (lv_at hl 2 rfl) ?_
    refine lv_if_ge (tgt := 228) hx hb dX9_home_221 (by decide) (fun c9 => ?_) (fun c9 => ?_)
    · replace h := gw_ifT c9 h
      refine lv_aload_n hx hb dX9_home_228 rfl (lv_at hl 0 rfl) ?_
      refine gw_get (T := TX9) (k := 42) (v := .ref (a 37)) B hI gm_g0 rfl ly_X9_home_9 (by decide) m_X9_home_119 rfl rfl dX9_home_229 ?_
      refine lv_iload_n hx hb dX9_home_232 rfl (lv_at hl 1 rfl) ?_
      refine gw_iald (t0 := 0) B hI gm_g37 rfl g8 dX9_home_233 ?_
      exact hb234  v1 (S6 37 v1.toNatClampNeg) ((S6 3 (2 : Int32).toNatClampNeg) * (S6 36 v1.toNatClampNeg)) v1 S6 h _ _ _ hI (lv_sub hl [0, 1] rfl)
    · replace h := gw_ifF c9 h
      refine lv_iconst (v := 0) hx hb dX9_home_224 (by decide) ?_
      refine lv_goto (tgt := 234) hx hb dX9_home_225 (by decide) ?_
      exact hb234  v1 (0 : Int32) ((S6 3 (2 : Int32).toNatClampNeg) * (S6 36 v1.toNatClampNeg)) v1 S6 h _ _ _ hI (lv_sub hl [0, 1] rfl)
  have hb152 :  ∀ (v1 : Int32) (v3 : Int32) (t0_ : Int32) (S : gw_S), f_X9_home_b152  v1 v3 t0_ S = some (zr, zS) → ∀ (H : Heap) (locs : List Loc) (ls : Array Slot), gw_I D A s.heap (gw_mw cc a S) H locs → lv_has ls 7 [(0, .ref (a 0)), (1, .int v1), (3, .int v3)] → W p l e rm_X9_home s m args below meth c H locs 0 0 (MQ below (gw_Q (some (.int zr)) (gw_Pst D A (fun w => w = gw_mw cc a zS)) A) args s 0 0 A) (F0 m 152 ls [.int t0_]) := by
    intro v1 v3 t0_ S h H locs ls hI hl
    unfold f_X9_home_b152 at h
    refine lv_istore (lv' := [(6, .int t0_), (0, .ref (a 0)), (1, .int v1), (3, .int v3)]) hx hb dX9_home_152 hl (by decide) rfl (fun ls hl => ?_)
    refine lv_aload_n hx hb dX9_home_154 rfl (lv_at hl 1 rfl) ?_
    refine gw_get (T := TX9) (k := 42) (v := .ref (a 37)) B hI gm_g0 rfl ly_X9_home_9 (by decide) m_X9_home_119 rfl rfl dX9_home_155 ?_
    refine lv_iload_n hx hb dX9_home_158 rfl (lv_at hl 2 rfl) ?_
    refine lv_iload_n hx hb dX9_home_159 rfl (lv_at hl 3 rfl) ?_
    refine lv_if_ge (tgt := 168) hx hb dX9_home_160 (by decide) (fun c10 => ?_) (fun c10 => ?_)
    · replace h := gw_ifT c10 h
      refine lv_iload hx hb dX9_home_168 (lv_at hl 0 rfl) ?_
      refine lv_sipush (v := 255) hx hb dX9_home_170 (by decide) ?_
      refine lv_iand hx hb dX9_home_173 ?_
      obtain ⟨r11, e12, h⟩ := gw_bdE h
      refine gw_callS (As := [.int (t0_ &&& (255 : Int32))]) (n := 1) B hI (k_X9_ones (t0_ &&& (255 : Int32)) S e12) gX9_home_X9_ones rfl rfl rfl nds_X9_ones ⟨Nat.le_of_ble_eq_true rfl, Nat.le_of_ble_eq_true rfl⟩ rfl hl.1 (by simp [gw_catq, gw_cI, gw_cR, gw_cL]) dX9_home_174 ⟨Nat.le_of_ble_eq_true rfl, Nat.le_of_ble_eq_true rfl⟩ rfl (fun w' H locs hw hI => ?_)
      subst hw
      refine lv_aload_n hx hb dX9_home_177 rfl (lv_at hl 1 rfl) ?_
      refine gw_get (T := TX9) (k := 2) (v := .ref (a 3)) B hI gm_g0 rfl ly_X9_home_9 (by decide) m_X9_home_16 rfl rfl dX9_home_178 ?_
      refine lv_iconst (v := 5) hx hb dX9_home_181 (by decide) ?_
      refine gw_iald (t0 := 0) B hI gm_g3 rfl (by decide) dX9_home_182 ?_
      refine lv_imul hx hb dX9_home_183 ?_
      refine lv_iload hx hb dX9_home_184 (lv_at hl 0 rfl) ?_
      refine lv_bipush (v := 8) hx hb dX9_home_186 (by decide) ?_
      refine lv_ishr hx hb dX9_home_188 ?_
      obtain ⟨r13, e14, h⟩ := gw_bdE h
      refine gw_callS (As := [.int (t0_ >>> ((8 : Int32) &&& 31))]) (n := 1) B hI (k_X9_ones (t0_ >>> ((8 : Int32) &&& 31)) S e14) gX9_home_X9_ones rfl rfl rfl nds_X9_ones ⟨Nat.le_of_ble_eq_true rfl, Nat.le_of_ble_eq_true rfl⟩ rfl hl.1 (by simp [gw_catq, gw_cI, gw_cR, gw_cL]) dX9_home_189 ⟨Nat.le_of_ble_eq_true rfl, Nat.le_of_ble_eq_true rfl⟩ rfl (fun w' H locs hw hI => ?_)
      subst hw
      refine lv_aload_n hx hb dX9_home_192 rfl (lv_at hl 1 rfl) ?_
      refine gw_get (T := TX9) (k := 2) (v := .ref (a 3)) B hI gm_g0 rfl ly_X9_home_9 (by decide) m_X9_home_16 rfl rfl dX9_home_193 ?_
      refine lv_bipush (v := 6) hx hb dX9_home_196 (by decide) ?_
      refine gw_iald (t0 := 0) B hI gm_g3 rfl (by decide) dX9_home_198 ?_
      refine lv_imul hx hb dX9_home_199 ?_
      refine lv_iadd hx hb dX9_home_200 ?_
      exact hb201  v1 v3 ((r11 * (S 3 (5 : Int32).toNatClampNeg)) + (r13 * (S 3 (6 : Int32).toNatClampNeg))) v1 S h _ _ _ hI (lv_sub hl [1, 2, 3] rfl)
    · replace h := gw_ifF c10 h
      refine lv_bipush (v := -4) hx hb dX9_home_163 (by decide) ?_
      refine lv_goto (tgt := 201) hx hb dX9_home_165 (by decide) ?_
      exact hb201  v1 v3 (-4 : Int32) v1 S h _ _ _ hI (lv_sub hl [1, 2, 3] rfl)
  have hb133 :  ∀ (v1 : Int32) (v3 : Int32) (t0_ : Int32) (t1_ : Int32) (S : gw_S), f_X9_home_b133  v1 v3 t0_ t1_ S = some (zr, zS) → ∀ (H : Heap) (locs : List Loc) (ls : Array Slot), gw_I D A s.heap (gw_mw cc a S) H locs → lv_has ls 7 [(0, .ref (a 0)), (1, .int v1), (3, .int v3)] → W p l e rm_X9_home s m args below meth c H locs 0 0 (MQ below (gw_Q (some (.int zr)) (gw_Pst D A (fun w => w = gw_mw cc a zS)) A) args s 0 0 A) (F0 m 133 ls [.int t0_, .int t1_, .ref (a 36)]) := by
    intro v1 v3 t0_ t1_ S h H locs ls hI hl
    unfold f_X9_home_b133 at h
    obtain ⟨g15, h⟩ := gw_gdE h
    obtain ⟨S16, e17, h⟩ := gw_letE h
    refine gw_iast (t0 := 0) (w' := gw_mw cc a S16) B hI gm_g36 rfl g15 (gm_s36 e17) dX9_home_133 (fun H locs hI => ?_)
    refine lv_iload_n hx hb dX9_home_134 rfl (lv_at hl 2 rfl) ?_
    refine lv_if_ge (tgt := 142) hx hb dX9_home_135 (by decide) (fun c18 => ?_) (fun c18 => ?_)
    · replace h := gw_ifT c18 h
      refine lv_iload_n hx hb dX9_home_142 rfl (lv_at hl 2 rfl) ?_
      refine lv_aload_n hx hb dX9_home_143 rfl (lv_at hl 0 rfl) ?_
      refine gw_get (T := TX9) (k := 39) (v := .ref (a 34)) B hI gm_g0 rfl ly_X9_home_9 (by decide) m_X9_home_110 rfl rfl dX9_home_144 ?_
      refine lv_iload_n hx hb dX9_home_147 rfl (lv_at hl 1 rfl) ?_
      obtain ⟨g19, h⟩ := gw_gdE h
      refine gw_iald (t0 := 0) B hI gm_g34 rfl g19 dX9_home_148 ?_
      refine lv_iconst (v := -1) hx hb dX9_home_149 (by decide) ?_
      refine lv_ixor hx hb dX9_home_150 ?_
      refine lv_iand hx hb dX9_home_151 ?_
      exact hb152  v1 v3 (v3 &&& ((S16 34 v1.toNatClampNeg) ^^^ (-1 : Int32))) S16 h _ _ _ hI (lv_sub hl [0, 1, 2] rfl)
    · replace h := gw_ifF c18 h
      refine lv_iconst (v := 0) hx hb dX9_home_138 (by decide) ?_
      refine lv_goto (tgt := 152) hx hb dX9_home_139 (by decide) ?_
      exact hb152  v1 v3 (0 : Int32) S16 h _ _ _ hI (lv_sub hl [0, 1, 2] rfl)
  have hb66 :  ∀ (v1 : Int32) (v2 : Int32) (v3 : Int32) (v4 : Int32) (S : gw_S), f_X9_home_b66  v1 v2 v3 v4 S = some (zr, zS) → ∀ (H : Heap) (locs : List Loc) (ls : Array Slot), gw_I D A s.heap (gw_mw cc a S) H locs → lv_has ls 7 [(0, .ref (a 0)), (1, .int v1), (2, .int v2), (3, .int v3), (4, .int v4)] → W p l e rm_X9_home s m args below meth c H locs 0 0 (MQ below (gw_Q (some (.int zr)) (gw_Pst D A (fun w => w = gw_mw cc a zS)) A) args s 0 0 A) (F0 m 66 ls []) := by
    intro v1 v2 v3 v4 S h H locs ls hI hl
    unfold f_X9_home_b66 at h
    refine lv_aload_n hx hb dX9_home_66 rfl (lv_at hl 0 rfl) ?_
    refine gw_get (T := TX9) (k := 38) (v := .ref (a 33)) B hI gm_g0 rfl ly_X9_home_9 (by decide) m_X9_home_107 rfl rfl dX9_home_67 ?_
    refine lv_iload_n hx hb dX9_home_70 rfl (lv_at hl 1 rfl) ?_
    obtain ⟨g20, h⟩ := gw_gdE h
    refine gw_iald (t0 := 0) B hI gm_g33 rfl g20 dX9_home_71 ?_
    refine lv_iconst (v := 1) hx hb dX9_home_72 (by decide) ?_
    refine lv_icmp_eq (tgt := 80) hx hb dX9_home_73 (by decide) (fun c21 => ?_) (fun c21 => ?_)
    · replace h := gw_ifT c21 h
      refine lv_aload_n hx hb dX9_home_80 rfl (lv_at hl 0 rfl) ?_
      refine gw_get (T := TX9) (k := 38) (v := .ref (a 33)) B hI gm_g0 rfl ly_X9_home_9 (by decide) m_X9_home_107 rfl rfl dX9_home_81 ?_
      refine lv_iload_n hx hb dX9_home_84 rfl (lv_at hl 1 rfl) ?_
      refine lv_iconst (v := 2) hx hb dX9_home_85 (by decide) ?_
      obtain ⟨S22, e23, h⟩ := gw_letE h
      refine gw_iast (t0 := 0) (w' := gw_mw cc a S22) B hI gm_g33 rfl g20 (gm_s33 e23) dX9_home_86 (fun H locs hI => ?_)
      refine lv_aload_n hx hb dX9_home_87 rfl (lv_at hl 0 rfl) ?_
      refine gw_get (T := TX9) (k := 17) (v := .ref (a 15)) B hI gm_g0 rfl ly_X9_home_9 (by decide) m_X9_home_52 rfl rfl dX9_home_88 ?_
      refine lv_iload hx hb dX9_home_91 (lv_at hl 4 rfl) ?_
      refine lv_dup2_11 hx hb dX9_home_93 rfl rfl ?_
      obtain ⟨g24, h⟩ := gw_gdE h
      refine gw_iald (t0 := 0) B hI gm_g15 rfl g24 dX9_home_94 ?_
      refine lv_iconst (v := 1) hx hb dX9_home_95 (by decide) ?_
      refine lv_iadd hx hb dX9_home_96 ?_
      obtain ⟨S25, e26, h⟩ := gw_letE h
      refine gw_iast (t0 := 0) (w' := gw_mw cc a S25) B hI gm_g15 rfl g24 (gm_s15 e26) dX9_home_97 (fun H locs hI => ?_)
      refine lv_aload_n hx hb dX9_home_98 rfl (lv_at hl 0 rfl) ?_
      refine gw_get (T := TX9) (k := 32) (v := .ref (a 27)) B hI gm_g0 rfl ly_X9_home_9 (by decide) m_X9_home_89 rfl rfl dX9_home_99 ?_
      refine lv_iload_n hx hb dX9_home_102 rfl (lv_at hl 1 rfl) ?_
      refine gw_iald (t0 := 0) B hI gm_g27 rfl g20 dX9_home_103 ?_
      refine lv_aload_n hx hb dX9_home_104 rfl (lv_at hl 0 rfl) ?_
      refine lv_iload hx hb dX9_home_105 (lv_at hl 4 rfl) ?_
      refine lv_iload_n hx hb dX9_home_107 rfl (lv_at hl 1 rfl) ?_
      obtain ⟨r27, e28, h⟩ := gw_bdE h
      refine gw_callV (As := [.int v4, .int v1]) (n := 2) B hI (k_X9_postOf v4 v1 S25 e28) gX9_home_X9_postOf rfl rfl rfl nd_X9_postOf ⟨Nat.le_of_ble_eq_true rfl, Nat.le_of_ble_eq_true rfl⟩ gm_g0 rfl rfl rfl hl.1 (by simp [gw_catq, gw_cI, gw_cR, gw_cL]) dX9_home_108 ⟨Nat.le_of_ble_eq_true rfl, Nat.le_of_ble_eq_true rfl⟩ rfl (fun w' H locs hw hI => ?_)
      subst hw
      refine lv_iadd hx hb dX9_home_111 ?_
      obtain ⟨y29, e30, h⟩ := gw_letE h
      rw [← e30]
      refine lv_istore (lv' := [(5, .int y29), (0, .ref (a 0)), (1, .int v1), (2, .int v2), (3, .int v3), (4, .int v4)]) hx hb dX9_home_112 hl (by decide) rfl (fun ls hl => ?_)
      refine lv_aload_n hx hb dX9_home_114 rfl (lv_at hl 1 rfl) ?_
      refine gw_get (T := TX9) (k := 41) (v := .ref (a 36)) B hI gm_g0 rfl ly_X9_home_9 (by decide) m_X9_home_116 rfl rfl dX9_home_115 ?_
      refine lv_iload_n hx hb dX9_home_118 rfl (lv_at hl 2 rfl) ?_
      refine lv_iload_n hx hb dX9_home_119 rfl (lv_at hl 3 rfl) ?_
      refine lv_iload hx hb dX9_home_120 (lv_at hl 0 rfl) ?_
      refine lv_icmp_le (tgt := 132) hx hb dX9_home_122 (by decide) (fun c31 => ?_) (fun c31 => ?_)
      · replace h := gw_ifT c31 h
        refine lv_iconst (v := 0) hx hb dX9_home_132 (by decide) ?_
        exact hb133  v1 v3 (0 : Int32) v1 S25 h _ _ _ hI (lv_sub hl [1, 2, 4] rfl)
      · replace h := gw_ifF c31 h
        refine lv_iload_n hx hb dX9_home_125 rfl (lv_at hl 3 rfl) ?_
        refine lv_iload hx hb dX9_home_126 (lv_at hl 0 rfl) ?_
        refine lv_isub hx hb dX9_home_128 ?_
        refine lv_goto (tgt := 133) hx hb dX9_home_129 (by decide) ?_
        exact hb133  v1 v3 (v2 - y29) v1 S25 h _ _ _ hI (lv_sub hl [1, 2, 4] rfl)
    · replace h := gw_ifF c21 h
      refine lv_ldcw (v := -1000002) hx hb hown (hts (.constant RX9 327 (-1000002)) (by decide +kernel)) dX9_home_76 ?_
      obtain ⟨h1, h2⟩ := Prod.mk.inj (Option.some.inj h)
      rw [h2] at hI
      rw [← h1]
      exact gw_iret (W' := (fun w => w = gw_mw cc a zS)) B hI rfl (Nat.zero_le _) (Nat.zero_le _) dX9_home_79
  unfold f_X9_home at h
  refine lv_aload_n hx hb dX9_home_0 rfl (lv_at hl 0 rfl) ?_
  refine lv_iload_n hx hb dX9_home_1 rfl (lv_at hl 1 rfl) ?_
  obtain ⟨r32, e33, h⟩ := gw_bdE h
  refine gw_callV (As := [.int x1]) (n := 1) B hI (k_X9_isThere x1 S e33) gX9_home_X9_isThere rfl rfl rfl nd_X9_isThere ⟨Nat.le_of_ble_eq_true rfl, Nat.le_of_ble_eq_true rfl⟩ gm_g0 rfl rfl rfl hl.1 (Nat.zero_le _) dX9_home_2 ⟨Nat.le_of_ble_eq_true rfl, Nat.le_of_ble_eq_true rfl⟩ rfl (fun w' H locs hw hI => ?_)
  subst hw
  refine lv_if_eq (tgt := 34) hx hb dX9_home_5 (by decide) (fun c34 => ?_) (fun c34 => ?_)
  · replace h := gw_ifT c34 h
    refine lv_ldcw (v := -1000001) hx hb hown (hts (.constant RX9 326 (-1000001)) (by decide +kernel)) dX9_home_34 ?_
    obtain ⟨h1, h2⟩ := Prod.mk.inj (Option.some.inj h)
    rw [h2] at hI
    rw [← h1]
    exact gw_iret (W' := (fun w => w = gw_mw cc a zS)) B hI rfl (Nat.zero_le _) (Nat.zero_le _) dX9_home_37
  · replace h := gw_ifF c34 h
    refine lv_iload_n hx hb dX9_home_8 rfl (lv_at hl 2 rfl) ?_
    refine lv_i2l hx hb dX9_home_9 rfl ?_
    refine lv_lconst (v := 0) hx hb dX9_home_10 (by decide) ?_
    refine lv_ldc2 (v := 399) hx hb hown (hts (.constantLong RX9 251 (399)) (by decide +kernel)) dX9_home_11 ?_
    obtain ⟨r35, e36, h⟩ := gw_bdE h
    refine gw_callS (As := [.long (x2.toInt64), .long (0 : Int64), .long (399 : Int64)]) (n := 3) B hI (k_X9_in (x2.toInt64) (0 : Int64) (399 : Int64) S e36) gX9_home_X9_in rfl rfl rfl nds_X9_in ⟨Nat.le_of_ble_eq_true rfl, Nat.le_of_ble_eq_true rfl⟩ rfl hl.1 (Nat.zero_le _) dX9_home_14 ⟨Nat.le_of_ble_eq_true rfl, Nat.le_of_ble_eq_true rfl⟩ rfl (fun w' H locs hw hI => ?_)
    subst hw
    refine lv_if_eq (tgt := 34) hx hb dX9_home_17 (by decide) (fun c37 => ?_) (fun c37 => ?_)
    · replace h := gw_ifT c37 h
      refine lv_ldcw (v := -1000001) hx hb hown (hts (.constant RX9 326 (-1000001)) (by decide +kernel)) dX9_home_34 ?_
      obtain ⟨h1, h2⟩ := Prod.mk.inj (Option.some.inj h)
      rw [h2] at hI
      rw [← h1]
      exact gw_iret (W' := (fun w => w = gw_mw cc a zS)) B hI rfl (Nat.zero_le _) (Nat.zero_le _) dX9_home_37
    · replace h := gw_ifF c37 h
      refine lv_iload_n hx hb dX9_home_20 rfl (lv_at hl 3 rfl) ?_
      refine lv_i2l hx hb dX9_home_21 rfl ?_
      refine lv_ldc2 (v := -1) hx hb hown (hts (.constantLong RX9 253 (-1)) (by decide +kernel)) dX9_home_22 ?_
      refine lv_ldc2 (v := 4095) hx hb hown (hts (.constantLong RX9 324 (4095)) (by decide +kernel)) dX9_home_25 ?_
      obtain ⟨r38, e39, h⟩ := gw_bdE h
      refine gw_callS (As := [.long (x3.toInt64), .long (-1 : Int64), .long (4095 : Int64)]) (n := 3) B hI (k_X9_in (x3.toInt64) (-1 : Int64) (4095 : Int64) S e39) gX9_home_X9_in rfl rfl rfl nds_X9_in ⟨Nat.le_of_ble_eq_true rfl, Nat.le_of_ble_eq_true rfl⟩ rfl hl.1 (Nat.zero_le _) dX9_home_28 ⟨Nat.le_of_ble_eq_true rfl, Nat.le_of_ble_eq_true rfl⟩ rfl (fun w' H locs hw hI => ?_)
      subst hw
      refine lv_if_ne (tgt := 38) hx hb dX9_home_31 (by decide) (fun c40 => ?_) (fun c40 => ?_)
      · replace h := gw_ifF c40 h
        refine lv_aload_n hx hb dX9_home_38 rfl (lv_at hl 0 rfl) ?_
        refine gw_get (T := TX9) (k := 37) (v := .ref (a 32)) B hI gm_g0 rfl ly_X9_home_9 (by decide) m_X9_home_104 rfl rfl dX9_home_39 ?_
        refine lv_iload_n hx hb dX9_home_42 rfl (lv_at hl 1 rfl) ?_
        obtain ⟨g41, h⟩ := gw_gdE h
        refine gw_iald (t0 := 0) B hI gm_g32 rfl g41 dX9_home_43 ?_
        obtain ⟨y42, e43, h⟩ := gw_letE h
        rw [← e43]
        refine lv_istore (lv' := [(4, .int y42), (0, .ref (a 0)), (1, .int x1), (2, .int x2), (3, .int x3)]) hx hb dX9_home_44 hl (by decide) rfl (fun ls hl => ?_)
        refine lv_iload hx hb dX9_home_46 (lv_at hl 0 rfl) ?_
        refine lv_if_lt (tgt := 66) hx hb dX9_home_48 (by decide) (fun c44 => ?_) (fun c44 => ?_)
        · replace h := gw_ifT c44 h
          exact hb66  x1 x2 x3 y42 S h _ _ _ hI (lv_sub hl [1, 2, 3, 4, 0] rfl)
        · replace h := gw_ifF c44 h
          refine lv_iload_n hx hb dX9_home_51 rfl (lv_at hl 3 rfl) ?_
          refine lv_aload_n hx hb dX9_home_52 rfl (lv_at hl 1 rfl) ?_
          refine lv_iload hx hb dX9_home_53 (lv_at hl 0 rfl) ?_
          refine lv_iload_n hx hb dX9_home_55 rfl (lv_at hl 2 rfl) ?_
          obtain ⟨r45, e46, h⟩ := gw_bdE h
          refine gw_callV (As := [.int y42, .int x1]) (n := 2) B hI (k_X9_firstAway y42 x1 S e46) gX9_home_X9_firstAway rfl rfl rfl nd_X9_firstAway ⟨Nat.le_of_ble_eq_true rfl, Nat.le_of_ble_eq_true rfl⟩ gm_g0 rfl rfl rfl hl.1 (by simp [gw_catq, gw_cI, gw_cR, gw_cL]) dX9_home_56 ⟨Nat.le_of_ble_eq_true rfl, Nat.le_of_ble_eq_true rfl⟩ rfl (fun w' H locs hw hI => ?_)
          subst hw
          refine lv_icmp_ge (tgt := 66) hx hb dX9_home_59 (by decide) (fun c47 => ?_) (fun c47 => ?_)
          · replace h := gw_ifT c47 h
            exact hb66  x1 x2 x3 y42 S h _ _ _ hI (lv_sub hl [1, 2, 3, 4, 0] rfl)
          · replace h := gw_ifF c47 h
            refine lv_ldcw (v := -1000001) hx hb hown (hts (.constant RX9 326 (-1000001)) (by decide +kernel)) dX9_home_62 ?_
            obtain ⟨h1, h2⟩ := Prod.mk.inj (Option.some.inj h)
            rw [h2] at hI
            rw [← h1]
            exact gw_iret (W' := (fun w => w = gw_mw cc a zS)) B hI rfl (Nat.zero_le _) (Nat.zero_le _) dX9_home_65
      · replace h := gw_ifT c40 h
        refine lv_ldcw (v := -1000001) hx hb hown (hts (.constant RX9 326 (-1000001)) (by decide +kernel)) dX9_home_34 ?_
        obtain ⟨h1, h2⟩ := Prod.mk.inj (Option.some.inj h)
        rw [h2] at hI
        rw [← h1]
        exact gw_iret (W' := (fun w => w = gw_mw cc a zS)) B hI rfl (Nat.zero_le _) (Nat.zero_le _) dX9_home_37
theorem m_X9_about_107 : Cond.fieldLink RX9 107 "GownLetModel" "state" "[I" ∈ wsX9_about := by decide +kernel
theorem m_X9_about_113 : Cond.fieldLink RX9 113 "GownLetModel" "deposits" "[I" ∈ wsX9_about := by decide +kernel
theorem m_X9_about_116 : Cond.fieldLink RX9 116 "GownLetModel" "lates" "[I" ∈ wsX9_about := by decide +kernel
theorem m_X9_about_119 : Cond.fieldLink RX9 119 "GownLetModel" "harms" "[I" ∈ wsX9_about := by decide +kernel
theorem m_X9_about_122 : Cond.fieldLink RX9 122 "GownLetModel" "owed" "[I" ∈ wsX9_about := by decide +kernel
theorem ly_X9_about_9 : ∀ w ∈ wsX90, w ∈ wsX9_about := fun w h => List.mem_cons_of_mem _ (List.mem_append_right _ h)
set_option maxRecDepth 100000 in
set_option maxHeartbeats 4000000 in
theorem k_X9_about (x1 : Int32) (x2 : Int32) (S : gw_S) {zr : Int32} (h : f_X9_about x1 x2 S = some zr) : gw_M l yX9_about wsX9_about rm_X9_about 0 0 D (gw_ty cc) t1 t2 [.ref (a 0), .int x1, .int x2] (gw_mw cc a S) (fun w => w = gw_mw cc a S) (some (.int zr)) := by
  refine gw_enter (cc := cX9_about) (maxL := 3) (ret := (some .int)) (own := RX9) rfl (by decide) rfl (Nat.le_of_ble_eq_true rfl) ?_
  intro p e s m below meth c A B hin hI ls hl
  have hl : lv_has ls 3 [(0, .ref (a 0)), (1, .int x1), (2, .int x2)] := hl
  generalize ([.ref (a 0), .int x1, .int x2] : List Value).toArray = args at B ⊢
  have hx := B.1.1
  have hb := B.1.2.1
  have hown : s.vm.findClass RX9 = some m.cls := B.1.2.2.2.1
  have hts := B.1.2.2.2.2
  have hb50 :  ∀ (v1 : Int32) (v2 : Int32), f_X9_about_b50 S  v1 v2 = some zr → ∀ (H : Heap) (locs : List Loc) (ls : Array Slot), gw_I D A s.heap (gw_mw cc a S) H locs → lv_has ls 3 [(0, .ref (a 0)), (1, .int v1), (2, .int v2)] → W p l e rm_X9_about s m args below meth c H locs 0 0 (MQ below (gw_Q (some (.int zr)) (gw_Pst D A (fun w => w = gw_mw cc a S)) A) args s 0 0 A) (F0 m 50 ls []) := by
    intro v1 v2 h H locs ls hI hl
    unfold f_X9_about_b50 at h
    refine lv_iload_n hx hb dX9_about_50 rfl (lv_at hl 2 rfl) ?_
    refine lv_if_ne (tgt := 63) hx hb dX9_about_51 (by decide) (fun c1 => ?_) (fun c1 => ?_)
    · replace h := gw_ifF c1 h
      refine lv_iload_n hx hb dX9_about_63 rfl (lv_at hl 2 rfl) ?_
      refine lv_iconst (v := 1) hx hb dX9_about_64 (by decide) ?_
      refine lv_icmp_ne (tgt := 77) hx hb dX9_about_65 (by decide) (fun c2 => ?_) (fun c2 => ?_)
      · replace h := gw_ifF c2 h
        refine lv_iload_n hx hb dX9_about_77 rfl (lv_at hl 2 rfl) ?_
        refine lv_iconst (v := 2) hx hb dX9_about_78 (by decide) ?_
        refine lv_icmp_ne (tgt := 91) hx hb dX9_about_79 (by decide) (fun c3 => ?_) (fun c3 => ?_)
        · replace h := gw_ifF c3 h
          refine lv_iload_n hx hb dX9_about_91 rfl (lv_at hl 2 rfl) ?_
          refine lv_iconst (v := 3) hx hb dX9_about_92 (by decide) ?_
          refine lv_icmp_ne (tgt := 105) hx hb dX9_about_93 (by decide) (fun c4 => ?_) (fun c4 => ?_)
          · replace h := gw_ifF c4 h
            refine lv_aload_n hx hb dX9_about_105 rfl (lv_at hl 0 rfl) ?_
            refine gw_get (T := TX9) (k := 43) (v := .ref (a 38)) B hI gm_g0 rfl ly_X9_about_9 (by decide) m_X9_about_122 rfl rfl dX9_about_106 ?_
            refine lv_iload_n hx hb dX9_about_109 rfl (lv_at hl 1 rfl) ?_
            obtain ⟨g5, h⟩ := gw_gdE h
            refine gw_iald (t0 := 0) B hI gm_g38 rfl g5 dX9_about_110 ?_
            rw [← Option.some.inj h]
            exact gw_iret (W' := (fun w => w = gw_mw cc a S)) B hI rfl (Nat.zero_le _) (Nat.zero_le _) dX9_about_111
          · replace h := gw_ifT c4 h
            refine lv_aload_n hx hb dX9_about_96 rfl (lv_at hl 0 rfl) ?_
            refine gw_get (T := TX9) (k := 42) (v := .ref (a 37)) B hI gm_g0 rfl ly_X9_about_9 (by decide) m_X9_about_119 rfl rfl dX9_about_97 ?_
            refine lv_iload_n hx hb dX9_about_100 rfl (lv_at hl 1 rfl) ?_
            obtain ⟨g6, h⟩ := gw_gdE h
            refine gw_iald (t0 := 0) B hI gm_g37 rfl g6 dX9_about_101 ?_
            refine lv_goto (tgt := 111) hx hb dX9_about_102 (by decide) ?_
            rw [← Option.some.inj h]
            exact gw_iret (W' := (fun w => w = gw_mw cc a S)) B hI rfl (Nat.zero_le _) (Nat.zero_le _) dX9_about_111
        · replace h := gw_ifT c3 h
          refine lv_aload_n hx hb dX9_about_82 rfl (lv_at hl 0 rfl) ?_
          refine gw_get (T := TX9) (k := 41) (v := .ref (a 36)) B hI gm_g0 rfl ly_X9_about_9 (by decide) m_X9_about_116 rfl rfl dX9_about_83 ?_
          refine lv_iload_n hx hb dX9_about_86 rfl (lv_at hl 1 rfl) ?_
          obtain ⟨g7, h⟩ := gw_gdE h
          refine gw_iald (t0 := 0) B hI gm_g36 rfl g7 dX9_about_87 ?_
          refine lv_goto (tgt := 111) hx hb dX9_about_88 (by decide) ?_
          rw [← Option.some.inj h]
          exact gw_iret (W' := (fun w => w = gw_mw cc a S)) B hI rfl (Nat.zero_le _) (Nat.zero_le _) dX9_about_111
      · replace h := gw_ifT c2 h
        refine lv_aload_n hx hb dX9_about_68 rfl (lv_at hl 0 rfl) ?_
        refine gw_get (T := TX9) (k := 40) (v := .ref (a 35)) B hI gm_g0 rfl ly_X9_about_9 (by decide) m_X9_about_113 rfl rfl dX9_about_69 ?_
        refine lv_iload_n hx hb dX9_about_72 rfl (lv_at hl 1 rfl) ?_
        obtain ⟨g8, h⟩ := gw_gdE h
        refine gw_iald (t0 := 0) B hI gm_g35 rfl g8 dX9_about_73 ?_
        refine lv_goto (tgt := 111) hx hb dX9_about_74 (by decide) ?_
        rw [← Option.some.inj h]
        exact gw_iret (W' := (fun w => w = gw_mw cc a S)) B hI rfl (Nat.zero_le _) (Nat.zero_le _) dX9_about_111
    · replace h := gw_ifT c1 h
      refine lv_aload_n hx hb dX9_about_54 rfl (lv_at hl 0 rfl) ?_
      refine gw_get (T := TX9) (k := 38) (v := .ref (a 33)) B hI gm_g0 rfl ly_X9_about_9 (by decide) m_X9_about_107 rfl rfl dX9_about_55 ?_
      refine lv_iload_n hx hb dX9_about_58 rfl (lv_at hl 1 rfl) ?_
      obtain ⟨g9, h⟩ := gw_gdE h
      refine gw_iald (t0 := 0) B hI gm_g33 rfl g9 dX9_about_59 ?_
      refine lv_goto (tgt := 111) hx hb dX9_about_60 (by decide) ?_
      rw [← Option.some.inj h]
      exact gw_iret (W' := (fun w => w = gw_mw cc a S)) B hI rfl (Nat.zero_le _) (Nat.zero_le _) dX9_about_111
  have hb33 :  ∀ (v1 : Int32) (v2 : Int32), f_X9_about_b33 S  v1 v2 = some zr → ∀ (H : Heap) (locs : List Loc) (ls : Array Slot), gw_I D A s.heap (gw_mw cc a S) H locs → lv_has ls 3 [(0, .ref (a 0)), (1, .int v1), (2, .int v2)] → W p l e rm_X9_about s m args below meth c H locs 0 0 (MQ below (gw_Q (some (.int zr)) (gw_Pst D A (fun w => w = gw_mw cc a S)) A) args s 0 0 A) (F0 m 33 ls []) := by
    intro v1 v2 h H locs ls hI hl
    unfold f_X9_about_b33 at h
    refine lv_iload_n hx hb dX9_about_33 rfl (lv_at hl 2 rfl) ?_
    refine lv_iconst (v := 1) hx hb dX9_about_34 (by decide) ?_
    refine lv_icmp_le (tgt := 50) hx hb dX9_about_35 (by decide) (fun c10 => ?_) (fun c10 => ?_)
    · replace h := gw_ifT c10 h
      exact hb50  v1 v2 h _ _ _ hI (lv_sub hl [0, 1, 2] rfl)
    · replace h := gw_ifF c10 h
      refine lv_aload_n hx hb dX9_about_38 rfl (lv_at hl 0 rfl) ?_
      refine gw_get (T := TX9) (k := 38) (v := .ref (a 33)) B hI gm_g0 rfl ly_X9_about_9 (by decide) m_X9_about_107 rfl rfl dX9_about_39 ?_
      refine lv_iload_n hx hb dX9_about_42 rfl (lv_at hl 1 rfl) ?_
      obtain ⟨g11, h⟩ := gw_gdE h
      refine gw_iald (t0 := 0) B hI gm_g33 rfl g11 dX9_about_43 ?_
      refine lv_iconst (v := 2) hx hb dX9_about_44 (by decide) ?_
      refine lv_icmp_ge (tgt := 50) hx hb dX9_about_45 (by decide) (fun c12 => ?_) (fun c12 => ?_)
      · replace h := gw_ifT c12 h
        exact hb50  v1 v2 h _ _ _ hI (lv_sub hl [0, 1, 2] rfl)
      · replace h := gw_ifF c12 h
        refine lv_iconst (v := -1) hx hb dX9_about_48 (by decide) ?_
        rw [← Option.some.inj h]
        exact gw_iret (W' := (fun w => w = gw_mw cc a S)) B hI rfl (Nat.zero_le _) (Nat.zero_le _) dX9_about_49
  unfold f_X9_about at h
  refine lv_aload_n hx hb dX9_about_0 rfl (lv_at hl 0 rfl) ?_
  refine lv_iload_n hx hb dX9_about_1 rfl (lv_at hl 1 rfl) ?_
  obtain ⟨r13, e14, h⟩ := gw_bdE h
  refine gw_callV (As := [.int x1]) (n := 1) B hI (k_X9_isThere x1 S e14) gX9_about_X9_isThere rfl rfl rfl nd_X9_isThere ⟨Nat.le_of_ble_eq_true rfl, Nat.le_of_ble_eq_true rfl⟩ gm_g0 rfl rfl rfl hl.1 (Nat.zero_le _) dX9_about_2 ⟨Nat.le_of_ble_eq_true rfl, Nat.le_of_ble_eq_true rfl⟩ rfl (fun w' H locs hw hI => ?_)
  subst hw
  refine lv_if_eq (tgt := 48) hx hb dX9_about_5 (by decide) (fun c15 => ?_) (fun c15 => ?_)
  · replace h := gw_ifT c15 h
    refine lv_iconst (v := -1) hx hb dX9_about_48 (by decide) ?_
    rw [← Option.some.inj h]
    exact gw_iret (W' := (fun w => w = gw_mw cc a S)) B hI rfl (Nat.zero_le _) (Nat.zero_le _) dX9_about_49
  · replace h := gw_ifF c15 h
    refine lv_iload_n hx hb dX9_about_8 rfl (lv_at hl 2 rfl) ?_
    refine lv_i2l hx hb dX9_about_9 rfl ?_
    refine lv_lconst (v := 0) hx hb dX9_about_10 (by decide) ?_
    refine lv_ldc2 (v := 4) hx hb hown (hts (.constantLong RX9 255 (4)) (by decide +kernel)) dX9_about_11 ?_
    obtain ⟨r16, e17, h⟩ := gw_bdE h
    refine gw_callS (As := [.long (x2.toInt64), .long (0 : Int64), .long (4 : Int64)]) (n := 3) B hI (k_X9_in (x2.toInt64) (0 : Int64) (4 : Int64) S e17) gX9_about_X9_in rfl rfl rfl nds_X9_in ⟨Nat.le_of_ble_eq_true rfl, Nat.le_of_ble_eq_true rfl⟩ rfl hl.1 (Nat.zero_le _) dX9_about_14 ⟨Nat.le_of_ble_eq_true rfl, Nat.le_of_ble_eq_true rfl⟩ rfl (fun w' H locs hw hI => ?_)
    subst hw
    refine lv_if_eq (tgt := 48) hx hb dX9_about_17 (by decide) (fun c18 => ?_) (fun c18 => ?_)
    · replace h := gw_ifT c18 h
      refine lv_iconst (v := -1) hx hb dX9_about_48 (by decide) ?_
      rw [← Option.some.inj h]
      exact gw_iret (W' := (fun w => w = gw_mw cc a S)) B hI rfl (Nat.zero_le _) (Nat.zero_le _) dX9_about_49
    · replace h := gw_ifF c18 h
      refine lv_iload_n hx hb dX9_about_20 rfl (lv_at hl 2 rfl) ?_
      refine lv_if_le (tgt := 33) hx hb dX9_about_21 (by decide) (fun c19 => ?_) (fun c19 => ?_)
      · replace h := gw_ifT c19 h
        exact hb33  x1 x2 h _ _ _ hI (lv_sub hl [0, 1, 2] rfl)
      · replace h := gw_ifF c19 h
        refine lv_aload_n hx hb dX9_about_24 rfl (lv_at hl 0 rfl) ?_
        refine gw_get (T := TX9) (k := 38) (v := .ref (a 33)) B hI gm_g0 rfl ly_X9_about_9 (by decide) m_X9_about_107 rfl rfl dX9_about_25 ?_
        refine lv_iload_n hx hb dX9_about_28 rfl (lv_at hl 1 rfl) ?_
        obtain ⟨g20, h⟩ := gw_gdE h
        refine gw_iald (t0 := 0) B hI gm_g33 rfl g20 dX9_about_29 ?_
        refine lv_if_eq (tgt := 48) hx hb dX9_about_30 (by decide) (fun c21 => ?_) (fun c21 => ?_)
        · replace h := gw_ifT c21 h
          refine lv_iconst (v := -1) hx hb dX9_about_48 (by decide) ?_
          rw [← Option.some.inj h]
          exact gw_iret (W' := (fun w => w = gw_mw cc a S)) B hI rfl (Nat.zero_le _) (Nat.zero_le _) dX9_about_49
        · replace h := gw_ifF c21 h
          exact hb33  x1 x2 h _ _ _ hI (lv_sub hl [0, 1, 2] rfl)
theorem m_X9_retire_55 : Cond.fieldLink RX9 55 "GownLetModel" "isTold" "[Z" ∈ wsX9_retire := by decide +kernel
theorem ly_X9_retire_9 : ∀ w ∈ wsX90, w ∈ wsX9_retire := fun w h => List.mem_cons_of_mem _ (List.mem_append_right _ h)
set_option maxRecDepth 100000 in
set_option maxHeartbeats 4000000 in
theorem k_X9_retire (x1 : Int32) (S : gw_S) {zr : Int32} {zS : gw_S} (h : f_X9_retire x1 S = some (zr, zS)) : gw_M l yX9_retire wsX9_retire rm_X9_retire 0 0 D (gw_ty cc) t1 t2 [.ref (a 0), .int x1] (gw_mw cc a S) (fun w => w = gw_mw cc a zS) (some (.int zr)) := by
  refine gw_enter (cc := cX9_retire) (maxL := 2) (ret := (some .int)) (own := RX9) rfl (by decide) rfl (Nat.le_of_ble_eq_true rfl) ?_
  intro p e s m below meth c A B hin hI ls hl
  have hl : lv_has ls 2 [(0, .ref (a 0)), (1, .int x1)] := hl
  generalize ([.ref (a 0), .int x1] : List Value).toArray = args at B ⊢
  have hx := B.1.1
  have hb := B.1.2.1
  have hown : s.vm.findClass RX9 = some m.cls := B.1.2.2.2.1
  have hts := B.1.2.2.2.2
  unfold f_X9_retire at h
  refine lv_aload_n hx hb dX9_retire_0 rfl (lv_at hl 0 rfl) ?_
  refine lv_iload_n hx hb dX9_retire_1 rfl (lv_at hl 1 rfl) ?_
  obtain ⟨r1, e2, h⟩ := gw_bdE h
  refine gw_callV (As := [.int x1]) (n := 1) B hI (k_X9_isPiece x1 S e2) gX9_retire_X9_isPiece rfl rfl rfl nd_X9_isPiece ⟨Nat.le_of_ble_eq_true rfl, Nat.le_of_ble_eq_true rfl⟩ gm_g0 rfl rfl rfl hl.1 (Nat.zero_le _) dX9_retire_2 ⟨Nat.le_of_ble_eq_true rfl, Nat.le_of_ble_eq_true rfl⟩ rfl (fun w' H locs hw hI => ?_)
  subst hw
  refine lv_if_ne (tgt := 10) hx hb dX9_retire_5 (by decide) (fun c3 => ?_) (fun c3 => ?_)
  · replace h := gw_ifF c3 h
    refine lv_aload_n hx hb dX9_retire_10 rfl (lv_at hl 0 rfl) ?_
    refine lv_iload_n hx hb dX9_retire_11 rfl (lv_at hl 1 rfl) ?_
    obtain ⟨r4, e5, h⟩ := gw_bdE h
    refine gw_callV (As := [.int x1]) (n := 1) B hI (k_X9_isRetired x1 S e5) gX9_retire_X9_isRetired rfl rfl rfl nd_X9_isRetired ⟨Nat.le_of_ble_eq_true rfl, Nat.le_of_ble_eq_true rfl⟩ gm_g0 rfl rfl rfl hl.1 (Nat.zero_le _) dX9_retire_12 ⟨Nat.le_of_ble_eq_true rfl, Nat.le_of_ble_eq_true rfl⟩ rfl (fun w' H locs hw hI => ?_)
    subst hw
    refine lv_if_eq (tgt := 21) hx hb dX9_retire_15 (by decide) (fun c6 => ?_) (fun c6 => ?_)
    · replace h := gw_ifT c6 h
      refine lv_aload_n hx hb dX9_retire_21 rfl (lv_at hl 0 rfl) ?_
      refine gw_get (T := TX9) (k := 18) (v := .ref (a 16)) B hI gm_g0 rfl ly_X9_retire_9 (by decide) m_X9_retire_55 rfl rfl dX9_retire_22 ?_
      refine lv_iload_n hx hb dX9_retire_25 rfl (lv_at hl 1 rfl) ?_
      refine lv_iconst (v := 1) hx hb dX9_retire_26 (by decide) ?_
      obtain ⟨g7, h⟩ := gw_gdE h
      obtain ⟨S8, e9, h⟩ := gw_letE h
      refine gw_zast (t0 := 2) (w' := gw_mw cc a S8) B hI gm_g16 rfl g7 (gm_s16 e9) dX9_retire_27 (fun H locs hI => ?_)
      refine lv_aload_n hx hb dX9_retire_28 rfl (lv_at hl 0 rfl) ?_
      refine lv_iload_n hx hb dX9_retire_29 rfl (lv_at hl 1 rfl) ?_
      obtain ⟨r10, e11, h⟩ := gw_bdE h
      refine gw_callV (As := [.int x1]) (n := 1) B hI (k_X9_worthOf x1 S8 e11) gX9_retire_X9_worthOf rfl rfl rfl nd_X9_worthOf ⟨Nat.le_of_ble_eq_true rfl, Nat.le_of_ble_eq_true rfl⟩ gm_g0 rfl rfl rfl hl.1 (Nat.zero_le _) dX9_retire_30 ⟨Nat.le_of_ble_eq_true rfl, Nat.le_of_ble_eq_true rfl⟩ rfl (fun w' H locs hw hI => ?_)
      subst hw
      obtain ⟨h1, h2⟩ := Prod.mk.inj (Option.some.inj h)
      rw [h2] at hI
      rw [← h1]
      exact gw_iret (W' := (fun w => w = gw_mw cc a zS)) B hI rfl (Nat.zero_le _) (Nat.zero_le _) dX9_retire_33
    · replace h := gw_ifF c6 h
      refine lv_bipush (v := -2) hx hb dX9_retire_18 (by decide) ?_
      obtain ⟨h1, h2⟩ := Prod.mk.inj (Option.some.inj h)
      rw [h2] at hI
      rw [← h1]
      exact gw_iret (W' := (fun w => w = gw_mw cc a zS)) B hI rfl (Nat.zero_le _) (Nat.zero_le _) dX9_retire_20
  · replace h := gw_ifT c3 h
    refine lv_iconst (v := -1) hx hb dX9_retire_8 (by decide) ?_
    obtain ⟨h1, h2⟩ := Prod.mk.inj (Option.some.inj h)
    rw [h2] at hI
    rw [← h1]
    exact gw_iret (W' := (fun w => w = gw_mw cc a zS)) B hI rfl (Nat.zero_le _) (Nat.zero_le _) dX9_retire_9
theorem m_X9_count_101 : Cond.fieldLink RX9 101 "GownLetModel" "offs" "[I" ∈ wsX9_count := by decide +kernel
theorem m_X9_count_104 : Cond.fieldLink RX9 104 "GownLetModel" "had" "[I" ∈ wsX9_count := by decide +kernel
theorem m_X9_count_203 : Cond.fieldLink RX9 203 "GownLetModel" "pieces" "I" ∈ wsX9_count := by decide +kernel
theorem m_X9_count_221 : Cond.fieldLink RX9 221 "GownLetModel" "doubles" "I" ∈ wsX9_count := by decide +kernel
theorem m_X9_count_257 : Cond.fieldLink RX9 257 "GownLetModel" "bookings" "I" ∈ wsX9_count := by decide +kernel
theorem m_X9_count_52 : Cond.fieldLink RX9 52 "GownLetModel" "worn" "[I" ∈ wsX9_count := by decide +kernel
theorem m_X9_count_59 : Cond.fieldLink RX9 59 "GownLetModel" "isTorn" "[Z" ∈ wsX9_count := by decide +kernel
theorem ly_X9_count_9 : ∀ w ∈ wsX90, w ∈ wsX9_count := fun w h => List.mem_cons_of_mem _ (List.mem_append_right _ h)
set_option maxRecDepth 100000 in
set_option maxHeartbeats 4000000 in
theorem k_X9_count (x1 : Int32) (S : gw_S) {zr : Int32} (h : f_X9_count x1 S = some zr) : gw_M l yX9_count wsX9_count rm_X9_count 0 0 D (gw_ty cc) t1 t2 [.ref (a 0), .int x1] (gw_mw cc a S) (fun w => w = gw_mw cc a S) (some (.int zr)) := by
  refine gw_enter (cc := cX9_count) (maxL := 4) (ret := (some .int)) (own := RX9) rfl (by decide) rfl (Nat.le_of_ble_eq_true rfl) ?_
  intro p e s m below meth c A B hin hI ls hl
  have hl : lv_has ls 4 [(0, .ref (a 0)), (1, .int x1)] := hl
  generalize ([.ref (a 0), .int x1] : List Value).toArray = args at B ⊢
  have hx := B.1.1
  have hb := B.1.2.1
  have hown : s.vm.findClass RX9 = some m.cls := B.1.2.2.2.1
  have hts := B.1.2.2.2.2
  have hb171 : ∀ (K131 : Int32 → Int32 → Int32 → Option (Int32)) (_ : ∀ (v1 : Int32) (v2 : Int32) (v3 : Int32), K131 v1 v2 v3 = some zr → ∀ (H : Heap) (locs : List Loc) (ls : Array Slot), gw_I D A s.heap (gw_mw cc a S) H locs → lv_has ls 4 [(0, .ref (a 0)), (1, .int v1), (2, .int v2), (3, .int v3)] → W p l e rm_X9_count s m args below meth c H locs 0 0 (MQ below (gw_Q (some (.int zr)) (gw_Pst D A (fun w => w = gw_mw cc a S)) A) args s 0 0 A) (F0 m 131 ls [])), ∀ (v1 : Int32) (v3 : Int32) (t0_ : Int32) (t1_ : Int32), f_X9_count_b171 S K131 v1 v3 t0_ t1_ = some zr → ∀ (H : Heap) (locs : List Loc) (ls : Array Slot), gw_I D A s.heap (gw_mw cc a S) H locs → lv_has ls 4 [(0, .ref (a 0)), (1, .int v1), (3, .int v3)] → W p l e rm_X9_count s m args below meth c H locs 0 0 (MQ below (gw_Q (some (.int zr)) (gw_Pst D A (fun w => w = gw_mw cc a S)) A) args s 0 0 A) (F0 m 171 ls [.int t0_, .int t1_]) := by
    intro K131 hK131
    intro v1 v3 t0_ t1_ h H locs ls hI hl
    unfold f_X9_count_b171 at h
    refine lv_iadd hx hb dX9_count_171 ?_
    obtain ⟨y1, e2, h⟩ := gw_letE h
    rw [← e2]
    refine lv_istore_n (lv' := [(2, .int y1), (0, .ref (a 0)), (1, .int v1), (3, .int v3)]) hx hb dX9_count_172 rfl hl (by decide) rfl (fun ls hl => ?_)
    obtain ⟨y3, e4, h⟩ := gw_letE h
    refine lv_iinc (v := y3) (lv' := [(3, .int y3), (2, .int y1), (0, .ref (a 0)), (1, .int v1)]) hx hb dX9_count_173 hl (k := 3) rfl (by rw [e4]; rfl) (by decide) rfl (fun ls hl => ?_)
    refine lv_goto (tgt := 131) hx hb dX9_count_176 (by decide) ?_
    exact hK131 v1 y1 y3 h _ _ _ hI (lv_sub hl [2, 3, 1, 0] rfl)
  have hb170 : ∀ (K131 : Int32 → Int32 → Int32 → Option (Int32)) (_ : ∀ (v1 : Int32) (v2 : Int32) (v3 : Int32), K131 v1 v2 v3 = some zr → ∀ (H : Heap) (locs : List Loc) (ls : Array Slot), gw_I D A s.heap (gw_mw cc a S) H locs → lv_has ls 4 [(0, .ref (a 0)), (1, .int v1), (2, .int v2), (3, .int v3)] → W p l e rm_X9_count s m args below meth c H locs 0 0 (MQ below (gw_Q (some (.int zr)) (gw_Pst D A (fun w => w = gw_mw cc a S)) A) args s 0 0 A) (F0 m 131 ls [])), ∀ (v1 : Int32) (v3 : Int32) (t0_ : Int32), f_X9_count_b170 S K131 v1 v3 t0_ = some zr → ∀ (H : Heap) (locs : List Loc) (ls : Array Slot), gw_I D A s.heap (gw_mw cc a S) H locs → lv_has ls 4 [(0, .ref (a 0)), (1, .int v1), (3, .int v3)] → W p l e rm_X9_count s m args below meth c H locs 0 0 (MQ below (gw_Q (some (.int zr)) (gw_Pst D A (fun w => w = gw_mw cc a S)) A) args s 0 0 A) (F0 m 170 ls [.int t0_]) := by
    intro K131 hK131
    intro v1 v3 t0_ h H locs ls hI hl
    unfold f_X9_count_b170 at h
    refine lv_iconst (v := 0) hx hb dX9_count_170 (by decide) ?_
    exact hb171 K131 hK131 v1 v3 (0 : Int32) t0_ h _ _ _ hI (lv_sub hl [0, 1, 2] rfl)
  have hb166 : ∀ (K131 : Int32 → Int32 → Int32 → Option (Int32)) (_ : ∀ (v1 : Int32) (v2 : Int32) (v3 : Int32), K131 v1 v2 v3 = some zr → ∀ (H : Heap) (locs : List Loc) (ls : Array Slot), gw_I D A s.heap (gw_mw cc a S) H locs → lv_has ls 4 [(0, .ref (a 0)), (1, .int v1), (2, .int v2), (3, .int v3)] → W p l e rm_X9_count s m args below meth c H locs 0 0 (MQ below (gw_Q (some (.int zr)) (gw_Pst D A (fun w => w = gw_mw cc a S)) A) args s 0 0 A) (F0 m 131 ls [])), ∀ (v1 : Int32) (v3 : Int32) (t0_ : Int32), f_X9_count_b166 S K131 v1 v3 t0_ = some zr → ∀ (H : Heap) (locs : List Loc) (ls : Array Slot), gw_I D A s.heap (gw_mw cc a S) H locs → lv_has ls 4 [(0, .ref (a 0)), (1, .int v1), (3, .int v3)] → W p l e rm_X9_count s m args below meth c H locs 0 0 (MQ below (gw_Q (some (.int zr)) (gw_Pst D A (fun w => w = gw_mw cc a S)) A) args s 0 0 A) (F0 m 166 ls [.int t0_]) := by
    intro K131 hK131
    intro v1 v3 t0_ h H locs ls hI hl
    unfold f_X9_count_b166 at h
    refine lv_iconst (v := 1) hx hb dX9_count_166 (by decide) ?_
    refine lv_goto (tgt := 171) hx hb dX9_count_167 (by decide) ?_
    exact hb171 K131 hK131 v1 v3 (1 : Int32) t0_ h _ _ _ hI (lv_sub hl [0, 1, 2] rfl)
  have hb131 :  ∀ (n : Nat), ∀ (v1 : Int32) (v2 : Int32) (v3 : Int32), f_X9_count_b131 S  n v1 v2 v3 = some zr → ∀ (H : Heap) (locs : List Loc) (ls : Array Slot), gw_I D A s.heap (gw_mw cc a S) H locs → lv_has ls 4 [(0, .ref (a 0)), (1, .int v1), (2, .int v2), (3, .int v3)] → W p l e rm_X9_count s m args below meth c H locs 0 0 (MQ below (gw_Q (some (.int zr)) (gw_Pst D A (fun w => w = gw_mw cc a S)) A) args s 0 0 A) (F0 m 131 ls []) := by
    intro n
    induction n with
    | zero =>
      intro v1 v2 v3 h
      cases h
    | succ n ih =>
      intro v1 v2 v3 h H locs ls hI hl
      unfold f_X9_count_b131 at h
      refine lv_iload_n hx hb dX9_count_131 rfl (lv_at hl 3 rfl) ?_
      refine lv_aload_n hx hb dX9_count_132 rfl (lv_at hl 0 rfl) ?_
      refine gw_get (T := TX9) (k := 29) (v := .int (S 0 29)) B hI gm_g0 rfl ly_X9_count_9 (by decide) m_X9_count_257 rfl rfl dX9_count_133 ?_
      refine lv_icmp_ge (tgt := 179) hx hb dX9_count_136 (by decide) (fun c5 => ?_) (fun c5 => ?_)
      · replace h := gw_ifT c5 h
        refine lv_iload_n hx hb dX9_count_179 rfl (lv_at hl 2 rfl) ?_
        rw [← Option.some.inj h]
        exact gw_iret (W' := (fun w => w = gw_mw cc a S)) B hI rfl (Nat.zero_le _) (Nat.zero_le _) dX9_count_180
      · replace h := gw_ifF c5 h
        refine lv_iload_n hx hb dX9_count_139 rfl (lv_at hl 2 rfl) ?_
        refine lv_iload_n hx hb dX9_count_140 rfl (lv_at hl 1 rfl) ?_
        refine lv_iconst (v := 5) hx hb dX9_count_141 (by decide) ?_
        refine lv_icmp_ne (tgt := 157) hx hb dX9_count_142 (by decide) (fun c6 => ?_) (fun c6 => ?_)
        · replace h := gw_ifF c6 h
          refine lv_aload_n hx hb dX9_count_157 rfl (lv_at hl 0 rfl) ?_
          refine gw_get (T := TX9) (k := 37) (v := .ref (a 32)) B hI gm_g0 rfl ly_X9_count_9 (by decide) m_X9_count_104 rfl rfl dX9_count_158 ?_
          refine lv_iload_n hx hb dX9_count_161 rfl (lv_at hl 3 rfl) ?_
          obtain ⟨g7, h⟩ := gw_gdE h
          refine gw_iald (t0 := 0) B hI gm_g32 rfl g7 dX9_count_162 ?_
          refine lv_if_lt (tgt := 170) hx hb dX9_count_163 (by decide) (fun c8 => ?_) (fun c8 => ?_)
          · replace h := gw_ifT c8 h
            exact hb170 (f_X9_count_b131 S  n) ih v1 v3 v2 h _ _ _ hI (lv_sub hl [0, 1, 3] rfl)
          · replace h := gw_ifF c8 h
            exact hb166 (f_X9_count_b131 S  n) ih v1 v3 v2 h _ _ _ hI (lv_sub hl [0, 1, 3] rfl)
        · replace h := gw_ifT c6 h
          refine lv_aload_n hx hb dX9_count_145 rfl (lv_at hl 0 rfl) ?_
          refine gw_get (T := TX9) (k := 36) (v := .ref (a 31)) B hI gm_g0 rfl ly_X9_count_9 (by decide) m_X9_count_101 rfl rfl dX9_count_146 ?_
          refine lv_iload_n hx hb dX9_count_149 rfl (lv_at hl 3 rfl) ?_
          obtain ⟨g9, h⟩ := gw_gdE h
          refine gw_iald (t0 := 0) B hI gm_g31 rfl g9 dX9_count_150 ?_
          refine lv_if_lt (tgt := 170) hx hb dX9_count_151 (by decide) (fun c10 => ?_) (fun c10 => ?_)
          · replace h := gw_ifT c10 h
            exact hb170 (f_X9_count_b131 S  n) ih v1 v3 v2 h _ _ _ hI (lv_sub hl [0, 1, 3] rfl)
          · replace h := gw_ifF c10 h
            refine lv_goto (tgt := 166) hx hb dX9_count_154 (by decide) ?_
            exact hb166 (f_X9_count_b131 S  n) ih v1 v3 v2 h _ _ _ hI (lv_sub hl [0, 1, 3] rfl)
  have hb129 :  ∀ (v1 : Int32) (v2 : Int32), f_X9_count_b129 S  v1 v2 = some zr → ∀ (H : Heap) (locs : List Loc) (ls : Array Slot), gw_I D A s.heap (gw_mw cc a S) H locs → lv_has ls 4 [(0, .ref (a 0)), (1, .int v1), (2, .int v2)] → W p l e rm_X9_count s m args below meth c H locs 0 0 (MQ below (gw_Q (some (.int zr)) (gw_Pst D A (fun w => w = gw_mw cc a S)) A) args s 0 0 A) (F0 m 129 ls []) := by
    intro v1 v2 h H locs ls hI hl
    unfold f_X9_count_b129 at h
    refine lv_iconst (v := 0) hx hb dX9_count_129 (by decide) ?_
    refine lv_istore_n (lv' := [(3, .int (0 : Int32)), (0, .ref (a 0)), (1, .int v1), (2, .int v2)]) hx hb dX9_count_130 rfl hl (by decide) rfl (fun ls hl => ?_)
    exact hb131  gw_F v1 v2 (0 : Int32) h _ _ _ hI (lv_sub hl [1, 2, 3, 0] rfl)
  have hb109 : ∀ (K55 : Int32 → Int32 → Int32 → Option (Int32)) (_ : ∀ (v1 : Int32) (v2 : Int32) (v3 : Int32), K55 v1 v2 v3 = some zr → ∀ (H : Heap) (locs : List Loc) (ls : Array Slot), gw_I D A s.heap (gw_mw cc a S) H locs → lv_has ls 4 [(0, .ref (a 0)), (1, .int v1), (2, .int v2), (3, .int v3)] → W p l e rm_X9_count s m args below meth c H locs 0 0 (MQ below (gw_Q (some (.int zr)) (gw_Pst D A (fun w => w = gw_mw cc a S)) A) args s 0 0 A) (F0 m 55 ls [])), ∀ (v1 : Int32) (v3 : Int32) (t0_ : Int32) (t1_ : Int32), f_X9_count_b109 S K55 v1 v3 t0_ t1_ = some zr → ∀ (H : Heap) (locs : List Loc) (ls : Array Slot), gw_I D A s.heap (gw_mw cc a S) H locs → lv_has ls 4 [(0, .ref (a 0)), (1, .int v1), (3, .int v3)] → W p l e rm_X9_count s m args below meth c H locs 0 0 (MQ below (gw_Q (some (.int zr)) (gw_Pst D A (fun w => w = gw_mw cc a S)) A) args s 0 0 A) (F0 m 109 ls [.int t0_, .int t1_]) := by
    intro K55 hK55
    intro v1 v3 t0_ t1_ h H locs ls hI hl
    unfold f_X9_count_b109 at h
    refine lv_iadd hx hb dX9_count_109 ?_
    obtain ⟨y11, e12, h⟩ := gw_letE h
    rw [← e12]
    refine lv_istore_n (lv' := [(2, .int y11), (0, .ref (a 0)), (1, .int v1), (3, .int v3)]) hx hb dX9_count_110 rfl hl (by decide) rfl (fun ls hl => ?_)
    obtain ⟨y13, e14, h⟩ := gw_letE h
    refine lv_iinc (v := y13) (lv' := [(3, .int y13), (2, .int y11), (0, .ref (a 0)), (1, .int v1)]) hx hb dX9_count_111 hl (k := 3) rfl (by rw [e14]; rfl) (by decide) rfl (fun ls hl => ?_)
    refine lv_goto (tgt := 55) hx hb dX9_count_114 (by decide) ?_
    exact hK55 v1 y11 y13 h _ _ _ hI (lv_sub hl [2, 3, 1, 0] rfl)
  have hb108 : ∀ (K55 : Int32 → Int32 → Int32 → Option (Int32)) (_ : ∀ (v1 : Int32) (v2 : Int32) (v3 : Int32), K55 v1 v2 v3 = some zr → ∀ (H : Heap) (locs : List Loc) (ls : Array Slot), gw_I D A s.heap (gw_mw cc a S) H locs → lv_has ls 4 [(0, .ref (a 0)), (1, .int v1), (2, .int v2), (3, .int v3)] → W p l e rm_X9_count s m args below meth c H locs 0 0 (MQ below (gw_Q (some (.int zr)) (gw_Pst D A (fun w => w = gw_mw cc a S)) A) args s 0 0 A) (F0 m 55 ls [])), ∀ (v1 : Int32) (v3 : Int32) (t0_ : Int32), f_X9_count_b108 S K55 v1 v3 t0_ = some zr → ∀ (H : Heap) (locs : List Loc) (ls : Array Slot), gw_I D A s.heap (gw_mw cc a S) H locs → lv_has ls 4 [(0, .ref (a 0)), (1, .int v1), (3, .int v3)] → W p l e rm_X9_count s m args below meth c H locs 0 0 (MQ below (gw_Q (some (.int zr)) (gw_Pst D A (fun w => w = gw_mw cc a S)) A) args s 0 0 A) (F0 m 108 ls [.int t0_]) := by
    intro K55 hK55
    intro v1 v3 t0_ h H locs ls hI hl
    unfold f_X9_count_b108 at h
    refine lv_iconst (v := 0) hx hb dX9_count_108 (by decide) ?_
    exact hb109 K55 hK55 v1 v3 (0 : Int32) t0_ h _ _ _ hI (lv_sub hl [0, 1, 2] rfl)
  have hb104 : ∀ (K55 : Int32 → Int32 → Int32 → Option (Int32)) (_ : ∀ (v1 : Int32) (v2 : Int32) (v3 : Int32), K55 v1 v2 v3 = some zr → ∀ (H : Heap) (locs : List Loc) (ls : Array Slot), gw_I D A s.heap (gw_mw cc a S) H locs → lv_has ls 4 [(0, .ref (a 0)), (1, .int v1), (2, .int v2), (3, .int v3)] → W p l e rm_X9_count s m args below meth c H locs 0 0 (MQ below (gw_Q (some (.int zr)) (gw_Pst D A (fun w => w = gw_mw cc a S)) A) args s 0 0 A) (F0 m 55 ls [])), ∀ (v1 : Int32) (v3 : Int32) (t0_ : Int32), f_X9_count_b104 S K55 v1 v3 t0_ = some zr → ∀ (H : Heap) (locs : List Loc) (ls : Array Slot), gw_I D A s.heap (gw_mw cc a S) H locs → lv_has ls 4 [(0, .ref (a 0)), (1, .int v1), (3, .int v3)] → W p l e rm_X9_count s m args below meth c H locs 0 0 (MQ below (gw_Q (some (.int zr)) (gw_Pst D A (fun w => w = gw_mw cc a S)) A) args s 0 0 A) (F0 m 104 ls [.int t0_]) := by
    intro K55 hK55
    intro v1 v3 t0_ h H locs ls hI hl
    unfold f_X9_count_b104 at h
    refine lv_iconst (v := 1) hx hb dX9_count_104 (by decide) ?_
    refine lv_goto (tgt := 109) hx hb dX9_count_105 (by decide) ?_
    exact hb109 K55 hK55 v1 v3 (1 : Int32) t0_ h _ _ _ hI (lv_sub hl [0, 1, 2] rfl)
  have hb55 :  ∀ (n : Nat), ∀ (v1 : Int32) (v2 : Int32) (v3 : Int32), f_X9_count_b55 S  n v1 v2 v3 = some zr → ∀ (H : Heap) (locs : List Loc) (ls : Array Slot), gw_I D A s.heap (gw_mw cc a S) H locs → lv_has ls 4 [(0, .ref (a 0)), (1, .int v1), (2, .int v2), (3, .int v3)] → W p l e rm_X9_count s m args below meth c H locs 0 0 (MQ below (gw_Q (some (.int zr)) (gw_Pst D A (fun w => w = gw_mw cc a S)) A) args s 0 0 A) (F0 m 55 ls []) := by
    intro n
    induction n with
    | zero =>
      intro v1 v2 v3 h
      cases h
    | succ n ih =>
      intro v1 v2 v3 h H locs ls hI hl
      unfold f_X9_count_b55 at h
      refine lv_iload_n hx hb dX9_count_55 rfl (lv_at hl 3 rfl) ?_
      refine lv_aload_n hx hb dX9_count_56 rfl (lv_at hl 0 rfl) ?_
      refine gw_get (T := TX9) (k := 8) (v := .int (S 0 8)) B hI gm_g0 rfl ly_X9_count_9 (by decide) m_X9_count_203 rfl rfl dX9_count_57 ?_
      refine lv_icmp_ge (tgt := 117) hx hb dX9_count_60 (by decide) (fun c15 => ?_) (fun c15 => ?_)
      · replace h := gw_ifT c15 h
        refine lv_iload_n hx hb dX9_count_117 rfl (lv_at hl 2 rfl) ?_
        rw [← Option.some.inj h]
        exact gw_iret (W' := (fun w => w = gw_mw cc a S)) B hI rfl (Nat.zero_le _) (Nat.zero_le _) dX9_count_118
      · replace h := gw_ifF c15 h
        refine lv_iload_n hx hb dX9_count_63 rfl (lv_at hl 2 rfl) ?_
        refine lv_iload_n hx hb dX9_count_64 rfl (lv_at hl 1 rfl) ?_
        refine lv_bipush (v := 7) hx hb dX9_count_65 (by decide) ?_
        refine lv_icmp_ne (tgt := 79) hx hb dX9_count_67 (by decide) (fun c16 => ?_) (fun c16 => ?_)
        · replace h := gw_ifF c16 h
          refine lv_iload_n hx hb dX9_count_79 rfl (lv_at hl 1 rfl) ?_
          refine lv_iconst (v := 1) hx hb dX9_count_80 (by decide) ?_
          refine lv_icmp_ne (tgt := 95) hx hb dX9_count_81 (by decide) (fun c17 => ?_) (fun c17 => ?_)
          · replace h := gw_ifF c17 h
            refine lv_aload_n hx hb dX9_count_95 rfl (lv_at hl 0 rfl) ?_
            refine gw_get (T := TX9) (k := 19) (v := .ref (a 17)) B hI gm_g0 rfl ly_X9_count_9 (by decide) m_X9_count_59 rfl rfl dX9_count_96 ?_
            refine lv_iload_n hx hb dX9_count_99 rfl (lv_at hl 3 rfl) ?_
            obtain ⟨g18, h⟩ := gw_gdE h
            refine gw_zald (t0 := 2) B hI gm_g17 rfl g18 dX9_count_100 ?_
            refine lv_if_eq (tgt := 108) hx hb dX9_count_101 (by decide) (fun c19 => ?_) (fun c19 => ?_)
            · replace h := gw_ifT c19 h
              exact hb108 (f_X9_count_b55 S  n) ih v1 v3 v2 h _ _ _ hI (lv_sub hl [0, 1, 3] rfl)
            · replace h := gw_ifF c19 h
              exact hb104 (f_X9_count_b55 S  n) ih v1 v3 v2 h _ _ _ hI (lv_sub hl [0, 1, 3] rfl)
          · replace h := gw_ifT c17 h
            refine lv_aload_n hx hb dX9_count_84 rfl (lv_at hl 0 rfl) ?_
            refine lv_iload_n hx hb dX9_count_85 rfl (lv_at hl 3 rfl) ?_
            obtain ⟨r20, e21, h⟩ := gw_bdE h
            refine gw_callV (As := [.int v3]) (n := 1) B hI (k_X9_isRetired v3 S e21) gX9_count_X9_isRetired rfl rfl rfl nd_X9_isRetired ⟨Nat.le_of_ble_eq_true rfl, Nat.le_of_ble_eq_true rfl⟩ gm_g0 rfl rfl rfl hl.1 (by simp [gw_catq, gw_cI, gw_cR, gw_cL]) dX9_count_86 ⟨Nat.le_of_ble_eq_true rfl, Nat.le_of_ble_eq_true rfl⟩ rfl (fun w' H locs hw hI => ?_)
            subst hw
            refine lv_if_eq (tgt := 108) hx hb dX9_count_89 (by decide) (fun c22 => ?_) (fun c22 => ?_)
            · replace h := gw_ifT c22 h
              exact hb108 (f_X9_count_b55 S  n) ih v1 v3 v2 h _ _ _ hI (lv_sub hl [0, 1, 3] rfl)
            · replace h := gw_ifF c22 h
              refine lv_goto (tgt := 104) hx hb dX9_count_92 (by decide) ?_
              exact hb104 (f_X9_count_b55 S  n) ih v1 v3 v2 h _ _ _ hI (lv_sub hl [0, 1, 3] rfl)
        · replace h := gw_ifT c16 h
          refine lv_aload_n hx hb dX9_count_70 rfl (lv_at hl 0 rfl) ?_
          refine gw_get (T := TX9) (k := 17) (v := .ref (a 15)) B hI gm_g0 rfl ly_X9_count_9 (by decide) m_X9_count_52 rfl rfl dX9_count_71 ?_
          refine lv_iload_n hx hb dX9_count_74 rfl (lv_at hl 3 rfl) ?_
          obtain ⟨g23, h⟩ := gw_gdE h
          refine gw_iald (t0 := 0) B hI gm_g15 rfl g23 dX9_count_75 ?_
          refine lv_goto (tgt := 109) hx hb dX9_count_76 (by decide) ?_
          exact hb109 (f_X9_count_b55 S  n) ih v1 v3 (S 15 v3.toNatClampNeg) v2 h _ _ _ hI (lv_sub hl [0, 1, 3] rfl)
  have hb53 :  ∀ (v1 : Int32) (v2 : Int32), f_X9_count_b53 S  v1 v2 = some zr → ∀ (H : Heap) (locs : List Loc) (ls : Array Slot), gw_I D A s.heap (gw_mw cc a S) H locs → lv_has ls 4 [(0, .ref (a 0)), (1, .int v1), (2, .int v2)] → W p l e rm_X9_count s m args below meth c H locs 0 0 (MQ below (gw_Q (some (.int zr)) (gw_Pst D A (fun w => w = gw_mw cc a S)) A) args s 0 0 A) (F0 m 53 ls []) := by
    intro v1 v2 h H locs ls hI hl
    unfold f_X9_count_b53 at h
    refine lv_iconst (v := 0) hx hb dX9_count_53 (by decide) ?_
    refine lv_istore_n (lv' := [(3, .int (0 : Int32)), (0, .ref (a 0)), (1, .int v1), (2, .int v2)]) hx hb dX9_count_54 rfl hl (by decide) rfl (fun ls hl => ?_)
    exact hb55  gw_F v1 v2 (0 : Int32) h _ _ _ hI (lv_sub hl [1, 2, 3, 0] rfl)
  unfold f_X9_count at h
  refine lv_iconst (v := 0) hx hb dX9_count_0 (by decide) ?_
  refine lv_istore_n (lv' := [(2, .int (0 : Int32)), (0, .ref (a 0)), (1, .int x1)]) hx hb dX9_count_1 rfl hl (by decide) rfl (fun ls hl => ?_)
  refine lv_iload_n hx hb dX9_count_2 rfl (lv_at hl 2 rfl) ?_
  by_cases c24 : x1 = 0
  · replace h := gw_ifT c24 h
    refine gw_tabIn (k := 0) (off := 45) (tgt := 48) B c24 dX9_count_3 (by decide) (by decide) ?_
    refine lv_aload_n hx hb dX9_count_48 rfl (lv_at hl 1 rfl) ?_
    refine gw_get (T := TX9) (k := 8) (v := .int (S 0 8)) B hI gm_g0 rfl ly_X9_count_9 (by decide) m_X9_count_203 rfl rfl dX9_count_49 ?_
    rw [← Option.some.inj h]
    exact gw_iret (W' := (fun w => w = gw_mw cc a S)) B hI rfl (Nat.zero_le _) (Nat.zero_le _) dX9_count_52
  · replace h := gw_ifF c24 h
    by_cases c25 : x1 = 1
    · replace h := gw_ifT c25 h
      refine gw_tabIn (k := 1) (off := 50) (tgt := 53) B c25 dX9_count_3 (by decide) (by decide) ?_
      exact hb53  x1 (0 : Int32) h _ _ _ hI (lv_sub hl [1, 2, 0] rfl)
    · replace h := gw_ifF c25 h
      by_cases c26 : x1 = 2
      · replace h := gw_ifT c26 h
        refine gw_tabIn (k := 2) (off := 50) (tgt := 53) B c26 dX9_count_3 (by decide) (by decide) ?_
        exact hb53  x1 (0 : Int32) h _ _ _ hI (lv_sub hl [1, 2, 0] rfl)
      · replace h := gw_ifF c26 h
        by_cases c27 : x1 = 3
        · replace h := gw_ifT c27 h
          refine gw_tabIn (k := 3) (off := 116) (tgt := 119) B c27 dX9_count_3 (by decide) (by decide) ?_
          refine lv_aload_n hx hb dX9_count_119 rfl (lv_at hl 1 rfl) ?_
          refine gw_get (T := TX9) (k := 21) (v := .int (S 0 21)) B hI gm_g0 rfl ly_X9_count_9 (by decide) m_X9_count_221 rfl rfl dX9_count_120 ?_
          rw [← Option.some.inj h]
          exact gw_iret (W' := (fun w => w = gw_mw cc a S)) B hI rfl (Nat.zero_le _) (Nat.zero_le _) dX9_count_123
        · replace h := gw_ifF c27 h
          by_cases c28 : x1 = 4
          · replace h := gw_ifT c28 h
            refine gw_tabIn (k := 4) (off := 121) (tgt := 124) B c28 dX9_count_3 (by decide) (by decide) ?_
            refine lv_aload_n hx hb dX9_count_124 rfl (lv_at hl 1 rfl) ?_
            refine gw_get (T := TX9) (k := 29) (v := .int (S 0 29)) B hI gm_g0 rfl ly_X9_count_9 (by decide) m_X9_count_257 rfl rfl dX9_count_125 ?_
            rw [← Option.some.inj h]
            exact gw_iret (W' := (fun w => w = gw_mw cc a S)) B hI rfl (Nat.zero_le _) (Nat.zero_le _) dX9_count_128
          · replace h := gw_ifF c28 h
            by_cases c29 : x1 = 5
            · replace h := gw_ifT c29 h
              refine gw_tabIn (k := 5) (off := 126) (tgt := 129) B c29 dX9_count_3 (by decide) (by decide) ?_
              exact hb129  x1 (0 : Int32) h _ _ _ hI (lv_sub hl [1, 2, 0] rfl)
            · replace h := gw_ifF c29 h
              by_cases c30 : x1 = 6
              · replace h := gw_ifT c30 h
                refine gw_tabIn (k := 6) (off := 126) (tgt := 129) B c30 dX9_count_3 (by decide) (by decide) ?_
                exact hb129  x1 (0 : Int32) h _ _ _ hI (lv_sub hl [1, 2, 0] rfl)
              · replace h := gw_ifF c30 h
                by_cases c31 : x1 = 7
                · replace h := gw_ifT c31 h
                  refine gw_tabIn (k := 7) (off := 50) (tgt := 53) B c31 dX9_count_3 (by decide) (by decide) ?_
                  exact hb53  x1 (0 : Int32) h _ _ _ hI (lv_sub hl [1, 2, 0] rfl)
                · replace h := gw_ifF c31 h
                  refine lv_tableOut (tgt := 181) hx hb dX9_count_3 (gw_out8 c24 c25 c26 c27 c28 c29 c30 c31) (by decide) ?_
                  refine lv_iconst (v := -1) hx hb dX9_count_181 (by decide) ?_
                  rw [← Option.some.inj h]
                  exact gw_iret (W' := (fun w => w = gw_mw cc a S)) B hI rfl (Nat.zero_le _) (Nat.zero_le _) dX9_count_182
set_option maxRecDepth 100000 in
set_option maxHeartbeats 4000000 in
theorem k_X9_isSheet (x0 : Int32) (x1 : Int32) (S : gw_S) {zr : Int32} (h : f_X9_isSheet x0 x1 S = some zr) : gw_M l yX9_isSheet wsX9_isSheet rm_X9_isSheet 0 0 D (gw_ty cc) t1 t2 [.int x0, .int x1] (gw_mw cc a S) (fun w => w = gw_mw cc a S) (some (.int zr)) := by
  refine gw_enter (cc := cX9_isSheet) (maxL := 2) (ret := (some .boolean)) (own := RX9) rfl (by decide) rfl (Nat.le_of_ble_eq_true rfl) ?_
  intro p e s m below meth c A B hin hI ls hl
  have hl : lv_has ls 2 [(0, .int x0), (1, .int x1)] := hl
  generalize ([.int x0, .int x1] : List Value).toArray = args at B ⊢
  have hx := B.1.1
  have hb := B.1.2.1
  have hown : s.vm.findClass RX9 = some m.cls := B.1.2.2.2.1
  have hts := B.1.2.2.2.2
  unfold f_X9_isSheet at h
  refine lv_iload_n hx hb dX9_isSheet_0 rfl (lv_at hl 0 rfl) ?_
  refine lv_i2l hx hb dX9_isSheet_1 rfl ?_
  refine lv_lconst (v := 0) hx hb dX9_isSheet_2 (by decide) ?_
  refine lv_ldc2 (v := 3) hx hb hown (hts (.constantLong RX9 213 (3)) (by decide +kernel)) dX9_isSheet_3 ?_
  obtain ⟨r1, e2, h⟩ := gw_bdE h
  refine gw_callS (As := [.long (x0.toInt64), .long (0 : Int64), .long (3 : Int64)]) (n := 3) B hI (k_X9_in (x0.toInt64) (0 : Int64) (3 : Int64) S e2) gX9_isSheet_X9_in rfl rfl rfl nds_X9_in ⟨Nat.le_of_ble_eq_true rfl, Nat.le_of_ble_eq_true rfl⟩ rfl hl.1 (Nat.zero_le _) dX9_isSheet_6 ⟨Nat.le_of_ble_eq_true rfl, Nat.le_of_ble_eq_true rfl⟩ rfl (fun w' H locs hw hI => ?_)
  subst hw
  refine lv_if_eq (tgt := 28) hx hb dX9_isSheet_9 (by decide) (fun c3 => ?_) (fun c3 => ?_)
  · replace h := gw_ifT c3 h
    refine lv_iconst (v := 0) hx hb dX9_isSheet_28 (by decide) ?_
    rw [← Option.some.inj h]
    exact gw_zret (W' := (fun w => w = gw_mw cc a S)) B hI rfl (Or.inl rfl) (Nat.zero_le _) (Nat.zero_le _) dX9_isSheet_29
  · replace h := gw_ifF c3 h
    refine lv_iload_n hx hb dX9_isSheet_12 rfl (lv_at hl 1 rfl) ?_
    refine lv_i2l hx hb dX9_isSheet_13 rfl ?_
    refine lv_lconst (v := 0) hx hb dX9_isSheet_14 (by decide) ?_
    refine lv_ldc2 (v := 2) hx hb hown (hts (.constantLong RX9 241 (2)) (by decide +kernel)) dX9_isSheet_15 ?_
    obtain ⟨r4, e5, h⟩ := gw_bdE h
    refine gw_callS (As := [.long (x1.toInt64), .long (0 : Int64), .long (2 : Int64)]) (n := 3) B hI (k_X9_in (x1.toInt64) (0 : Int64) (2 : Int64) S e5) gX9_isSheet_X9_in rfl rfl rfl nds_X9_in ⟨Nat.le_of_ble_eq_true rfl, Nat.le_of_ble_eq_true rfl⟩ rfl hl.1 (Nat.zero_le _) dX9_isSheet_18 ⟨Nat.le_of_ble_eq_true rfl, Nat.le_of_ble_eq_true rfl⟩ rfl (fun w' H locs hw hI => ?_)
    subst hw
    refine lv_if_eq (tgt := 28) hx hb dX9_isSheet_21 (by decide) (fun c6 => ?_) (fun c6 => ?_)
    · replace h := gw_ifT c6 h
      refine lv_iconst (v := 0) hx hb dX9_isSheet_28 (by decide) ?_
      rw [← Option.some.inj h]
      exact gw_zret (W' := (fun w => w = gw_mw cc a S)) B hI rfl (Or.inl rfl) (Nat.zero_le _) (Nat.zero_le _) dX9_isSheet_29
    · replace h := gw_ifF c6 h
      refine lv_iconst (v := 1) hx hb dX9_isSheet_24 (by decide) ?_
      refine lv_goto (tgt := 29) hx hb dX9_isSheet_25 (by decide) ?_
      rw [← Option.some.inj h]
      exact gw_zret (W' := (fun w => w = gw_mw cc a S)) B hI rfl (Or.inr rfl) (Nat.zero_le _) (Nat.zero_le _) dX9_isSheet_29
theorem m_X9_sheet_137 : Cond.fieldLink RX9 137 "GownLetModel" "lanes" "[I" ∈ wsX9_sheet := by decide +kernel
theorem m_X9_sheet_140 : Cond.fieldLink RX9 140 "GownLetModel" "lengths" "[I" ∈ wsX9_sheet := by decide +kernel
theorem m_X9_sheet_143 : Cond.fieldLink RX9 143 "GownLetModel" "items" "[I" ∈ wsX9_sheet := by decide +kernel
theorem ly_X9_sheet_9 : ∀ w ∈ wsX90, w ∈ wsX9_sheet := fun w h => List.mem_cons_of_mem _ (List.mem_append_right _ h)
set_option maxRecDepth 100000 in
set_option maxHeartbeats 4000000 in
theorem k_X9_sheet (x1 : Int32) (x2 : Int32) (x3 : Int32) (S : gw_S) {zr : Int32} {zS : gw_S} (h : f_X9_sheet x1 x2 x3 S = some (zr, zS)) : gw_M l yX9_sheet wsX9_sheet rm_X9_sheet 0 0 D (gw_ty cc) t1 t2 [.ref (a 0), .int x1, .int x2, .int x3] (gw_mw cc a S) (fun w => w = gw_mw cc a zS) (some (.int zr)) := by
  refine gw_enter (cc := cX9_sheet) (maxL := 5) (ret := (some .int)) (own := RX9) rfl (by decide) rfl (Nat.le_of_ble_eq_true rfl) ?_
  intro p e s m below meth c A B hin hI ls hl
  have hl : lv_has ls 5 [(0, .ref (a 0)), (1, .int x1), (2, .int x2), (3, .int x3)] := hl
  generalize ([.ref (a 0), .int x1, .int x2, .int x3] : List Value).toArray = args at B ⊢
  have hx := B.1.1
  have hb := B.1.2.1
  have hown : s.vm.findClass RX9 = some m.cls := B.1.2.2.2.1
  have hts := B.1.2.2.2.2
  have hb40 :  ∀ (n : Nat), ∀ (v1 : Int32) (v3 : Int32) (v4 : Int32) (S : gw_S), f_X9_sheet_b40  n v1 v3 v4 S = some (zr, zS) → ∀ (H : Heap) (locs : List Loc) (ls : Array Slot), gw_I D A s.heap (gw_mw cc a S) H locs → lv_has ls 5 [(0, .ref (a 0)), (1, .int v1), (3, .int v3), (4, .int v4)] → W p l e rm_X9_sheet s m args below meth c H locs 0 0 (MQ below (gw_Q (some (.int zr)) (gw_Pst D A (fun w => w = gw_mw cc a zS)) A) args s 0 0 A) (F0 m 40 ls []) := by
    intro n
    induction n with
    | zero =>
      intro v1 v3 v4 S h
      cases h
    | succ n ih =>
      intro v1 v3 v4 S h H locs ls hI hl
      unfold f_X9_sheet_b40 at h
      refine lv_iload hx hb dX9_sheet_40 (lv_at hl 3 rfl) ?_
      refine lv_bipush (v := 36) hx hb dX9_sheet_42 (by decide) ?_
      refine lv_icmp_ge (tgt := 66) hx hb dX9_sheet_44 (by decide) (fun c1 => ?_) (fun c1 => ?_)
      · replace h := gw_ifT c1 h
        refine lv_iload_n hx hb dX9_sheet_66 rfl (lv_at hl 2 rfl) ?_
        obtain ⟨h1, h2⟩ := Prod.mk.inj (Option.some.inj h)
        rw [h2] at hI
        rw [← h1]
        exact gw_iret (W' := (fun w => w = gw_mw cc a zS)) B hI rfl (Nat.zero_le _) (Nat.zero_le _) dX9_sheet_67
      · replace h := gw_ifF c1 h
        refine lv_aload_n hx hb dX9_sheet_47 rfl (lv_at hl 0 rfl) ?_
        refine gw_get (T := TX9) (k := 50) (v := .ref (a 45)) B hI gm_g0 rfl ly_X9_sheet_9 (by decide) m_X9_sheet_143 rfl rfl dX9_sheet_48 ?_
        refine lv_bipush (v := 36) hx hb dX9_sheet_51 (by decide) ?_
        refine lv_iload_n hx hb dX9_sheet_53 rfl (lv_at hl 1 rfl) ?_
        refine lv_imul hx hb dX9_sheet_54 ?_
        refine lv_iload hx hb dX9_sheet_55 (lv_at hl 3 rfl) ?_
        refine lv_iadd hx hb dX9_sheet_57 ?_
        refine lv_iconst (v := 0) hx hb dX9_sheet_58 (by decide) ?_
        obtain ⟨g2, h⟩ := gw_gdE h
        obtain ⟨S3, e4, h⟩ := gw_letE h
        refine gw_iast (t0 := 0) (w' := gw_mw cc a S3) B hI gm_g45 rfl g2 (gm_s45 e4) dX9_sheet_59 (fun H locs hI => ?_)
        obtain ⟨y5, e6, h⟩ := gw_letE h
        refine lv_iinc (v := y5) (lv' := [(4, .int y5), (0, .ref (a 0)), (1, .int v1), (3, .int v3)]) hx hb dX9_sheet_60 hl (k := 3) rfl (by rw [e6]; rfl) (by decide) rfl (fun ls hl => ?_)
        refine lv_goto (tgt := 40) hx hb dX9_sheet_63 (by decide) ?_
        exact ih v1 v3 y5 S3 h _ _ _ hI (lv_sub hl [1, 2, 3, 0] rfl)
  unfold f_X9_sheet at h
  refine lv_iload_n hx hb dX9_sheet_0 rfl (lv_at hl 1 rfl) ?_
  refine lv_iload_n hx hb dX9_sheet_1 rfl (lv_at hl 2 rfl) ?_
  obtain ⟨r7, e8, h⟩ := gw_bdE h
  refine gw_callS (As := [.int x1, .int x2]) (n := 2) B hI (k_X9_isSheet x1 x2 S e8) gX9_sheet_X9_isSheet rfl rfl rfl nds_X9_isSheet ⟨Nat.le_of_ble_eq_true rfl, Nat.le_of_ble_eq_true rfl⟩ rfl hl.1 (Nat.zero_le _) dX9_sheet_2 ⟨Nat.le_of_ble_eq_true rfl, Nat.le_of_ble_eq_true rfl⟩ rfl (fun w' H locs hw hI => ?_)
  subst hw
  refine lv_if_eq (tgt := 14) hx hb dX9_sheet_5 (by decide) (fun c9 => ?_) (fun c9 => ?_)
  · replace h := gw_ifT c9 h
    refine lv_iconst (v := -1) hx hb dX9_sheet_14 (by decide) ?_
    obtain ⟨h1, h2⟩ := Prod.mk.inj (Option.some.inj h)
    rw [h2] at hI
    rw [← h1]
    exact gw_iret (W' := (fun w => w = gw_mw cc a zS)) B hI rfl (Nat.zero_le _) (Nat.zero_le _) dX9_sheet_15
  · replace h := gw_ifF c9 h
    refine lv_iload_n hx hb dX9_sheet_8 rfl (lv_at hl 3 rfl) ?_
    refine lv_bipush (v := 36) hx hb dX9_sheet_9 (by decide) ?_
    refine lv_icmp_le (tgt := 16) hx hb dX9_sheet_11 (by decide) (fun c10 => ?_) (fun c10 => ?_)
    · replace h := gw_ifT c10 h
      refine lv_iload_n hx hb dX9_sheet_16 rfl (lv_at hl 3 rfl) ?_
      refine lv_if_ge (tgt := 23) hx hb dX9_sheet_17 (by decide) (fun c11 => ?_) (fun c11 => ?_)
      · replace h := gw_ifT c11 h
        refine lv_aload_n hx hb dX9_sheet_23 rfl (lv_at hl 0 rfl) ?_
        refine gw_get (T := TX9) (k := 48) (v := .ref (a 43)) B hI gm_g0 rfl ly_X9_sheet_9 (by decide) m_X9_sheet_137 rfl rfl dX9_sheet_24 ?_
        refine lv_iload_n hx hb dX9_sheet_27 rfl (lv_at hl 1 rfl) ?_
        refine lv_iload_n hx hb dX9_sheet_28 rfl (lv_at hl 2 rfl) ?_
        obtain ⟨g12, h⟩ := gw_gdE h
        obtain ⟨S13, e14, h⟩ := gw_letE h
        refine gw_iast (t0 := 0) (w' := gw_mw cc a S13) B hI gm_g43 rfl g12 (gm_s43 e14) dX9_sheet_29 (fun H locs hI => ?_)
        refine lv_aload_n hx hb dX9_sheet_30 rfl (lv_at hl 0 rfl) ?_
        refine gw_get (T := TX9) (k := 49) (v := .ref (a 44)) B hI gm_g0 rfl ly_X9_sheet_9 (by decide) m_X9_sheet_140 rfl rfl dX9_sheet_31 ?_
        refine lv_iload_n hx hb dX9_sheet_34 rfl (lv_at hl 1 rfl) ?_
        refine lv_iload_n hx hb dX9_sheet_35 rfl (lv_at hl 3 rfl) ?_
        obtain ⟨S15, e16, h⟩ := gw_letE h
        refine gw_iast (t0 := 0) (w' := gw_mw cc a S15) B hI gm_g44 rfl g12 (gm_s44 e16) dX9_sheet_36 (fun H locs hI => ?_)
        refine lv_iconst (v := 0) hx hb dX9_sheet_37 (by decide) ?_
        refine lv_istore (lv' := [(4, .int (0 : Int32)), (0, .ref (a 0)), (1, .int x1), (2, .int x2), (3, .int x3)]) hx hb dX9_sheet_38 hl (by decide) rfl (fun ls hl => ?_)
        exact hb40  gw_F x1 x3 (0 : Int32) S15 h _ _ _ hI (lv_sub hl [1, 2, 4, 0] rfl)
      · replace h := gw_ifF c11 h
        refine lv_bipush (v := -14) hx hb dX9_sheet_20 (by decide) ?_
        obtain ⟨h1, h2⟩ := Prod.mk.inj (Option.some.inj h)
        rw [h2] at hI
        rw [← h1]
        exact gw_iret (W' := (fun w => w = gw_mw cc a zS)) B hI rfl (Nat.zero_le _) (Nat.zero_le _) dX9_sheet_22
    · replace h := gw_ifF c10 h
      refine lv_iconst (v := -1) hx hb dX9_sheet_14 (by decide) ?_
      obtain ⟨h1, h2⟩ := Prod.mk.inj (Option.some.inj h)
      rw [h2] at hI
      rw [← h1]
      exact gw_iret (W' := (fun w => w = gw_mw cc a zS)) B hI rfl (Nat.zero_le _) (Nat.zero_le _) dX9_sheet_15
theorem m_X9_drop_137 : Cond.fieldLink RX9 137 "GownLetModel" "lanes" "[I" ∈ wsX9_drop := by decide +kernel
theorem m_X9_drop_140 : Cond.fieldLink RX9 140 "GownLetModel" "lengths" "[I" ∈ wsX9_drop := by decide +kernel
theorem ly_X9_drop_9 : ∀ w ∈ wsX90, w ∈ wsX9_drop := fun w h => List.mem_cons_of_mem _ (List.mem_append_right _ h)
set_option maxRecDepth 100000 in
set_option maxHeartbeats 4000000 in
theorem k_X9_drop (x1 : Int32) (S : gw_S) {zr : Int32} {zS : gw_S} (h : f_X9_drop x1 S = some (zr, zS)) : gw_M l yX9_drop wsX9_drop rm_X9_drop 0 0 D (gw_ty cc) t1 t2 [.ref (a 0), .int x1] (gw_mw cc a S) (fun w => w = gw_mw cc a zS) (some (.int zr)) := by
  refine gw_enter (cc := cX9_drop) (maxL := 2) (ret := (some .int)) (own := RX9) rfl (by decide) rfl (Nat.le_of_ble_eq_true rfl) ?_
  intro p e s m below meth c A B hin hI ls hl
  have hl : lv_has ls 2 [(0, .ref (a 0)), (1, .int x1)] := hl
  generalize ([.ref (a 0), .int x1] : List Value).toArray = args at B ⊢
  have hx := B.1.1
  have hb := B.1.2.1
  have hown : s.vm.findClass RX9 = some m.cls := B.1.2.2.2.1
  have hts := B.1.2.2.2.2
  unfold f_X9_drop at h
  refine lv_iload_n hx hb dX9_drop_0 rfl (lv_at hl 1 rfl) ?_
  refine lv_i2l hx hb dX9_drop_1 rfl ?_
  refine lv_lconst (v := 0) hx hb dX9_drop_2 (by decide) ?_
  refine lv_ldc2 (v := 3) hx hb hown (hts (.constantLong RX9 213 (3)) (by decide +kernel)) dX9_drop_3 ?_
  obtain ⟨r1, e2, h⟩ := gw_bdE h
  refine gw_callS (As := [.long (x1.toInt64), .long (0 : Int64), .long (3 : Int64)]) (n := 3) B hI (k_X9_in (x1.toInt64) (0 : Int64) (3 : Int64) S e2) gX9_drop_X9_in rfl rfl rfl nds_X9_in ⟨Nat.le_of_ble_eq_true rfl, Nat.le_of_ble_eq_true rfl⟩ rfl hl.1 (Nat.zero_le _) dX9_drop_6 ⟨Nat.le_of_ble_eq_true rfl, Nat.le_of_ble_eq_true rfl⟩ rfl (fun w' H locs hw hI => ?_)
  subst hw
  refine lv_if_ne (tgt := 14) hx hb dX9_drop_9 (by decide) (fun c3 => ?_) (fun c3 => ?_)
  · replace h := gw_ifF c3 h
    refine lv_aload_n hx hb dX9_drop_14 rfl (lv_at hl 0 rfl) ?_
    refine gw_get (T := TX9) (k := 48) (v := .ref (a 43)) B hI gm_g0 rfl ly_X9_drop_9 (by decide) m_X9_drop_137 rfl rfl dX9_drop_15 ?_
    refine lv_iload_n hx hb dX9_drop_18 rfl (lv_at hl 1 rfl) ?_
    obtain ⟨g4, h⟩ := gw_gdE h
    refine gw_iald (t0 := 0) B hI gm_g43 rfl g4 dX9_drop_19 ?_
    refine lv_if_ge (tgt := 26) hx hb dX9_drop_20 (by decide) (fun c5 => ?_) (fun c5 => ?_)
    · replace h := gw_ifT c5 h
      refine lv_aload_n hx hb dX9_drop_26 rfl (lv_at hl 0 rfl) ?_
      refine gw_get (T := TX9) (k := 48) (v := .ref (a 43)) B hI gm_g0 rfl ly_X9_drop_9 (by decide) m_X9_drop_137 rfl rfl dX9_drop_27 ?_
      refine lv_iload_n hx hb dX9_drop_30 rfl (lv_at hl 1 rfl) ?_
      refine lv_iconst (v := -1) hx hb dX9_drop_31 (by decide) ?_
      obtain ⟨S6, e7, h⟩ := gw_letE h
      refine gw_iast (t0 := 0) (w' := gw_mw cc a S6) B hI gm_g43 rfl g4 (gm_s43 e7) dX9_drop_32 (fun H locs hI => ?_)
      refine lv_aload_n hx hb dX9_drop_33 rfl (lv_at hl 0 rfl) ?_
      refine gw_get (T := TX9) (k := 49) (v := .ref (a 44)) B hI gm_g0 rfl ly_X9_drop_9 (by decide) m_X9_drop_140 rfl rfl dX9_drop_34 ?_
      refine lv_iload_n hx hb dX9_drop_37 rfl (lv_at hl 1 rfl) ?_
      refine gw_iald (t0 := 0) B hI gm_g44 rfl g4 dX9_drop_38 ?_
      obtain ⟨h1, h2⟩ := Prod.mk.inj (Option.some.inj h)
      rw [h2] at hI
      rw [← h1]
      exact gw_iret (W' := (fun w => w = gw_mw cc a zS)) B hI rfl (Nat.zero_le _) (Nat.zero_le _) dX9_drop_39
    · replace h := gw_ifF c5 h
      refine lv_bipush (v := -11) hx hb dX9_drop_23 (by decide) ?_
      obtain ⟨h1, h2⟩ := Prod.mk.inj (Option.some.inj h)
      rw [h2] at hI
      rw [← h1]
      exact gw_iret (W' := (fun w => w = gw_mw cc a zS)) B hI rfl (Nat.zero_le _) (Nat.zero_le _) dX9_drop_25
  · replace h := gw_ifT c3 h
    refine lv_iconst (v := -1) hx hb dX9_drop_12 (by decide) ?_
    obtain ⟨h1, h2⟩ := Prod.mk.inj (Option.some.inj h)
    rw [h2] at hI
    rw [← h1]
    exact gw_iret (W' := (fun w => w = gw_mw cc a zS)) B hI rfl (Nat.zero_le _) (Nat.zero_le _) dX9_drop_13
theorem m_X9_against_137 : Cond.fieldLink RX9 137 "GownLetModel" "lanes" "[I" ∈ wsX9_against := by decide +kernel
theorem m_X9_against_140 : Cond.fieldLink RX9 140 "GownLetModel" "lengths" "[I" ∈ wsX9_against := by decide +kernel
theorem ly_X9_against_9 : ∀ w ∈ wsX90, w ∈ wsX9_against := fun w h => List.mem_cons_of_mem _ (List.mem_append_right _ h)
set_option maxRecDepth 100000 in
set_option maxHeartbeats 4000000 in
theorem k_X9_against (x1 : Int32) (x2 : Int32) (x3 : Int32) (x4 : Int32) (S : gw_S) {zr : Int32} (h : f_X9_against x1 x2 x3 x4 S = some zr) : gw_M l yX9_against wsX9_against rm_X9_against 0 0 D (gw_ty cc) t1 t2 [.ref (a 0), .int x1, .int x2, .int x3, .int x4] (gw_mw cc a S) (fun w => w = gw_mw cc a S) (some (.int zr)) := by
  refine gw_enter (cc := cX9_against) (maxL := 5) (ret := (some .int)) (own := RX9) rfl (by decide) rfl (Nat.le_of_ble_eq_true rfl) ?_
  intro p e s m below meth c A B hin hI ls hl
  have hl : lv_has ls 5 [(0, .ref (a 0)), (1, .int x1), (2, .int x2), (3, .int x3), (4, .int x4)] := hl
  generalize ([.ref (a 0), .int x1, .int x2, .int x3, .int x4] : List Value).toArray = args at B ⊢
  have hx := B.1.1
  have hb := B.1.2.1
  have hown : s.vm.findClass RX9 = some m.cls := B.1.2.2.2.1
  have hts := B.1.2.2.2.2
  unfold f_X9_against at h
  refine lv_aload_n hx hb dX9_against_0 rfl (lv_at hl 0 rfl) ?_
  refine gw_get (T := TX9) (k := 48) (v := .ref (a 43)) B hI gm_g0 rfl ly_X9_against_9 (by decide) m_X9_against_137 rfl rfl dX9_against_1 ?_
  refine lv_iload_n hx hb dX9_against_4 rfl (lv_at hl 1 rfl) ?_
  obtain ⟨g1, h⟩ := gw_gdE h
  refine gw_iald (t0 := 0) B hI gm_g43 rfl g1 dX9_against_5 ?_
  refine lv_iload_n hx hb dX9_against_6 rfl (lv_at hl 2 rfl) ?_
  refine lv_icmp_eq (tgt := 27) hx hb dX9_against_7 (by decide) (fun c2 => ?_) (fun c2 => ?_)
  · replace h := gw_ifT c2 h
    refine lv_iload_n hx hb dX9_against_27 rfl (lv_at hl 3 rfl) ?_
    refine lv_i2l hx hb dX9_against_28 rfl ?_
    refine lv_lconst (v := 0) hx hb dX9_against_29 (by decide) ?_
    refine lv_aload_n hx hb dX9_against_30 rfl (lv_at hl 0 rfl) ?_
    refine gw_get (T := TX9) (k := 49) (v := .ref (a 44)) B hI gm_g0 rfl ly_X9_against_9 (by decide) m_X9_against_140 rfl rfl dX9_against_31 ?_
    refine lv_iload_n hx hb dX9_against_34 rfl (lv_at hl 1 rfl) ?_
    refine gw_iald (t0 := 0) B hI gm_g44 rfl g1 dX9_against_35 ?_
    refine lv_iload hx hb dX9_against_36 (lv_at hl 4 rfl) ?_
    refine lv_isub hx hb dX9_against_38 ?_
    refine lv_i2l hx hb dX9_against_39 rfl ?_
    obtain ⟨r3, e4, h⟩ := gw_bdE h
    refine gw_callS (As := [.long (x3.toInt64), .long (0 : Int64), .long (((S 44 x1.toNatClampNeg) - x4).toInt64)]) (n := 3) B hI (k_X9_in (x3.toInt64) (0 : Int64) (((S 44 x1.toNatClampNeg) - x4).toInt64) S e4) gX9_against_X9_in rfl rfl rfl nds_X9_in ⟨Nat.le_of_ble_eq_true rfl, Nat.le_of_ble_eq_true rfl⟩ rfl hl.1 (Nat.zero_le _) dX9_against_40 ⟨Nat.le_of_ble_eq_true rfl, Nat.le_of_ble_eq_true rfl⟩ rfl (fun w' H locs hw hI => ?_)
    subst hw
    refine lv_if_eq (tgt := 50) hx hb dX9_against_43 (by decide) (fun c5 => ?_) (fun c5 => ?_)
    · replace h := gw_ifT c5 h
      refine lv_bipush (v := -13) hx hb dX9_against_50 (by decide) ?_
      rw [← Option.some.inj h]
      exact gw_iret (W' := (fun w => w = gw_mw cc a S)) B hI rfl (Nat.zero_le _) (Nat.zero_le _) dX9_against_52
    · replace h := gw_ifF c5 h
      refine lv_iconst (v := 0) hx hb dX9_against_46 (by decide) ?_
      refine lv_goto (tgt := 52) hx hb dX9_against_47 (by decide) ?_
      rw [← Option.some.inj h]
      exact gw_iret (W' := (fun w => w = gw_mw cc a S)) B hI rfl (Nat.zero_le _) (Nat.zero_le _) dX9_against_52
  · replace h := gw_ifF c2 h
    refine lv_aload_n hx hb dX9_against_10 rfl (lv_at hl 0 rfl) ?_
    refine gw_get (T := TX9) (k := 48) (v := .ref (a 43)) B hI gm_g0 rfl ly_X9_against_9 (by decide) m_X9_against_137 rfl rfl dX9_against_11 ?_
    refine lv_iload_n hx hb dX9_against_14 rfl (lv_at hl 1 rfl) ?_
    refine gw_iald (t0 := 0) B hI gm_g43 rfl g1 dX9_against_15 ?_
    refine lv_if_ge (tgt := 24) hx hb dX9_against_16 (by decide) (fun c6 => ?_) (fun c6 => ?_)
    · replace h := gw_ifT c6 h
      refine lv_bipush (v := -12) hx hb dX9_against_24 (by decide) ?_
      rw [← Option.some.inj h]
      exact gw_iret (W' := (fun w => w = gw_mw cc a S)) B hI rfl (Nat.zero_le _) (Nat.zero_le _) dX9_against_26
    · replace h := gw_ifF c6 h
      refine lv_bipush (v := -11) hx hb dX9_against_19 (by decide) ?_
      refine lv_goto (tgt := 26) hx hb dX9_against_21 (by decide) ?_
      rw [← Option.some.inj h]
      exact gw_iret (W' := (fun w => w = gw_mw cc a S)) B hI rfl (Nat.zero_le _) (Nat.zero_le _) dX9_against_26
theorem m_X9_item_143 : Cond.fieldLink RX9 143 "GownLetModel" "items" "[I" ∈ wsX9_item := by decide +kernel
theorem ly_X9_item_9 : ∀ w ∈ wsX90, w ∈ wsX9_item := fun w h => List.mem_cons_of_mem _ (List.mem_append_right _ h)
set_option maxRecDepth 100000 in
set_option maxHeartbeats 4000000 in
theorem k_X9_item (x1 : Int32) (x2 : Int32) (x3 : Int32) (x4 : Int32) (S : gw_S) {zr : Int32} {zS : gw_S} (h : f_X9_item x1 x2 x3 x4 S = some (zr, zS)) : gw_M l yX9_item wsX9_item rm_X9_item 0 0 D (gw_ty cc) t1 t2 [.ref (a 0), .int x1, .int x2, .int x3, .int x4] (gw_mw cc a S) (fun w => w = gw_mw cc a zS) (some (.int zr)) := by
  refine gw_enter (cc := cX9_item) (maxL := 6) (ret := (some .int)) (own := RX9) rfl (by decide) rfl (Nat.le_of_ble_eq_true rfl) ?_
  intro p e s m below meth c A B hin hI ls hl
  have hl : lv_has ls 6 [(0, .ref (a 0)), (1, .int x1), (2, .int x2), (3, .int x3), (4, .int x4)] := hl
  generalize ([.ref (a 0), .int x1, .int x2, .int x3, .int x4] : List Value).toArray = args at B ⊢
  have hx := B.1.1
  have hb := B.1.2.1
  have hown : s.vm.findClass RX9 = some m.cls := B.1.2.2.2.1
  have hts := B.1.2.2.2.2
  have hb71 :  ∀ (t0_ : Int32) (t1_ : Int32) (S : gw_S), f_X9_item_b71  t0_ t1_ S = some (zr, zS) → ∀ (H : Heap) (locs : List Loc) (ls : Array Slot), gw_I D A s.heap (gw_mw cc a S) H locs → lv_has ls 6 [] → W p l e rm_X9_item s m args below meth c H locs 0 0 (MQ below (gw_Q (some (.int zr)) (gw_Pst D A (fun w => w = gw_mw cc a zS)) A) args s 0 0 A) (F0 m 71 ls [.int t0_, .int t1_, .ref (a 45)]) := by
    intro t0_ t1_ S h H locs ls hI hl
    unfold f_X9_item_b71 at h
    obtain ⟨g1, h⟩ := gw_gdE h
    obtain ⟨S2, e3, h⟩ := gw_letE h
    refine gw_iast (t0 := 0) (w' := gw_mw cc a S2) B hI gm_g45 rfl g1 (gm_s45 e3) dX9_item_71 (fun H locs hI => ?_)
    refine lv_iconst (v := 1) hx hb dX9_item_72 (by decide) ?_
    obtain ⟨h1, h2⟩ := Prod.mk.inj (Option.some.inj h)
    rw [h2] at hI
    rw [← h1]
    exact gw_iret (W' := (fun w => w = gw_mw cc a zS)) B hI rfl (Nat.zero_le _) (Nat.zero_le _) dX9_item_73
  unfold f_X9_item at h
  refine lv_iload_n hx hb dX9_item_0 rfl (lv_at hl 1 rfl) ?_
  refine lv_iload_n hx hb dX9_item_1 rfl (lv_at hl 2 rfl) ?_
  obtain ⟨r4, e5, h⟩ := gw_bdE h
  refine gw_callS (As := [.int x1, .int x2]) (n := 2) B hI (k_X9_isSheet x1 x2 S e5) gX9_item_X9_isSheet rfl rfl rfl nds_X9_isSheet ⟨Nat.le_of_ble_eq_true rfl, Nat.le_of_ble_eq_true rfl⟩ rfl hl.1 (Nat.zero_le _) dX9_item_2 ⟨Nat.le_of_ble_eq_true rfl, Nat.le_of_ble_eq_true rfl⟩ rfl (fun w' H locs hw hI => ?_)
  subst hw
  refine lv_if_ne (tgt := 10) hx hb dX9_item_5 (by decide) (fun c6 => ?_) (fun c6 => ?_)
  · replace h := gw_ifF c6 h
    refine lv_aload_n hx hb dX9_item_10 rfl (lv_at hl 0 rfl) ?_
    refine lv_iload_n hx hb dX9_item_11 rfl (lv_at hl 1 rfl) ?_
    refine lv_iload_n hx hb dX9_item_12 rfl (lv_at hl 2 rfl) ?_
    refine lv_iload_n hx hb dX9_item_13 rfl (lv_at hl 3 rfl) ?_
    refine lv_iconst (v := 1) hx hb dX9_item_14 (by decide) ?_
    obtain ⟨r7, e8, h⟩ := gw_bdE h
    refine gw_callV (As := [.int x1, .int x2, .int x3, .int (1 : Int32)]) (n := 4) B hI (k_X9_against x1 x2 x3 (1 : Int32) S e8) gX9_item_X9_against rfl rfl rfl nd_X9_against ⟨Nat.le_of_ble_eq_true rfl, Nat.le_of_ble_eq_true rfl⟩ gm_g0 rfl rfl rfl hl.1 (Nat.zero_le _) dX9_item_15 ⟨Nat.le_of_ble_eq_true rfl, Nat.le_of_ble_eq_true rfl⟩ rfl (fun w' H locs hw hI => ?_)
    subst hw
    refine lv_istore (lv' := [(5, .int r7), (0, .ref (a 0)), (1, .int x1), (2, .int x2), (3, .int x3), (4, .int x4)]) hx hb dX9_item_18 hl (by decide) rfl (fun ls hl => ?_)
    refine lv_iload hx hb dX9_item_20 (lv_at hl 0 rfl) ?_
    refine lv_if_ge (tgt := 28) hx hb dX9_item_22 (by decide) (fun c9 => ?_) (fun c9 => ?_)
    · replace h := gw_ifT c9 h
      refine lv_aload_n hx hb dX9_item_28 rfl (lv_at hl 1 rfl) ?_
      refine gw_get (T := TX9) (k := 50) (v := .ref (a 45)) B hI gm_g0 rfl ly_X9_item_9 (by decide) m_X9_item_143 rfl rfl dX9_item_29 ?_
      refine lv_bipush (v := 36) hx hb dX9_item_32 (by decide) ?_
      refine lv_iload_n hx hb dX9_item_34 rfl (lv_at hl 2 rfl) ?_
      refine lv_imul hx hb dX9_item_35 ?_
      refine lv_iload_n hx hb dX9_item_36 rfl (lv_at hl 4 rfl) ?_
      refine lv_iadd hx hb dX9_item_37 ?_
      refine lv_iload_n hx hb dX9_item_38 rfl (lv_at hl 3 rfl) ?_
      refine lv_if_ne (tgt := 53) hx hb dX9_item_39 (by decide) (fun c10 => ?_) (fun c10 => ?_)
      · replace h := gw_ifF c10 h
        refine lv_iload_n hx hb dX9_item_53 rfl (lv_at hl 3 rfl) ?_
        refine lv_iconst (v := 1) hx hb dX9_item_54 (by decide) ?_
        refine lv_icmp_ne (tgt := 69) hx hb dX9_item_55 (by decide) (fun c11 => ?_) (fun c11 => ?_)
        · replace h := gw_ifF c11 h
          refine lv_iload hx hb dX9_item_69 (lv_at hl 5 rfl) ?_
          exact hb71  x4 (((36 : Int32) * x1) + x3) S h _ _ _ hI (lv_sub hl [] rfl)
        · replace h := gw_ifT c11 h
          refine lv_iload hx hb dX9_item_58 (lv_at hl 5 rfl) ?_
          refine lv_bipush (v := 16) hx hb dX9_item_60 (by decide) ?_
          refine lv_ishl hx hb dX9_item_62 ?_
          refine lv_bipush (v := 16) hx hb dX9_item_63 (by decide) ?_
          refine lv_ishr hx hb dX9_item_65 ?_
          refine lv_goto (tgt := 71) hx hb dX9_item_66 (by decide) ?_
          exact hb71  ((x4 <<< ((16 : Int32) &&& 31)) >>> ((16 : Int32) &&& 31)) (((36 : Int32) * x1) + x3) S h _ _ _ hI (lv_sub hl [] rfl)
      · replace h := gw_ifT c10 h
        refine lv_iload hx hb dX9_item_42 (lv_at hl 5 rfl) ?_
        refine lv_bipush (v := 24) hx hb dX9_item_44 (by decide) ?_
        refine lv_ishl hx hb dX9_item_46 ?_
        refine lv_bipush (v := 24) hx hb dX9_item_47 (by decide) ?_
        refine lv_ishr hx hb dX9_item_49 ?_
        refine lv_goto (tgt := 71) hx hb dX9_item_50 (by decide) ?_
        exact hb71  ((x4 <<< ((24 : Int32) &&& 31)) >>> ((24 : Int32) &&& 31)) (((36 : Int32) * x1) + x3) S h _ _ _ hI (lv_sub hl [] rfl)
    · replace h := gw_ifF c9 h
      refine lv_iload hx hb dX9_item_25 (lv_at hl 0 rfl) ?_
      obtain ⟨h1, h2⟩ := Prod.mk.inj (Option.some.inj h)
      rw [h2] at hI
      rw [← h1]
      exact gw_iret (W' := (fun w => w = gw_mw cc a zS)) B hI rfl (Nat.zero_le _) (Nat.zero_le _) dX9_item_27
  · replace h := gw_ifT c6 h
    refine lv_iconst (v := -1) hx hb dX9_item_8 (by decide) ?_
    obtain ⟨h1, h2⟩ := Prod.mk.inj (Option.some.inj h)
    rw [h2] at hI
    rw [← h1]
    exact gw_iret (W' := (fun w => w = gw_mw cc a zS)) B hI rfl (Nat.zero_le _) (Nat.zero_le _) dX9_item_9
theorem m_X9_books_143 : Cond.fieldLink RX9 143 "GownLetModel" "items" "[I" ∈ wsX9_books := by decide +kernel
theorem m_X9_books_257 : Cond.fieldLink RX9 257 "GownLetModel" "bookings" "I" ∈ wsX9_books := by decide +kernel
theorem ly_X9_books_9 : ∀ w ∈ wsX90, w ∈ wsX9_books := fun w h => List.mem_cons_of_mem _ (List.mem_append_right _ h)
set_option maxRecDepth 100000 in
set_option maxHeartbeats 4000000 in
theorem k_X9_books (x1 : Int32) (x2 : Int32) (x3 : Int32) (x4 : Int32) (S : gw_S) {zr : Int32} {zS : gw_S} (h : f_X9_books x1 x2 x3 x4 S = some (zr, zS)) : gw_M l yX9_books wsX9_books rm_X9_books 0 0 D (gw_ty cc) t1 t2 [.ref (a 0), .int x1, .int x2, .int x3, .int x4] (gw_mw cc a S) (fun w => w = gw_mw cc a zS) (some (.int zr)) := by
  refine gw_enter (cc := cX9_books) (maxL := 8) (ret := (some .int)) (own := RX9) rfl (by decide) rfl (Nat.le_of_ble_eq_true rfl) ?_
  intro p e s m below meth c A B hin hI ls hl
  have hl : lv_has ls 8 [(0, .ref (a 0)), (1, .int x1), (2, .int x2), (3, .int x3), (4, .int x4)] := hl
  generalize ([.ref (a 0), .int x1, .int x2, .int x3, .int x4] : List Value).toArray = args at B ⊢
  have hx := B.1.1
  have hb := B.1.2.1
  have hown : s.vm.findClass RX9 = some m.cls := B.1.2.2.2.1
  have hts := B.1.2.2.2.2
  have hb156 :  ∀ (n : Nat), ∀ (v4 : Int32) (v6 : Int32) (v7 : Int32) (S : gw_S), f_X9_books_b156  n v4 v6 v7 S = some (zr, zS) → ∀ (H : Heap) (locs : List Loc) (ls : Array Slot), gw_I D A s.heap (gw_mw cc a S) H locs → lv_has ls 8 [(0, .ref (a 0)), (4, .int v4), (6, .int v6), (7, .int v7)] → W p l e rm_X9_books s m args below meth c H locs 0 0 (MQ below (gw_Q (some (.int zr)) (gw_Pst D A (fun w => w = gw_mw cc a zS)) A) args s 0 0 A) (F0 m 156 ls []) := by
    intro n
    induction n with
    | zero =>
      intro v4 v6 v7 S h
      cases h
    | succ n ih =>
      intro v4 v6 v7 S h H locs ls hI hl
      unfold f_X9_books_b156 at h
      refine lv_iload hx hb dX9_books_156 (lv_at hl 3 rfl) ?_
      refine lv_iload hx hb dX9_books_158 (lv_at hl 2 rfl) ?_
      refine lv_bipush (v := 6) hx hb dX9_books_160 (by decide) ?_
      refine lv_iload hx hb dX9_books_162 (lv_at hl 1 rfl) ?_
      refine lv_imul hx hb dX9_books_164 ?_
      refine lv_iadd hx hb dX9_books_165 ?_
      refine lv_icmp_ge (tgt := 231) hx hb dX9_books_166 (by decide) (fun c1 => ?_) (fun c1 => ?_)
      · replace h := gw_ifT c1 h
        refine lv_aload_n hx hb dX9_books_231 rfl (lv_at hl 0 rfl) ?_
        refine gw_get (T := TX9) (k := 29) (v := .int (S 0 29)) B hI gm_g0 rfl ly_X9_books_9 (by decide) m_X9_books_257 rfl rfl dX9_books_232 ?_
        obtain ⟨h1, h2⟩ := Prod.mk.inj (Option.some.inj h)
        rw [h2] at hI
        rw [← h1]
        exact gw_iret (W' := (fun w => w = gw_mw cc a zS)) B hI rfl (Nat.zero_le _) (Nat.zero_le _) dX9_books_235
      · replace h := gw_ifF c1 h
        refine lv_aload_n hx hb dX9_books_169 rfl (lv_at hl 0 rfl) ?_
        refine lv_aload_n hx hb dX9_books_170 rfl (lv_at hl 0 rfl) ?_
        refine gw_get (T := TX9) (k := 50) (v := .ref (a 45)) B hI gm_g0 rfl ly_X9_books_9 (by decide) m_X9_books_143 rfl rfl dX9_books_171 ?_
        refine lv_iload hx hb dX9_books_174 (lv_at hl 3 rfl) ?_
        obtain ⟨g2, h⟩ := gw_gdE h
        refine gw_iald (t0 := 0) B hI gm_g45 rfl g2 dX9_books_176 ?_
        refine lv_aload_n hx hb dX9_books_177 rfl (lv_at hl 0 rfl) ?_
        refine gw_get (T := TX9) (k := 50) (v := .ref (a 45)) B hI gm_g0 rfl ly_X9_books_9 (by decide) m_X9_books_143 rfl rfl dX9_books_178 ?_
        refine lv_iload hx hb dX9_books_181 (lv_at hl 3 rfl) ?_
        refine lv_iconst (v := 1) hx hb dX9_books_183 (by decide) ?_
        refine lv_iadd hx hb dX9_books_184 ?_
        obtain ⟨g3, h⟩ := gw_gdE h
        refine gw_iald (t0 := 0) B hI gm_g45 rfl g3 dX9_books_185 ?_
        refine lv_aload_n hx hb dX9_books_186 rfl (lv_at hl 0 rfl) ?_
        refine gw_get (T := TX9) (k := 50) (v := .ref (a 45)) B hI gm_g0 rfl ly_X9_books_9 (by decide) m_X9_books_143 rfl rfl dX9_books_187 ?_
        refine lv_iload hx hb dX9_books_190 (lv_at hl 3 rfl) ?_
        refine lv_iconst (v := 2) hx hb dX9_books_192 (by decide) ?_
        refine lv_iadd hx hb dX9_books_193 ?_
        obtain ⟨g4, h⟩ := gw_gdE h
        refine gw_iald (t0 := 0) B hI gm_g45 rfl g4 dX9_books_194 ?_
        refine lv_aload_n hx hb dX9_books_195 rfl (lv_at hl 0 rfl) ?_
        refine gw_get (T := TX9) (k := 50) (v := .ref (a 45)) B hI gm_g0 rfl ly_X9_books_9 (by decide) m_X9_books_143 rfl rfl dX9_books_196 ?_
        refine lv_iload hx hb dX9_books_199 (lv_at hl 3 rfl) ?_
        refine lv_iconst (v := 3) hx hb dX9_books_201 (by decide) ?_
        refine lv_iadd hx hb dX9_books_202 ?_
        obtain ⟨g5, h⟩ := gw_gdE h
        refine gw_iald (t0 := 0) B hI gm_g45 rfl g5 dX9_books_203 ?_
        refine lv_aload_n hx hb dX9_books_204 rfl (lv_at hl 0 rfl) ?_
        refine gw_get (T := TX9) (k := 50) (v := .ref (a 45)) B hI gm_g0 rfl ly_X9_books_9 (by decide) m_X9_books_143 rfl rfl dX9_books_205 ?_
        refine lv_iload hx hb dX9_books_208 (lv_at hl 3 rfl) ?_
        refine lv_iconst (v := 4) hx hb dX9_books_210 (by decide) ?_
        refine lv_iadd hx hb dX9_books_211 ?_
        obtain ⟨g6, h⟩ := gw_gdE h
        refine gw_iald (t0 := 0) B hI gm_g45 rfl g6 dX9_books_212 ?_
        refine lv_aload_n hx hb dX9_books_213 rfl (lv_at hl 0 rfl) ?_
        refine gw_get (T := TX9) (k := 50) (v := .ref (a 45)) B hI gm_g0 rfl ly_X9_books_9 (by decide) m_X9_books_143 rfl rfl dX9_books_214 ?_
        refine lv_iload hx hb dX9_books_217 (lv_at hl 3 rfl) ?_
        refine lv_iconst (v := 5) hx hb dX9_books_219 (by decide) ?_
        refine lv_iadd hx hb dX9_books_220 ?_
        obtain ⟨g7, h⟩ := gw_gdE h
        refine gw_iald (t0 := 0) B hI gm_g45 rfl g7 dX9_books_221 ?_
        obtain ⟨S8, e9, h⟩ := gw_bdE h
        refine gw_callVv (As := [.int (S 45 v7.toNatClampNeg), .int (S 45 (v7 + (1 : Int32)).toNatClampNeg), .int (S 45 (v7 + (2 : Int32)).toNatClampNeg), .int (S 45 (v7 + (3 : Int32)).toNatClampNeg), .int (S 45 (v7 + (4 : Int32)).toNatClampNeg), .int (S 45 (v7 + (5 : Int32)).toNatClampNeg)]) (n := 6) B hI (k_X9_addBooking (S 45 v7.toNatClampNeg) (S 45 (v7 + (1 : Int32)).toNatClampNeg) (S 45 (v7 + (2 : Int32)).toNatClampNeg) (S 45 (v7 + (3 : Int32)).toNatClampNeg) (S 45 (v7 + (4 : Int32)).toNatClampNeg) (S 45 (v7 + (5 : Int32)).toNatClampNeg) S e9) gX9_books_X9_addBooking rfl rfl rfl nd_X9_addBooking ⟨Nat.le_of_ble_eq_true rfl, Nat.le_of_ble_eq_true rfl⟩ gm_g0 rfl rfl rfl hl.1 (Nat.zero_le _) dX9_books_222 ⟨Nat.le_of_ble_eq_true rfl, Nat.le_of_ble_eq_true rfl⟩ rfl (fun w' H locs hw hI => ?_)
        subst hw
        obtain ⟨y10, e11, h⟩ := gw_letE h
        refine lv_iinc (v := y10) (lv' := [(7, .int y10), (0, .ref (a 0)), (4, .int v4), (6, .int v6)]) hx hb dX9_books_225 hl (k := 3) rfl (by rw [e11]; rfl) (by decide) rfl (fun ls hl => ?_)
        refine lv_goto (tgt := 156) hx hb dX9_books_228 (by decide) ?_
        exact ih v4 v6 y10 S8 h _ _ _ hI (lv_sub hl [1, 2, 3, 0] rfl)
  have hb57 :  ∀ (n : Nat), ∀ (v4 : Int32) (v6 : Int32) (v7 : Int32) (S : gw_S), f_X9_books_b57  n v4 v6 v7 S = some (zr, zS) → ∀ (H : Heap) (locs : List Loc) (ls : Array Slot), gw_I D A s.heap (gw_mw cc a S) H locs → lv_has ls 8 [(0, .ref (a 0)), (4, .int v4), (6, .int v6), (7, .int v7)] → W p l e rm_X9_books s m args below meth c H locs 0 0 (MQ below (gw_Q (some (.int zr)) (gw_Pst D A (fun w => w = gw_mw cc a zS)) A) args s 0 0 A) (F0 m 57 ls []) := by
    intro n
    induction n with
    | zero =>
      intro v4 v6 v7 S h
      cases h
    | succ n ih =>
      intro v4 v6 v7 S h H locs ls hI hl
      unfold f_X9_books_b57 at h
      refine lv_iload hx hb dX9_books_57 (lv_at hl 3 rfl) ?_
      refine lv_iload hx hb dX9_books_59 (lv_at hl 2 rfl) ?_
      refine lv_bipush (v := 6) hx hb dX9_books_61 (by decide) ?_
      refine lv_iload hx hb dX9_books_63 (lv_at hl 1 rfl) ?_
      refine lv_imul hx hb dX9_books_65 ?_
      refine lv_iadd hx hb dX9_books_66 ?_
      refine lv_icmp_ge (tgt := 137) hx hb dX9_books_67 (by decide) (fun c12 => ?_) (fun c12 => ?_)
      · replace h := gw_ifT c12 h
        refine lv_aload_n hx hb dX9_books_137 rfl (lv_at hl 0 rfl) ?_
        refine gw_get (T := TX9) (k := 29) (v := .int (S 0 29)) B hI gm_g0 rfl ly_X9_books_9 (by decide) m_X9_books_257 rfl rfl dX9_books_138 ?_
        refine lv_iload hx hb dX9_books_141 (lv_at hl 1 rfl) ?_
        refine lv_iadd hx hb dX9_books_143 ?_
        refine lv_bipush (v := 30) hx hb dX9_books_144 (by decide) ?_
        refine lv_icmp_le (tgt := 152) hx hb dX9_books_146 (by decide) (fun c13 => ?_) (fun c13 => ?_)
        · replace h := gw_ifT c13 h
          refine lv_iload hx hb dX9_books_152 (lv_at hl 2 rfl) ?_
          refine lv_istore (lv' := [(7, .int v6), (0, .ref (a 0)), (4, .int v4), (6, .int v6)]) hx hb dX9_books_154 hl (by decide) rfl (fun ls hl => ?_)
          exact hb156  gw_F v4 v6 v6 S h _ _ _ hI (lv_sub hl [1, 2, 3, 0] rfl)
        · replace h := gw_ifF c13 h
          refine lv_bipush (v := -3) hx hb dX9_books_149 (by decide) ?_
          obtain ⟨h1, h2⟩ := Prod.mk.inj (Option.some.inj h)
          rw [h2] at hI
          rw [← h1]
          exact gw_iret (W' := (fun w => w = gw_mw cc a zS)) B hI rfl (Nat.zero_le _) (Nat.zero_le _) dX9_books_151
      · replace h := gw_ifF c12 h
        refine lv_aload_n hx hb dX9_books_70 rfl (lv_at hl 0 rfl) ?_
        refine gw_get (T := TX9) (k := 50) (v := .ref (a 45)) B hI gm_g0 rfl ly_X9_books_9 (by decide) m_X9_books_143 rfl rfl dX9_books_71 ?_
        refine lv_iload hx hb dX9_books_74 (lv_at hl 3 rfl) ?_
        obtain ⟨g14, h⟩ := gw_gdE h
        refine gw_iald (t0 := 0) B hI gm_g45 rfl g14 dX9_books_76 ?_
        refine lv_aload_n hx hb dX9_books_77 rfl (lv_at hl 0 rfl) ?_
        refine gw_get (T := TX9) (k := 50) (v := .ref (a 45)) B hI gm_g0 rfl ly_X9_books_9 (by decide) m_X9_books_143 rfl rfl dX9_books_78 ?_
        refine lv_iload hx hb dX9_books_81 (lv_at hl 3 rfl) ?_
        refine lv_iconst (v := 1) hx hb dX9_books_83 (by decide) ?_
        refine lv_iadd hx hb dX9_books_84 ?_
        obtain ⟨g15, h⟩ := gw_gdE h
        refine gw_iald (t0 := 0) B hI gm_g45 rfl g15 dX9_books_85 ?_
        refine lv_aload_n hx hb dX9_books_86 rfl (lv_at hl 0 rfl) ?_
        refine gw_get (T := TX9) (k := 50) (v := .ref (a 45)) B hI gm_g0 rfl ly_X9_books_9 (by decide) m_X9_books_143 rfl rfl dX9_books_87 ?_
        refine lv_iload hx hb dX9_books_90 (lv_at hl 3 rfl) ?_
        refine lv_iconst (v := 2) hx hb dX9_books_92 (by decide) ?_
        refine lv_iadd hx hb dX9_books_93 ?_
        obtain ⟨g16, h⟩ := gw_gdE h
        refine gw_iald (t0 := 0) B hI gm_g45 rfl g16 dX9_books_94 ?_
        refine lv_aload_n hx hb dX9_books_95 rfl (lv_at hl 0 rfl) ?_
        refine gw_get (T := TX9) (k := 50) (v := .ref (a 45)) B hI gm_g0 rfl ly_X9_books_9 (by decide) m_X9_books_143 rfl rfl dX9_books_96 ?_
        refine lv_iload hx hb dX9_books_99 (lv_at hl 3 rfl) ?_
        refine lv_iconst (v := 3) hx hb dX9_books_101 (by decide) ?_
        refine lv_iadd hx hb dX9_books_102 ?_
        obtain ⟨g17, h⟩ := gw_gdE h
        refine gw_iald (t0 := 0) B hI gm_g45 rfl g17 dX9_books_103 ?_
        refine lv_aload_n hx hb dX9_books_104 rfl (lv_at hl 0 rfl) ?_
        refine gw_get (T := TX9) (k := 50) (v := .ref (a 45)) B hI gm_g0 rfl ly_X9_books_9 (by decide) m_X9_books_143 rfl rfl dX9_books_105 ?_
        refine lv_iload hx hb dX9_books_108 (lv_at hl 3 rfl) ?_
        refine lv_iconst (v := 4) hx hb dX9_books_110 (by decide) ?_
        refine lv_iadd hx hb dX9_books_111 ?_
        obtain ⟨g18, h⟩ := gw_gdE h
        refine gw_iald (t0 := 0) B hI gm_g45 rfl g18 dX9_books_112 ?_
        refine lv_aload_n hx hb dX9_books_113 rfl (lv_at hl 0 rfl) ?_
        refine gw_get (T := TX9) (k := 50) (v := .ref (a 45)) B hI gm_g0 rfl ly_X9_books_9 (by decide) m_X9_books_143 rfl rfl dX9_books_114 ?_
        refine lv_iload hx hb dX9_books_117 (lv_at hl 3 rfl) ?_
        refine lv_iconst (v := 5) hx hb dX9_books_119 (by decide) ?_
        refine lv_iadd hx hb dX9_books_120 ?_
        obtain ⟨g19, h⟩ := gw_gdE h
        refine gw_iald (t0 := 0) B hI gm_g45 rfl g19 dX9_books_121 ?_
        obtain ⟨r20, e21, h⟩ := gw_bdE h
        refine gw_callS (As := [.int (S 45 v7.toNatClampNeg), .int (S 45 (v7 + (1 : Int32)).toNatClampNeg), .int (S 45 (v7 + (2 : Int32)).toNatClampNeg), .int (S 45 (v7 + (3 : Int32)).toNatClampNeg), .int (S 45 (v7 + (4 : Int32)).toNatClampNeg), .int (S 45 (v7 + (5 : Int32)).toNatClampNeg)]) (n := 6) B hI (k_X9_isBooking (S 45 v7.toNatClampNeg) (S 45 (v7 + (1 : Int32)).toNatClampNeg) (S 45 (v7 + (2 : Int32)).toNatClampNeg) (S 45 (v7 + (3 : Int32)).toNatClampNeg) (S 45 (v7 + (4 : Int32)).toNatClampNeg) (S 45 (v7 + (5 : Int32)).toNatClampNeg) S e21) gX9_books_X9_isBooking rfl rfl rfl nds_X9_isBooking ⟨Nat.le_of_ble_eq_true rfl, Nat.le_of_ble_eq_true rfl⟩ rfl hl.1 (Nat.zero_le _) dX9_books_122 ⟨Nat.le_of_ble_eq_true rfl, Nat.le_of_ble_eq_true rfl⟩ rfl (fun w' H locs hw hI => ?_)
        subst hw
        refine lv_if_ne (tgt := 131) hx hb dX9_books_125 (by decide) (fun c22 => ?_) (fun c22 => ?_)
        · replace h := gw_ifF c22 h
          obtain ⟨y23, e24, h⟩ := gw_letE h
          refine lv_iinc (v := y23) (lv' := [(7, .int y23), (0, .ref (a 0)), (4, .int v4), (6, .int v6)]) hx hb dX9_books_131 hl (k := 3) rfl (by rw [e24]; rfl) (by decide) rfl (fun ls hl => ?_)
          refine lv_goto (tgt := 57) hx hb dX9_books_134 (by decide) ?_
          exact ih v4 v6 y23 S h _ _ _ hI (lv_sub hl [1, 2, 3, 0] rfl)
        · replace h := gw_ifT c22 h
          refine lv_bipush (v := -2) hx hb dX9_books_128 (by decide) ?_
          obtain ⟨h1, h2⟩ := Prod.mk.inj (Option.some.inj h)
          rw [h2] at hI
          rw [← h1]
          exact gw_iret (W' := (fun w => w = gw_mw cc a zS)) B hI rfl (Nat.zero_le _) (Nat.zero_le _) dX9_books_130
  unfold f_X9_books at h
  refine lv_iload_n hx hb dX9_books_0 rfl (lv_at hl 1 rfl) ?_
  refine lv_iload_n hx hb dX9_books_1 rfl (lv_at hl 2 rfl) ?_
  obtain ⟨r25, e26, h⟩ := gw_bdE h
  refine gw_callS (As := [.int x1, .int x2]) (n := 2) B hI (k_X9_isSheet x1 x2 S e26) gX9_books_X9_isSheet rfl rfl rfl nds_X9_isSheet ⟨Nat.le_of_ble_eq_true rfl, Nat.le_of_ble_eq_true rfl⟩ rfl hl.1 (Nat.zero_le _) dX9_books_2 ⟨Nat.le_of_ble_eq_true rfl, Nat.le_of_ble_eq_true rfl⟩ rfl (fun w' H locs hw hI => ?_)
  subst hw
  refine lv_if_eq (tgt := 21) hx hb dX9_books_5 (by decide) (fun c27 => ?_) (fun c27 => ?_)
  · replace h := gw_ifT c27 h
    refine lv_iconst (v := -1) hx hb dX9_books_21 (by decide) ?_
    obtain ⟨h1, h2⟩ := Prod.mk.inj (Option.some.inj h)
    rw [h2] at hI
    rw [← h1]
    exact gw_iret (W' := (fun w => w = gw_mw cc a zS)) B hI rfl (Nat.zero_le _) (Nat.zero_le _) dX9_books_22
  · replace h := gw_ifF c27 h
    refine lv_iload hx hb dX9_books_8 (lv_at hl 4 rfl) ?_
    refine lv_i2l hx hb dX9_books_10 rfl ?_
    refine lv_lconst (v := 0) hx hb dX9_books_11 (by decide) ?_
    refine lv_ldc2 (v := 6) hx hb hown (hts (.constantLong RX9 338 (6)) (by decide +kernel)) dX9_books_12 ?_
    obtain ⟨r28, e29, h⟩ := gw_bdE h
    refine gw_callS (As := [.long (x4.toInt64), .long (0 : Int64), .long (6 : Int64)]) (n := 3) B hI (k_X9_in (x4.toInt64) (0 : Int64) (6 : Int64) S e29) gX9_books_X9_in rfl rfl rfl nds_X9_in ⟨Nat.le_of_ble_eq_true rfl, Nat.le_of_ble_eq_true rfl⟩ rfl hl.1 (Nat.zero_le _) dX9_books_15 ⟨Nat.le_of_ble_eq_true rfl, Nat.le_of_ble_eq_true rfl⟩ rfl (fun w' H locs hw hI => ?_)
    subst hw
    refine lv_if_ne (tgt := 23) hx hb dX9_books_18 (by decide) (fun c30 => ?_) (fun c30 => ?_)
    · replace h := gw_ifF c30 h
      refine lv_aload_n hx hb dX9_books_23 rfl (lv_at hl 0 rfl) ?_
      refine lv_iload_n hx hb dX9_books_24 rfl (lv_at hl 1 rfl) ?_
      refine lv_iload_n hx hb dX9_books_25 rfl (lv_at hl 2 rfl) ?_
      refine lv_iload_n hx hb dX9_books_26 rfl (lv_at hl 3 rfl) ?_
      refine lv_bipush (v := 6) hx hb dX9_books_27 (by decide) ?_
      refine lv_iload hx hb dX9_books_29 (lv_at hl 4 rfl) ?_
      refine lv_imul hx hb dX9_books_31 ?_
      obtain ⟨r31, e32, h⟩ := gw_bdE h
      refine gw_callV (As := [.int x1, .int x2, .int x3, .int ((6 : Int32) * x4)]) (n := 4) B hI (k_X9_against x1 x2 x3 ((6 : Int32) * x4) S e32) gX9_books_X9_against rfl rfl rfl nd_X9_against ⟨Nat.le_of_ble_eq_true rfl, Nat.le_of_ble_eq_true rfl⟩ gm_g0 rfl rfl rfl hl.1 (Nat.zero_le _) dX9_books_32 ⟨Nat.le_of_ble_eq_true rfl, Nat.le_of_ble_eq_true rfl⟩ rfl (fun w' H locs hw hI => ?_)
      subst hw
      refine lv_istore (lv' := [(5, .int r31), (0, .ref (a 0)), (1, .int x1), (2, .int x2), (3, .int x3), (4, .int x4)]) hx hb dX9_books_35 hl (by decide) rfl (fun ls hl => ?_)
      refine lv_iload hx hb dX9_books_37 (lv_at hl 0 rfl) ?_
      refine lv_if_ge (tgt := 45) hx hb dX9_books_39 (by decide) (fun c33 => ?_) (fun c33 => ?_)
      · replace h := gw_ifT c33 h
        refine lv_bipush (v := 36) hx hb dX9_books_45 (by decide) ?_
        refine lv_iload_n hx hb dX9_books_47 rfl (lv_at hl 2 rfl) ?_
        refine lv_imul hx hb dX9_books_48 ?_
        refine lv_iload_n hx hb dX9_books_49 rfl (lv_at hl 4 rfl) ?_
        refine lv_iadd hx hb dX9_books_50 ?_
        obtain ⟨y34, e35, h⟩ := gw_letE h
        rw [← e35]
        refine lv_istore (lv' := [(6, .int y34), (5, .int r31), (0, .ref (a 0)), (1, .int x1), (2, .int x2), (3, .int x3), (4, .int x4)]) hx hb dX9_books_51 hl (by decide) rfl (fun ls hl => ?_)
        refine lv_iload hx hb dX9_books_53 (lv_at hl 0 rfl) ?_
        refine lv_istore (lv' := [(7, .int y34), (6, .int y34), (5, .int r31), (0, .ref (a 0)), (1, .int x1), (2, .int x2), (3, .int x3), (4, .int x4)]) hx hb dX9_books_55 hl (by decide) rfl (fun ls hl => ?_)
        exact hb57  gw_F x4 y34 y34 S h _ _ _ hI (lv_sub hl [3, 7, 1, 0] rfl)
      · replace h := gw_ifF c33 h
        refine lv_iload hx hb dX9_books_42 (lv_at hl 0 rfl) ?_
        obtain ⟨h1, h2⟩ := Prod.mk.inj (Option.some.inj h)
        rw [h2] at hI
        rw [← h1]
        exact gw_iret (W' := (fun w => w = gw_mw cc a zS)) B hI rfl (Nat.zero_le _) (Nat.zero_le _) dX9_books_44
    · replace h := gw_ifT c30 h
      refine lv_iconst (v := -1) hx hb dX9_books_21 (by decide) ?_
      obtain ⟨h1, h2⟩ := Prod.mk.inj (Option.some.inj h)
      rw [h2] at hI
      rw [← h1]
      exact gw_iret (W' := (fun w => w = gw_mw cc a zS)) B hI rfl (Nat.zero_le _) (Nat.zero_le _) dX9_books_22
set_option maxRecDepth 100000 in
set_option maxHeartbeats 4000000 in
theorem k_X3_spanOf_l (x1 : Int32) (x2 : Int32) (S : gw_S) {zr : Int32} (h : f_X3_spanOf_l x1 x2 S = some zr) : gw_M l yX3_spanOf wsX3_spanOf rm_X3_spanOf_l 0 0 D (gw_ty cc) t1 t2 [.ref (a 7), .int x1, .int x2] (gw_lw cc a S) (fun w => w = gw_lw cc a S) (some (.int zr)) := by
  refine gw_enter (cc := cX3_spanOf) (maxL := 4) (ret := (some .int)) (own := RX3) rfl (by decide) rfl (Nat.le_of_ble_eq_true rfl) ?_
  intro p e s m below meth c A B hin hI ls hl
  have hl : lv_has ls 4 [(0, .ref (a 7)), (1, .int x1), (2, .int x2)] := hl
  generalize ([.ref (a 7), .int x1, .int x2] : List Value).toArray = args at B ⊢
  have hx := B.1.1
  have hb := B.1.2.1
  have hown : s.vm.findClass RX3 = some m.cls := B.1.2.2.2.1
  have hts := B.1.2.2.2.2
  unfold f_X3_spanOf_l at h
  refine lv_iload_n hx hb dX3_spanOf_0 rfl (lv_at hl 1 rfl) ?_
  refine lv_bipush (v := 6) hx hb dX3_spanOf_1 (by decide) ?_
  refine lv_imul hx hb dX3_spanOf_3 ?_
  refine lv_iload_n hx hb dX3_spanOf_4 rfl (lv_at hl 2 rfl) ?_
  refine lv_iadd hx hb dX3_spanOf_5 ?_
  obtain ⟨y1, e2, h⟩ := gw_letE h
  rw [← e2]
  refine lv_istore_n (lv' := [(3, .int y1), (0, .ref (a 7)), (1, .int x1), (2, .int x2)]) hx hb dX3_spanOf_6 rfl hl (by decide) rfl (fun ls hl => ?_)
  refine lv_iload_n hx hb dX3_spanOf_7 rfl (lv_at hl 0 rfl) ?_
  refine lv_if_lt (tgt := 29) hx hb dX3_spanOf_8 (by decide) (fun c3 => ?_) (fun c3 => ?_)
  · replace h := gw_ifT c3 h
    refine lv_iconst (v := 0) hx hb dX3_spanOf_29 (by decide) ?_
    rw [← Option.some.inj h]
    exact gw_iret (W' := (fun w => w = gw_lw cc a S)) B hI rfl (Nat.zero_le _) (Nat.zero_le _) dX3_spanOf_30
  · replace h := gw_ifF c3 h
    refine lv_iload_n hx hb dX3_spanOf_11 rfl (lv_at hl 0 rfl) ?_
    refine lv_aload_n hx hb dX3_spanOf_12 rfl (lv_at hl 1 rfl) ?_
    refine gw_get (T := TX3) (k := 0) (v := .ref (a 8)) B hI gl_g7 rfl ly_X3_spanOf_3 (by decide) m_X3_spanOf_9 rfl rfl dX3_spanOf_13 ?_
    refine gw_alen (t0 := 0) (v := 36) B hI gl_g8 rfl (by decide) dX3_spanOf_16 ?_
    refine lv_icmp_ge (tgt := 29) hx hb dX3_spanOf_17 (by decide) (fun c4 => ?_) (fun c4 => ?_)
    · replace h := gw_ifT c4 h
      refine lv_iconst (v := 0) hx hb dX3_spanOf_29 (by decide) ?_
      rw [← Option.some.inj h]
      exact gw_iret (W' := (fun w => w = gw_lw cc a S)) B hI rfl (Nat.zero_le _) (Nat.zero_le _) dX3_spanOf_30
    · replace h := gw_ifF c4 h
      refine lv_aload_n hx hb dX3_spanOf_20 rfl (lv_at hl 1 rfl) ?_
      refine gw_get (T := TX3) (k := 0) (v := .ref (a 8)) B hI gl_g7 rfl ly_X3_spanOf_3 (by decide) m_X3_spanOf_9 rfl rfl dX3_spanOf_21 ?_
      refine lv_iload_n hx hb dX3_spanOf_24 rfl (lv_at hl 0 rfl) ?_
      obtain ⟨g5, h⟩ := gw_gdE h
      refine gw_iald (t0 := 0) B hI gl_g8 rfl g5 dX3_spanOf_25 ?_
      refine lv_goto (tgt := 30) hx hb dX3_spanOf_26 (by decide) ?_
      rw [← Option.some.inj h]
      exact gw_iret (W' := (fun w => w = gw_lw cc a S)) B hI rfl (Nat.zero_le _) (Nat.zero_le _) dX3_spanOf_30
set_option maxRecDepth 100000 in
set_option maxHeartbeats 4000000 in
theorem k_X3_readEnds_l  (S : gw_S)  {zS : gw_S} (h : f_X3_readEnds_l  S = some zS) : gw_M l yX3_readEnds wsX3_readEnds rm_X3_readEnds_l 0 0 D (gw_ty cc) t1 t2 [.ref (a 7)] (gw_lw cc a S) (fun w => w = gw_lw cc a zS) none := by
  refine gw_enter (cc := cX3_readEnds) (maxL := 2) (ret := none) (own := RX3) rfl (by decide) rfl (Nat.le_of_ble_eq_true rfl) ?_
  intro p e s m below meth c A B hin hI ls hl
  have hl : lv_has ls 2 [(0, .ref (a 7))] := hl
  generalize ([.ref (a 7)] : List Value).toArray = args at B ⊢
  have hx := B.1.1
  have hb := B.1.2.1
  have hown : s.vm.findClass RX3 = some m.cls := B.1.2.2.2.1
  have hts := B.1.2.2.2.2
  have hb56 : ∀ (K2 : Int32 → gw_S → Option (gw_S)) (_ : ∀ (v1 : Int32) (S : gw_S), K2 v1 S = some zS → ∀ (H : Heap) (locs : List Loc) (ls : Array Slot), gw_I D A s.heap (gw_lw cc a S) H locs → lv_has ls 2 [(0, .ref (a 7)), (1, .int v1)] → W p l e rm_X3_readEnds_l s m args below meth c H locs 0 0 (MQ below (gw_Q none (gw_Pst D A (fun w => w = gw_lw cc a zS)) A) args s 0 0 A) (F0 m 2 ls [])), ∀ (v1 : Int32) (t0_ : Int32) (t1_ : Int32) (S : gw_S), f_X3_readEnds_l_b56 K2 v1 t0_ t1_ S = some zS → ∀ (H : Heap) (locs : List Loc) (ls : Array Slot), gw_I D A s.heap (gw_lw cc a S) H locs → lv_has ls 2 [(0, .ref (a 7)), (1, .int v1)] → W p l e rm_X3_readEnds_l s m args below meth c H locs 0 0 (MQ below (gw_Q none (gw_Pst D A (fun w => w = gw_lw cc a zS)) A) args s 0 0 A) (F0 m 56 ls [.int t0_, .int t1_, .ref (a 10)]) := by
    intro K2 hK2
    intro v1 t0_ t1_ S h H locs ls hI hl
    unfold f_X3_readEnds_l_b56 at h
    obtain ⟨g1, h⟩ := gw_gdE h
    obtain ⟨S2, e3, h⟩ := gw_letE h
    refine gw_iast (t0 := 0) (w' := gw_lw cc a S2) B hI gl_g10 rfl g1 (gl_s10 e3) dX3_readEnds_56 (fun H locs hI => ?_)
    obtain ⟨y4, e5, h⟩ := gw_letE h
    refine lv_iinc (v := y4) (lv' := [(1, .int y4), (0, .ref (a 7))]) hx hb dX3_readEnds_57 hl (k := 1) rfl (by rw [e5]; rfl) (by decide) rfl (fun ls hl => ?_)
    refine lv_goto (tgt := 2) hx hb dX3_readEnds_60 (by decide) ?_
    exact hK2 y4 S2 h _ _ _ hI (lv_sub hl [1, 0] rfl)
  have hb32 : ∀ (K2 : Int32 → gw_S → Option (gw_S)) (_ : ∀ (v1 : Int32) (S : gw_S), K2 v1 S = some zS → ∀ (H : Heap) (locs : List Loc) (ls : Array Slot), gw_I D A s.heap (gw_lw cc a S) H locs → lv_has ls 2 [(0, .ref (a 7)), (1, .int v1)] → W p l e rm_X3_readEnds_l s m args below meth c H locs 0 0 (MQ below (gw_Q none (gw_Pst D A (fun w => w = gw_lw cc a zS)) A) args s 0 0 A) (F0 m 2 ls [])), ∀ (v1 : Int32) (t0_ : Int32) (t1_ : Int32) (S : gw_S), f_X3_readEnds_l_b32 K2 v1 t0_ t1_ S = some zS → ∀ (H : Heap) (locs : List Loc) (ls : Array Slot), gw_I D A s.heap (gw_lw cc a S) H locs → lv_has ls 2 [(0, .ref (a 7)), (1, .int v1)] → W p l e rm_X3_readEnds_l s m args below meth c H locs 0 0 (MQ below (gw_Q none (gw_Pst D A (fun w => w = gw_lw cc a zS)) A) args s 0 0 A) (F0 m 32 ls [.int t0_, .int t1_, .ref (a 9)]) := by
    intro K2 hK2
    intro v1 t0_ t1_ S h H locs ls hI hl
    unfold f_X3_readEnds_l_b32 at h
    obtain ⟨g6, h⟩ := gw_gdE h
    obtain ⟨S7, e8, h⟩ := gw_letE h
    refine gw_iast (t0 := 0) (w' := gw_lw cc a S7) B hI gl_g9 rfl g6 (gl_s9 e8) dX3_readEnds_32 (fun H locs hI => ?_)
    refine lv_aload_n hx hb dX3_readEnds_33 rfl (lv_at hl 0 rfl) ?_
    refine gw_get (T := TX3) (k := 2) (v := .ref (a 10)) B hI gl_g7 rfl ly_X3_readEnds_3 (by decide) m_X3_readEnds_16 rfl rfl dX3_readEnds_34 ?_
    refine lv_iload_n hx hb dX3_readEnds_37 rfl (lv_at hl 1 rfl) ?_
    refine lv_aload_n hx hb dX3_readEnds_38 rfl (lv_at hl 0 rfl) ?_
    refine gw_get (T := TX3) (k := 4) (v := .int (S7 7 4)) B hI gl_g7 rfl ly_X3_readEnds_3 (by decide) m_X3_readEnds_26 rfl rfl dX3_readEnds_39 ?_
    refine lv_if_eq (tgt := 50) hx hb dX3_readEnds_42 (by decide) (fun c9 => ?_) (fun c9 => ?_)
    · replace h := gw_ifT c9 h
      refine lv_aload_n hx hb dX3_readEnds_50 rfl (lv_at hl 0 rfl) ?_
      refine lv_iconst (v := 0) hx hb dX3_readEnds_51 (by decide) ?_
      refine lv_iload_n hx hb dX3_readEnds_52 rfl (lv_at hl 1 rfl) ?_
      obtain ⟨r10, e11, h⟩ := gw_bdE h
      refine gw_callV (As := [.int (0 : Int32), .int v1]) (n := 2) B hI (k_X3_spanOf_l (0 : Int32) v1 S7 e11) gX3_readEnds_X3_spanOf rfl rfl rfl nd_X3_spanOf ⟨Nat.le_of_ble_eq_true rfl, Nat.le_of_ble_eq_true rfl⟩ gl_g7 rfl rfl rfl hl.1 (by simp [gw_catq, gw_cI, gw_cR, gw_cL]) dX3_readEnds_53 ⟨Nat.le_of_ble_eq_true rfl, Nat.le_of_ble_eq_true rfl⟩ rfl (fun w' H locs hw hI => ?_)
      subst hw
      exact hb56 K2 hK2 v1 r10 v1 S7 h _ _ _ hI (lv_sub hl [0, 1] rfl)
    · replace h := gw_ifF c9 h
      refine lv_bipush (v := 9) hx hb dX3_readEnds_45 (by decide) ?_
      refine lv_goto (tgt := 56) hx hb dX3_readEnds_47 (by decide) ?_
      exact hb56 K2 hK2 v1 (9 : Int32) v1 S7 h _ _ _ hI (lv_sub hl [0, 1] rfl)
  have hb2 :  ∀ (n : Nat), ∀ (v1 : Int32) (S : gw_S), f_X3_readEnds_l_b2  n v1 S = some zS → ∀ (H : Heap) (locs : List Loc) (ls : Array Slot), gw_I D A s.heap (gw_lw cc a S) H locs → lv_has ls 2 [(0, .ref (a 7)), (1, .int v1)] → W p l e rm_X3_readEnds_l s m args below meth c H locs 0 0 (MQ below (gw_Q none (gw_Pst D A (fun w => w = gw_lw cc a zS)) A) args s 0 0 A) (F0 m 2 ls []) := by
    intro n
    induction n with
    | zero =>
      intro v1 S h
      cases h
    | succ n ih =>
      intro v1 S h H locs ls hI hl
      unfold f_X3_readEnds_l_b2 at h
      refine lv_iload_n hx hb dX3_readEnds_2 rfl (lv_at hl 1 rfl) ?_
      refine lv_bipush (v := 6) hx hb dX3_readEnds_3 (by decide) ?_
      refine lv_icmp_ge (tgt := 63) hx hb dX3_readEnds_5 (by decide) (fun c12 => ?_) (fun c12 => ?_)
      · replace h := gw_ifT c12 h
        rw [Option.some.inj h] at hI
        exact gw_vret (W' := (fun w => w = gw_lw cc a zS)) B hI rfl (Nat.zero_le _) (Nat.zero_le _) dX3_readEnds_63
      · replace h := gw_ifF c12 h
        refine lv_aload_n hx hb dX3_readEnds_8 rfl (lv_at hl 0 rfl) ?_
        refine gw_get (T := TX3) (k := 1) (v := .ref (a 9)) B hI gl_g7 rfl ly_X3_readEnds_3 (by decide) m_X3_readEnds_13 rfl rfl dX3_readEnds_9 ?_
        refine lv_iload_n hx hb dX3_readEnds_12 rfl (lv_at hl 1 rfl) ?_
        refine lv_aload_n hx hb dX3_readEnds_13 rfl (lv_at hl 0 rfl) ?_
        refine gw_get (T := TX3) (k := 4) (v := .int (S 7 4)) B hI gl_g7 rfl ly_X3_readEnds_3 (by decide) m_X3_readEnds_26 rfl rfl dX3_readEnds_14 ?_
        refine lv_if_eq (tgt := 25) hx hb dX3_readEnds_17 (by decide) (fun c13 => ?_) (fun c13 => ?_)
        · replace h := gw_ifT c13 h
          refine lv_aload_n hx hb dX3_readEnds_25 rfl (lv_at hl 0 rfl) ?_
          refine lv_iload_n hx hb dX3_readEnds_26 rfl (lv_at hl 1 rfl) ?_
          refine lv_iconst (v := 0) hx hb dX3_readEnds_27 (by decide) ?_
          obtain ⟨r14, e15, h⟩ := gw_bdE h
          refine gw_callV (As := [.int v1, .int (0 : Int32)]) (n := 2) B hI (k_X3_spanOf_l v1 (0 : Int32) S e15) gX3_readEnds_X3_spanOf rfl rfl rfl nd_X3_spanOf ⟨Nat.le_of_ble_eq_true rfl, Nat.le_of_ble_eq_true rfl⟩ gl_g7 rfl rfl rfl hl.1 (by simp [gw_catq, gw_cI, gw_cR, gw_cL]) dX3_readEnds_28 ⟨Nat.le_of_ble_eq_true rfl, Nat.le_of_ble_eq_true rfl⟩ rfl (fun w' H locs hw hI => ?_)
          subst hw
          refine lv_ineg hx hb dX3_readEnds_31 ?_
          exact hb32 (f_X3_readEnds_l_b2  n) ih v1 (-r14) v1 S h _ _ _ hI (lv_sub hl [0, 1] rfl)
        · replace h := gw_ifF c13 h
          refine lv_bipush (v := -9) hx hb dX3_readEnds_20 (by decide) ?_
          refine lv_goto (tgt := 32) hx hb dX3_readEnds_22 (by decide) ?_
          exact hb32 (f_X3_readEnds_l_b2  n) ih v1 (-9 : Int32) v1 S h _ _ _ hI (lv_sub hl [0, 1] rfl)
  unfold f_X3_readEnds_l at h
  refine lv_iconst (v := 1) hx hb dX3_readEnds_0 (by decide) ?_
  refine lv_istore_n (lv' := [(1, .int (1 : Int32)), (0, .ref (a 7))]) hx hb dX3_readEnds_1 rfl hl (by decide) rfl (fun ls hl => ?_)
  exact hb2  gw_F (1 : Int32) S h _ _ _ hI (lv_sub hl [1, 0] rfl)
end
end
