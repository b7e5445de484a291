/-! contracts: printed by wip/gen -/
section
variable {l : Launch} {D : va_G} {t1 t2 : Nat} {cc : Nat → ClassId} {a b d : Nat → Nat}
theorem m_X9_isTakenBy_131 : Cond.fieldLink RX9 131 "GownLetModel" "taken" "[I" ∈ wsX9_isTakenBy := by decide +kernel
theorem ly_X9_isTakenBy_9 : ∀ w ∈ wsX90, w ∈ wsX9_isTakenBy := fun w h => List.mem_cons_of_mem _ (List.mem_append_right _ h)
set_option maxRecDepth 100000 in
set_option maxHeartbeats 4000000 in
theorem k_X9_isTakenBy (x1 : Int32) (x2 : Int32) (S : gw_S) {zr : Int32} (h : f_X9_isTakenBy x1 x2 S = some zr) : gw_M l yX9_isTakenBy wsX9_isTakenBy rm_X9_isTakenBy 0 0 D (gw_ty cc) t1 t2 [.ref (a 0), .int x1, .int x2] (gw_mw cc a S) (fun w => w = gw_mw cc a S) (some (.int zr)) := by
  refine gw_enter (cc := cX9_isTakenBy) (maxL := 5) (ret := (some .boolean)) (own := RX9) rfl (by decide) rfl (Nat.le_of_ble_eq_true rfl) ?_
  intro p e s m below meth c A B hin hI ls hl
  have hl : lv_has ls 5 [(0, .ref (a 0)), (1, .int x1), (2, .int x2)] := hl
  generalize ([.ref (a 0), .int x1, .int x2] : List Value).toArray = args at B ⊢
  have hx := B.1.1
  have hb := B.1.2.1
  have hown : s.vm.findClass RX9 = some m.cls := B.1.2.2.2.1
  have hts := B.1.2.2.2.2
  have hb31 : ∀ (K5 : Int32 → Int32 → Int32 → Int32 → Option (Int32)) (_ : ∀ (v1 : Int32) (v2 : Int32) (v3 : Int32) (v4 : Int32), K5 v1 v2 v3 v4 = some zr → ∀ (H : Heap) (locs : List Loc) (ls : Array Slot), gw_I D A s.heap (gw_mw cc a S) H locs → lv_has ls 5 [(0, .ref (a 0)), (1, .int v1), (2, .int v2), (3, .int v3), (4, .int v4)] → W p l e rm_X9_isTakenBy s m args below meth c H locs 0 0 (MQ below (gw_Q (some (.int zr)) (gw_Pst D A (fun w => w = gw_mw cc a S)) A) args s 0 0 A) (F0 m 5 ls [])), ∀ (v1 : Int32) (v2 : Int32) (v4 : Int32) (t0_ : Int32), f_X9_isTakenBy_b31 S K5 v1 v2 v4 t0_ = some zr → ∀ (H : Heap) (locs : List Loc) (ls : Array Slot), gw_I D A s.heap (gw_mw cc a S) H locs → lv_has ls 5 [(0, .ref (a 0)), (1, .int v1), (2, .int v2), (4, .int v4)] → W p l e rm_X9_isTakenBy s m args below meth c H locs 0 0 (MQ below (gw_Q (some (.int zr)) (gw_Pst D A (fun w => w = gw_mw cc a S)) A) args s 0 0 A) (F0 m 31 ls [.int t0_]) := by
    intro K5 hK5
    intro v1 v2 v4 t0_ h H locs ls hI hl
    unfold f_X9_isTakenBy_b31 at h
    refine lv_istore_n (lv' := [(3, .int t0_), (0, .ref (a 0)), (1, .int v1), (2, .int v2), (4, .int v4)]) hx hb dX9_isTakenBy_31 rfl hl (by decide) rfl (fun ls hl => ?_)
    obtain ⟨y1, e2, h⟩ := gw_letE h
    refine lv_iinc (v := y1) (lv' := [(4, .int y1), (3, .int t0_), (0, .ref (a 0)), (1, .int v1), (2, .int v2)]) hx hb dX9_isTakenBy_32 hl (k := 4) rfl (by rw [e2]; rfl) (by decide) rfl (fun ls hl => ?_)
    refine lv_goto (tgt := 5) hx hb dX9_isTakenBy_35 (by decide) ?_
    exact hK5 v1 v2 t0_ y1 h _ _ _ hI (lv_sub hl [2, 3, 4, 1, 0] rfl)
  have hb26 : ∀ (K5 : Int32 → Int32 → Int32 → Int32 → Option (Int32)) (_ : ∀ (v1 : Int32) (v2 : Int32) (v3 : Int32) (v4 : Int32), K5 v1 v2 v3 v4 = some zr → ∀ (H : Heap) (locs : List Loc) (ls : Array Slot), gw_I D A s.heap (gw_mw cc a S) H locs → lv_has ls 5 [(0, .ref (a 0)), (1, .int v1), (2, .int v2), (3, .int v3), (4, .int v4)] → W p l e rm_X9_isTakenBy s m args below meth c H locs 0 0 (MQ below (gw_Q (some (.int zr)) (gw_Pst D A (fun w => w = gw_mw cc a S)) A) args s 0 0 A) (F0 m 5 ls [])), ∀ (v1 : Int32) (v2 : Int32) (v4 : Int32), f_X9_isTakenBy_b26 S K5 v1 v2 v4 = some zr → ∀ (H : Heap) (locs : List Loc) (ls : Array Slot), gw_I D A s.heap (gw_mw cc a S) H locs → lv_has ls 5 [(0, .ref (a 0)), (1, .int v1), (2, .int v2), (4, .int v4)] → W p l e rm_X9_isTakenBy s m args below meth c H locs 0 0 (MQ below (gw_Q (some (.int zr)) (gw_Pst D A (fun w => w = gw_mw cc a S)) A) args s 0 0 A) (F0 m 26 ls []) := by
    intro K5 hK5
    intro v1 v2 v4 h H locs ls hI hl
    unfold f_X9_isTakenBy_b26 at h
    refine lv_iconst (v := 1) hx hb dX9_isTakenBy_26 (by decide) ?_
    refine lv_goto (tgt := 31) hx hb dX9_isTakenBy_27 (by decide) ?_
    exact hb31 K5 hK5 v1 v2 v4 (1 : Int32) h _ _ _ hI (lv_sub hl [0, 1, 2, 3] rfl)
  have hb5 :  ∀ (n : Nat), ∀ (v1 : Int32) (v2 : Int32) (v3 : Int32) (v4 : Int32), f_X9_isTakenBy_b5 S  n v1 v2 v3 v4 = some zr → ∀ (H : Heap) (locs : List Loc) (ls : Array Slot), gw_I D A s.heap (gw_mw cc a S) H locs → lv_has ls 5 [(0, .ref (a 0)), (1, .int v1), (2, .int v2), (3, .int v3), (4, .int v4)] → W p l e rm_X9_isTakenBy s m args below meth c H locs 0 0 (MQ below (gw_Q (some (.int zr)) (gw_Pst D A (fun w => w = gw_mw cc a S)) A) args s 0 0 A) (F0 m 5 ls []) := by
    intro n
    induction n with
    | zero =>
      intro v1 v2 v3 v4 h
      cases h
    | succ n ih =>
      intro v1 v2 v3 v4 h H locs ls hI hl
      unfold f_X9_isTakenBy_b5 at h
      refine lv_iload hx hb dX9_isTakenBy_5 (lv_at hl 4 rfl) ?_
      refine lv_iload_n hx hb dX9_isTakenBy_7 rfl (lv_at hl 2 rfl) ?_
      refine lv_icmp_ge (tgt := 38) hx hb dX9_isTakenBy_8 (by decide) (fun c3 => ?_) (fun c3 => ?_)
      · replace h := gw_ifT c3 h
        refine lv_iload_n hx hb dX9_isTakenBy_38 rfl (lv_at hl 3 rfl) ?_
        obtain ⟨g4, h⟩ := gw_gdE h
        rw [← Option.some.inj h]
        exact gw_zret (W' := (fun w => w = gw_mw cc a S)) B hI rfl g4 (Nat.zero_le _) (Nat.zero_le _) dX9_isTakenBy_39
      · replace h := gw_ifF c3 h
        refine lv_iload_n hx hb dX9_isTakenBy_11 rfl (lv_at hl 3 rfl) ?_
        refine lv_if_ne (tgt := 26) hx hb dX9_isTakenBy_12 (by decide) (fun c5 => ?_) (fun c5 => ?_)
        · replace h := gw_ifF c5 h
          exact hb26 (f_X9_isTakenBy_b5 S  n) ih v1 v2 v4 h _ _ _ hI (lv_sub hl [0, 1, 2, 4] rfl)
        · replace h := gw_ifT c5 h
          refine lv_aload_n hx hb dX9_isTakenBy_15 rfl (lv_at hl 0 rfl) ?_
          refine gw_get (T := TX9) (k := 46) (v := .ref (a 41)) B hI gm_g0 rfl ly_X9_isTakenBy_9 (by decide) m_X9_isTakenBy_131 rfl rfl dX9_isTakenBy_16 ?_
          refine lv_iload hx hb dX9_isTakenBy_19 (lv_at hl 4 rfl) ?_
          obtain ⟨g6, h⟩ := gw_gdE h
          refine gw_iald (t0 := 0) B hI gm_g41 rfl g6 dX9_isTakenBy_21 ?_
          refine lv_iload_n hx hb dX9_isTakenBy_22 rfl (lv_at hl 1 rfl) ?_
          refine lv_icmp_ne (tgt := 30) hx hb dX9_isTakenBy_23 (by decide) (fun c7 => ?_) (fun c7 => ?_)
          · replace h := gw_ifF c7 h
            refine lv_iconst (v := 0) hx hb dX9_isTakenBy_30 (by decide) ?_
            exact hb31 (f_X9_isTakenBy_b5 S  n) ih v1 v2 v4 (0 : Int32) h _ _ _ hI (lv_sub hl [0, 1, 2, 4] rfl)
          · replace h := gw_ifT c7 h
            exact hb26 (f_X9_isTakenBy_b5 S  n) ih v1 v2 v4 h _ _ _ hI (lv_sub hl [0, 1, 2, 4] rfl)
  unfold f_X9_isTakenBy at h
  refine lv_iconst (v := 0) hx hb dX9_isTakenBy_0 (by decide) ?_
  refine lv_istore_n (lv' := [(3, .int (0 : Int32)), (0, .ref (a 0)), (1, .int x1), (2, .int x2)]) hx hb dX9_isTakenBy_1 rfl hl (by decide) rfl (fun ls hl => ?_)
  refine lv_iconst (v := 0) hx hb dX9_isTakenBy_2 (by decide) ?_
  refine lv_istore (lv' := [(4, .int (0 : Int32)), (3, .int (0 : Int32)), (0, .ref (a 0)), (1, .int x1), (2, .int x2)]) hx hb dX9_isTakenBy_3 hl (by decide) rfl (fun ls hl => ?_)
  exact hb5  gw_F x1 x2 (0 : Int32) (0 : Int32) h _ _ _ hI (lv_sub hl [2, 3, 4, 1, 0] rfl)
theorem m_X9_canTake_125 : Cond.fieldLink RX9 125 "GownLetModel" "far" "[I" ∈ wsX9_canTake := by decide +kernel
theorem m_X9_canTake_128 : Cond.fieldLink RX9 128 "GownLetModel" "chain" "[I" ∈ wsX9_canTake := by decide +kernel
theorem m_X9_canTake_83 : Cond.fieldLink RX9 83 "GownLetModel" "bodies" "[I" ∈ wsX9_canTake := by decide +kernel
theorem m_X9_canTake_86 : Cond.fieldLink RX9 86 "GownLetModel" "wanted" "[I" ∈ wsX9_canTake := by decide +kernel
theorem ly_X9_canTake_9 : ∀ w ∈ wsX90, w ∈ wsX9_canTake := fun w h => List.mem_cons_of_mem _ (List.mem_append_right _ h)
set_option maxRecDepth 100000 in
set_option maxHeartbeats 4000000 in
theorem k_X9_canTake (x1 : Int32) (x2 : Int32) (x3 : Int32) (S : gw_S) {zr : Int32} (h : f_X9_canTake x1 x2 x3 S = some zr) : gw_M l yX9_canTake wsX9_canTake rm_X9_canTake 0 0 D (gw_ty cc) t1 t2 [.ref (a 0), .int x1, .int x2, .int x3] (gw_mw cc a S) (fun w => w = gw_mw cc a S) (some (.int zr)) := by
  refine gw_enter (cc := cX9_canTake) (maxL := 6) (ret := (some .boolean)) (own := RX9) rfl (by decide) rfl (Nat.le_of_ble_eq_true rfl) ?_
  intro p e s m below meth c A B hin hI ls hl
  have hl : lv_has ls 6 [(0, .ref (a 0)), (1, .int x1), (2, .int x2), (3, .int x3)] := hl
  generalize ([.ref (a 0), .int x1, .int x2, .int x3] : List Value).toArray = args at B ⊢
  have hx := B.1.1
  have hb := B.1.2.1
  have hown : s.vm.findClass RX9 = some m.cls := B.1.2.2.2.1
  have hts := B.1.2.2.2.2
  unfold f_X9_canTake at h
  refine lv_aload_n hx hb dX9_canTake_0 rfl (lv_at hl 0 rfl) ?_
  refine gw_get (T := TX9) (k := 45) (v := .ref (a 40)) B hI gm_g0 rfl ly_X9_canTake_9 (by decide) m_X9_canTake_128 rfl rfl dX9_canTake_1 ?_
  refine lv_iload_n hx hb dX9_canTake_4 rfl (lv_at hl 2 rfl) ?_
  obtain ⟨g1, h⟩ := gw_gdE h
  refine gw_iald (t0 := 0) B hI gm_g40 rfl g1 dX9_canTake_5 ?_
  obtain ⟨y2, e3, h⟩ := gw_letE h
  rw [← e3]
  refine lv_istore (lv' := [(4, .int y2), (0, .ref (a 0)), (1, .int x1), (2, .int x2), (3, .int x3)]) hx hb dX9_canTake_6 hl (by decide) rfl (fun ls hl => ?_)
  refine lv_aload_n hx hb dX9_canTake_8 rfl (lv_at hl 1 rfl) ?_
  refine lv_iload_n hx hb dX9_canTake_9 rfl (lv_at hl 2 rfl) ?_
  refine lv_iload_n hx hb dX9_canTake_10 rfl (lv_at hl 3 rfl) ?_
  obtain ⟨r4, e5, h⟩ := gw_bdE h
  refine gw_callV (As := [.int x1, .int x2]) (n := 2) B hI (k_X9_isTakenBy x1 x2 S e5) gX9_canTake_X9_isTakenBy rfl rfl rfl nd_X9_isTakenBy ⟨Nat.le_of_ble_eq_true rfl, Nat.le_of_ble_eq_true rfl⟩ gm_g0 rfl rfl rfl hl.1 (Nat.zero_le _) dX9_canTake_11 ⟨Nat.le_of_ble_eq_true rfl, Nat.le_of_ble_eq_true rfl⟩ rfl (fun w' H locs hw hI => ?_)
  subst hw
  refine lv_if_eq (tgt := 19) hx hb dX9_canTake_14 (by decide) (fun c6 => ?_) (fun c6 => ?_)
  · replace h := gw_ifT c6 h
    refine lv_iload_n hx hb dX9_canTake_19 rfl (lv_at hl 3 rfl) ?_
    refine lv_iload_n hx hb dX9_canTake_20 rfl (lv_at hl 4 rfl) ?_
    refine lv_iconst (v := 1) hx hb dX9_canTake_21 (by decide) ?_
    refine lv_isub hx hb dX9_canTake_22 ?_
    refine lv_icmp_ne (tgt := 65) hx hb dX9_canTake_23 (by decide) (fun c7 => ?_) (fun c7 => ?_)
    · replace h := gw_ifF c7 h
      refine lv_aload_n hx hb dX9_canTake_65 rfl (lv_at hl 1 rfl) ?_
      refine lv_iload_n hx hb dX9_canTake_66 rfl (lv_at hl 2 rfl) ?_
      refine lv_iload hx hb dX9_canTake_67 (lv_at hl 0 rfl) ?_
      obtain ⟨r8, e9, h⟩ := gw_bdE h
      refine gw_callV (As := [.int x1, .int y2]) (n := 2) B hI (k_X9_fromWhom x1 y2 S e9) gX9_canTake_X9_fromWhom rfl rfl rfl nd_X9_fromWhom ⟨Nat.le_of_ble_eq_true rfl, Nat.le_of_ble_eq_true rfl⟩ gm_g0 rfl rfl rfl hl.1 (Nat.zero_le _) dX9_canTake_69 ⟨Nat.le_of_ble_eq_true rfl, Nat.le_of_ble_eq_true rfl⟩ rfl (fun w' H locs hw hI => ?_)
      subst hw
      refine lv_istore (lv' := [(5, .int r8), (4, .int y2), (0, .ref (a 0)), (1, .int x1), (2, .int x2), (3, .int x3)]) hx hb dX9_canTake_72 hl (by decide) rfl (fun ls hl => ?_)
      refine lv_iload hx hb dX9_canTake_74 (lv_at hl 0 rfl) ?_
      refine lv_if_lt (tgt := 108) hx hb dX9_canTake_76 (by decide) (fun c10 => ?_) (fun c10 => ?_)
      · replace h := gw_ifT c10 h
        refine lv_iconst (v := 0) hx hb dX9_canTake_108 (by decide) ?_
        rw [← Option.some.inj h]
        exact gw_zret (W' := (fun w => w = gw_mw cc a S)) B hI rfl (Or.inl rfl) (Nat.zero_le _) (Nat.zero_le _) dX9_canTake_109
      · replace h := gw_ifF c10 h
        refine lv_aload_n hx hb dX9_canTake_79 rfl (lv_at hl 2 rfl) ?_
        refine lv_iload hx hb dX9_canTake_80 (lv_at hl 0 rfl) ?_
        refine lv_iload_n hx hb dX9_canTake_82 rfl (lv_at hl 4 rfl) ?_
        obtain ⟨r11, e12, h⟩ := gw_bdE h
        refine gw_callV (As := [.int r8, .int x2]) (n := 2) B hI (k_X9_isInChain r8 x2 S e12) gX9_canTake_X9_isInChain rfl rfl rfl nd_X9_isInChain ⟨Nat.le_of_ble_eq_true rfl, Nat.le_of_ble_eq_true rfl⟩ gm_g0 rfl rfl rfl hl.1 (Nat.zero_le _) dX9_canTake_83 ⟨Nat.le_of_ble_eq_true rfl, Nat.le_of_ble_eq_true rfl⟩ rfl (fun w' H locs hw hI => ?_)
        subst hw
        refine lv_if_ne (tgt := 108) hx hb dX9_canTake_86 (by decide) (fun c13 => ?_) (fun c13 => ?_)
        · replace h := gw_ifF c13 h
          refine lv_iconst (v := 0) hx hb dX9_canTake_108 (by decide) ?_
          rw [← Option.some.inj h]
          exact gw_zret (W' := (fun w => w = gw_mw cc a S)) B hI rfl (Or.inl rfl) (Nat.zero_le _) (Nat.zero_le _) dX9_canTake_109
        · replace h := gw_ifT c13 h
          refine lv_aload_n hx hb dX9_canTake_89 rfl (lv_at hl 2 rfl) ?_
          refine gw_get (T := TX9) (k := 44) (v := .ref (a 39)) B hI gm_g0 rfl ly_X9_canTake_9 (by decide) m_X9_canTake_125 rfl rfl dX9_canTake_90 ?_
          refine lv_iload hx hb dX9_canTake_93 (lv_at hl 0 rfl) ?_
          obtain ⟨g14, h⟩ := gw_gdE h
          refine gw_iald (t0 := 0) B hI gm_g39 rfl g14 dX9_canTake_95 ?_
          refine lv_iload_n hx hb dX9_canTake_96 rfl (lv_at hl 5 rfl) ?_
          refine lv_iconst (v := 1) hx hb dX9_canTake_97 (by decide) ?_
          refine lv_isub hx hb dX9_canTake_98 ?_
          refine lv_iload_n hx hb dX9_canTake_99 rfl (lv_at hl 4 rfl) ?_
          refine lv_isub hx hb dX9_canTake_100 ?_
          refine lv_icmp_gt (tgt := 108) hx hb dX9_canTake_101 (by decide) (fun c15 => ?_) (fun c15 => ?_)
          · replace h := gw_ifT c15 h
            refine lv_iconst (v := 0) hx hb dX9_canTake_108 (by decide) ?_
            rw [← Option.some.inj h]
            exact gw_zret (W' := (fun w => w = gw_mw cc a S)) B hI rfl (Or.inl rfl) (Nat.zero_le _) (Nat.zero_le _) dX9_canTake_109
          · replace h := gw_ifF c15 h
            refine lv_iconst (v := 1) hx hb dX9_canTake_104 (by decide) ?_
            refine lv_goto (tgt := 109) hx hb dX9_canTake_105 (by decide) ?_
            rw [← Option.some.inj h]
            exact gw_zret (W' := (fun w => w = gw_mw cc a S)) B hI rfl (Or.inr rfl) (Nat.zero_le _) (Nat.zero_le _) dX9_canTake_109
    · replace h := gw_ifT c7 h
      refine lv_aload_n hx hb dX9_canTake_26 rfl (lv_at hl 1 rfl) ?_
      refine lv_iload_n hx hb dX9_canTake_27 rfl (lv_at hl 2 rfl) ?_
      refine lv_aload_n hx hb dX9_canTake_28 rfl (lv_at hl 1 rfl) ?_
      refine gw_get (T := TX9) (k := 30) (v := .ref (a 25)) B hI gm_g0 rfl ly_X9_canTake_9 (by decide) m_X9_canTake_83 rfl rfl dX9_canTake_29 ?_
      refine lv_iload hx hb dX9_canTake_32 (lv_at hl 0 rfl) ?_
      obtain ⟨g16, h⟩ := gw_gdE h
      refine gw_iald (t0 := 0) B hI gm_g25 rfl g16 dX9_canTake_34 ?_
      refine lv_aload_n hx hb dX9_canTake_35 rfl (lv_at hl 1 rfl) ?_
      refine gw_get (T := TX9) (k := 31) (v := .ref (a 26)) B hI gm_g0 rfl ly_X9_canTake_9 (by decide) m_X9_canTake_86 rfl rfl dX9_canTake_36 ?_
      refine lv_iload hx hb dX9_canTake_39 (lv_at hl 0 rfl) ?_
      refine gw_iald (t0 := 0) B hI gm_g26 rfl g16 dX9_canTake_41 ?_
      obtain ⟨r17, e18, h⟩ := gw_bdE h
      refine gw_callV (As := [.int x1, .int (S 25 y2.toNatClampNeg), .int (S 26 y2.toNatClampNeg)]) (n := 3) B hI (k_X9_fitOf x1 (S 25 y2.toNatClampNeg) (S 26 y2.toNatClampNeg) S e18) gX9_canTake_X9_fitOf rfl rfl rfl nd_X9_fitOf ⟨Nat.le_of_ble_eq_true rfl, Nat.le_of_ble_eq_true rfl⟩ gm_g0 rfl rfl rfl hl.1 (Nat.zero_le _) dX9_canTake_42 ⟨Nat.le_of_ble_eq_true rfl, Nat.le_of_ble_eq_true rfl⟩ rfl (fun w' H locs hw hI => ?_)
      subst hw
      refine lv_iconst (v := 2) hx hb dX9_canTake_45 (by decide) ?_
      refine lv_icmp_ne (tgt := 63) hx hb dX9_canTake_46 (by decide) (fun c19 => ?_) (fun c19 => ?_)
      · replace h := gw_ifF c19 h
        refine lv_iconst (v := 0) hx hb dX9_canTake_63 (by decide) ?_
        rw [← Option.some.inj h]
        exact gw_zret (W' := (fun w => w = gw_mw cc a S)) B hI rfl (Or.inl rfl) (Nat.zero_le _) (Nat.zero_le _) dX9_canTake_64
      · replace h := gw_ifT c19 h
        refine lv_aload_n hx hb dX9_canTake_49 rfl (lv_at hl 1 rfl) ?_
        refine lv_iload_n hx hb dX9_canTake_50 rfl (lv_at hl 2 rfl) ?_
        refine lv_iload hx hb dX9_canTake_51 (lv_at hl 0 rfl) ?_
        obtain ⟨r20, e21, h⟩ := gw_bdE h
        refine gw_callV (As := [.int x1, .int y2]) (n := 2) B hI (k_X9_isFree x1 y2 S e21) gX9_canTake_X9_isFree rfl rfl rfl nd_X9_isFree ⟨Nat.le_of_ble_eq_true rfl, Nat.le_of_ble_eq_true rfl⟩ gm_g0 rfl rfl rfl hl.1 (Nat.zero_le _) dX9_canTake_53 ⟨Nat.le_of_ble_eq_true rfl, Nat.le_of_ble_eq_true rfl⟩ rfl (fun w' H locs hw hI => ?_)
        subst hw
        refine lv_if_eq (tgt := 63) hx hb dX9_canTake_56 (by decide) (fun c22 => ?_) (fun c22 => ?_)
        · replace h := gw_ifT c22 h
          refine lv_iconst (v := 0) hx hb dX9_canTake_63 (by decide) ?_
          rw [← Option.some.inj h]
          exact gw_zret (W' := (fun w => w = gw_mw cc a S)) B hI rfl (Or.inl rfl) (Nat.zero_le _) (Nat.zero_le _) dX9_canTake_64
        · replace h := gw_ifF c22 h
          refine lv_iconst (v := 1) hx hb dX9_canTake_59 (by decide) ?_
          refine lv_goto (tgt := 64) hx hb dX9_canTake_60 (by decide) ?_
          rw [← Option.some.inj h]
          exact gw_zret (W' := (fun w => w = gw_mw cc a S)) B hI rfl (Or.inr rfl) (Nat.zero_le _) (Nat.zero_le _) dX9_canTake_64
  · replace h := gw_ifF c6 h
    refine lv_iconst (v := 0) hx hb dX9_canTake_17 (by decide) ?_
    rw [← Option.some.inj h]
    exact gw_zret (W' := (fun w => w = gw_mw cc a S)) B hI rfl (Or.inl rfl) (Nat.zero_le _) (Nat.zero_le _) dX9_canTake_18
theorem m_X9_findChainOf_128 : Cond.fieldLink RX9 128 "GownLetModel" "chain" "[I" ∈ wsX9_findChainOf := by decide +kernel
theorem m_X9_findChainOf_131 : Cond.fieldLink RX9 131 "GownLetModel" "taken" "[I" ∈ wsX9_findChainOf := by decide +kernel
theorem m_X9_findChainOf_203 : Cond.fieldLink RX9 203 "GownLetModel" "pieces" "I" ∈ wsX9_findChainOf := by decide +kernel
theorem ly_X9_findChainOf_9 : ∀ w ∈ wsX90, w ∈ wsX9_findChainOf := fun w h => List.mem_cons_of_mem _ (List.mem_append_right _ h)
set_option maxRecDepth 100000 in
set_option maxHeartbeats 4000000 in
theorem k_X9_findChainOf (x1 : Int32) (x2 : Int32) (S : gw_S) {zr : Int32} {zS : gw_S} (h : f_X9_findChainOf x1 x2 S = some (zr, zS)) : gw_M l yX9_findChainOf wsX9_findChainOf rm_X9_findChainOf 0 0 D (gw_ty cc) t1 t2 [.ref (a 0), .int x1, .int x2] (gw_mw cc a S) (fun w => w = gw_mw cc a zS) (some (.int zr)) := by
  refine gw_enter (cc := cX9_findChainOf) (maxL := 6) (ret := (some .boolean)) (own := RX9) rfl (by decide) rfl (Nat.le_of_ble_eq_true rfl) ?_
  intro p e s m below meth c A B hin hI ls hl
  have hl : lv_has ls 6 [(0, .ref (a 0)), (1, .int x1), (2, .int x2)] := hl
  generalize ([.ref (a 0), .int x1, .int x2] : List Value).toArray = args at B ⊢
  have hx := B.1.1
  have hb := B.1.2.1
  have hown : s.vm.findClass RX9 = some m.cls := B.1.2.2.2.1
  have hts := B.1.2.2.2.2
  have hb126 :  ∀ (v2 : Int32) (v3 : Int32) (S : gw_S), f_X9_findChainOf_b126  v2 v3 S = some (zr, zS) → ∀ (H : Heap) (locs : List Loc) (ls : Array Slot), gw_I D A s.heap (gw_mw cc a S) H locs → lv_has ls 6 [(2, .int v2), (3, .int v3)] → W p l e rm_X9_findChainOf s m args below meth c H locs 0 0 (MQ below (gw_Q (some (.int zr)) (gw_Pst D A (fun w => w = gw_mw cc a zS)) A) args s 0 0 A) (F0 m 126 ls []) := by
    intro v2 v3 S h H locs ls hI hl
    unfold f_X9_findChainOf_b126 at h
    refine lv_iload_n hx hb dX9_findChainOf_126 rfl (lv_at hl 1 rfl) ?_
    refine lv_iload_n hx hb dX9_findChainOf_127 rfl (lv_at hl 0 rfl) ?_
    refine lv_icmp_ne (tgt := 135) hx hb dX9_findChainOf_128 (by decide) (fun c1 => ?_) (fun c1 => ?_)
    · replace h := gw_ifF c1 h
      refine lv_iconst (v := 0) hx hb dX9_findChainOf_135 (by decide) ?_
      obtain ⟨h1, h2⟩ := Prod.mk.inj (Option.some.inj h)
      rw [h2] at hI
      rw [← h1]
      exact gw_zret (W' := (fun w => w = gw_mw cc a zS)) B hI rfl (Or.inl rfl) (Nat.zero_le _) (Nat.zero_le _) dX9_findChainOf_136
    · replace h := gw_ifT c1 h
      refine lv_iconst (v := 1) hx hb dX9_findChainOf_131 (by decide) ?_
      refine lv_goto (tgt := 136) hx hb dX9_findChainOf_132 (by decide) ?_
      obtain ⟨h1, h2⟩ := Prod.mk.inj (Option.some.inj h)
      rw [h2] at hI
      rw [← h1]
      exact gw_zret (W' := (fun w => w = gw_mw cc a zS)) B hI rfl (Or.inr rfl) (Nat.zero_le _) (Nat.zero_le _) dX9_findChainOf_136
  have hb123 : ∀ (K12 : Int32 → Int32 → Int32 → gw_S → Option (Int32 × gw_S)) (_ : ∀ (v2 : Int32) (v3 : Int32) (v4 : Int32) (S : gw_S), K12 v2 v3 v4 S = some (zr, zS) → ∀ (H : Heap) (locs : List Loc) (ls : Array Slot), gw_I D A s.heap (gw_mw cc a S) H locs → lv_has ls 6 [(0, .ref (a 0)), (2, .int v2), (3, .int v3), (4, .int v4)] → W p l e rm_X9_findChainOf s m args below meth c H locs 0 0 (MQ below (gw_Q (some (.int zr)) (gw_Pst D A (fun w => w = gw_mw cc a zS)) A) args s 0 0 A) (F0 m 12 ls [])), ∀ (v2 : Int32) (v3 : Int32) (v4 : Int32) (S : gw_S), f_X9_findChainOf_b123 K12 v2 v3 v4 S = some (zr, zS) → ∀ (H : Heap) (locs : List Loc) (ls : Array Slot), gw_I D A s.heap (gw_mw cc a S) H locs → lv_has ls 6 [(0, .ref (a 0)), (2, .int v2), (3, .int v3), (4, .int v4)] → W p l e rm_X9_findChainOf s m args below meth c H locs 0 0 (MQ below (gw_Q (some (.int zr)) (gw_Pst D A (fun w => w = gw_mw cc a zS)) A) args s 0 0 A) (F0 m 123 ls []) := by
    intro K12 hK12
    intro v2 v3 v4 S h H locs ls hI hl
    unfold f_X9_findChainOf_b123 at h
    refine lv_goto (tgt := 12) hx hb dX9_findChainOf_123 (by decide) ?_
    exact hK12 v2 v3 v4 S h _ _ _ hI (lv_sub hl [0, 1, 2, 3] rfl)
  have hb121 : ∀ (K12 : Int32 → Int32 → Int32 → gw_S → Option (Int32 × gw_S)) (_ : ∀ (v2 : Int32) (v3 : Int32) (v4 : Int32) (S : gw_S), K12 v2 v3 v4 S = some (zr, zS) → ∀ (H : Heap) (locs : List Loc) (ls : Array Slot), gw_I D A s.heap (gw_mw cc a S) H locs → lv_has ls 6 [(0, .ref (a 0)), (2, .int v2), (3, .int v3), (4, .int v4)] → W p l e rm_X9_findChainOf s m args below meth c H locs 0 0 (MQ below (gw_Q (some (.int zr)) (gw_Pst D A (fun w => w = gw_mw cc a zS)) A) args s 0 0 A) (F0 m 12 ls [])), ∀ (v2 : Int32) (v3 : Int32) (t0_ : Int32) (S : gw_S), f_X9_findChainOf_b121 K12 v2 v3 t0_ S = some (zr, zS) → ∀ (H : Heap) (locs : List Loc) (ls : Array Slot), gw_I D A s.heap (gw_mw cc a S) H locs → lv_has ls 6 [(0, .ref (a 0)), (2, .int v2), (3, .int v3)] → W p l e rm_X9_findChainOf s m args below meth c H locs 0 0 (MQ below (gw_Q (some (.int zr)) (gw_Pst D A (fun w => w = gw_mw cc a zS)) A) args s 0 0 A) (F0 m 121 ls [.int t0_]) := by
    intro K12 hK12
    intro v2 v3 t0_ S h H locs ls hI hl
    unfold f_X9_findChainOf_b121 at h
    refine lv_istore (lv' := [(4, .int t0_), (0, .ref (a 0)), (2, .int v2), (3, .int v3)]) hx hb dX9_findChainOf_121 hl (by decide) rfl (fun ls hl => ?_)
    exact hb123 K12 hK12 v2 v3 t0_ S h _ _ _ hI (lv_sub hl [1, 2, 3, 0] rfl)
  have hb96 : ∀ (K12 : Int32 → Int32 → Int32 → gw_S → Option (Int32 × gw_S)) (_ : ∀ (v2 : Int32) (v3 : Int32) (v4 : Int32) (S : gw_S), K12 v2 v3 v4 S = some (zr, zS) → ∀ (H : Heap) (locs : List Loc) (ls : Array Slot), gw_I D A s.heap (gw_mw cc a S) H locs → lv_has ls 6 [(0, .ref (a 0)), (2, .int v2), (3, .int v3), (4, .int v4)] → W p l e rm_X9_findChainOf s m args below meth c H locs 0 0 (MQ below (gw_Q (some (.int zr)) (gw_Pst D A (fun w => w = gw_mw cc a zS)) A) args s 0 0 A) (F0 m 12 ls [])), ∀ (v2 : Int32) (v3 : Int32) (S : gw_S), f_X9_findChainOf_b96 K12 v2 v3 S = some (zr, zS) → ∀ (H : Heap) (locs : List Loc) (ls : Array Slot), gw_I D A s.heap (gw_mw cc a S) H locs → lv_has ls 6 [(0, .ref (a 0)), (2, .int v2), (3, .int v3)] → W p l e rm_X9_findChainOf s m args below meth c H locs 0 0 (MQ below (gw_Q (some (.int zr)) (gw_Pst D A (fun w => w = gw_mw cc a zS)) A) args s 0 0 A) (F0 m 96 ls []) := by
    intro K12 hK12
    intro v2 v3 S h H locs ls hI hl
    unfold f_X9_findChainOf_b96 at h
    refine lv_iconst (v := 0) hx hb dX9_findChainOf_96 (by decide) ?_
    refine lv_istore (lv' := [(4, .int (0 : Int32)), (0, .ref (a 0)), (2, .int v2), (3, .int v3)]) hx hb dX9_findChainOf_97 hl (by decide) rfl (fun ls hl => ?_)
    refine lv_goto (tgt := 123) hx hb dX9_findChainOf_99 (by decide) ?_
    exact hb123 K12 hK12 v2 v3 (0 : Int32) S h _ _ _ hI (lv_sub hl [1, 2, 3, 0] rfl)
  have hb51 : ∀ (K12 : Int32 → Int32 → Int32 → gw_S → Option (Int32 × gw_S)) (_ : ∀ (v2 : Int32) (v3 : Int32) (v4 : Int32) (S : gw_S), K12 v2 v3 v4 S = some (zr, zS) → ∀ (H : Heap) (locs : List Loc) (ls : Array Slot), gw_I D A s.heap (gw_mw cc a S) H locs → lv_has ls 6 [(0, .ref (a 0)), (2, .int v2), (3, .int v3), (4, .int v4)] → W p l e rm_X9_findChainOf s m args below meth c H locs 0 0 (MQ below (gw_Q (some (.int zr)) (gw_Pst D A (fun w => w = gw_mw cc a zS)) A) args s 0 0 A) (F0 m 12 ls [])), ∀ (v2 : Int32) (v3 : Int32) (v5 : Int32) (S : gw_S), f_X9_findChainOf_b51 K12 v2 v3 v5 S = some (zr, zS) → ∀ (H : Heap) (locs : List Loc) (ls : Array Slot), gw_I D A s.heap (gw_mw cc a S) H locs → lv_has ls 6 [(0, .ref (a 0)), (2, .int v2), (3, .int v3), (5, .int v5)] → W p l e rm_X9_findChainOf s m args below meth c H locs 0 0 (MQ below (gw_Q (some (.int zr)) (gw_Pst D A (fun w => w = gw_mw cc a zS)) A) args s 0 0 A) (F0 m 51 ls []) := by
    intro K12 hK12
    intro v2 v3 v5 S h H locs ls hI hl
    unfold f_X9_findChainOf_b51 at h
    refine lv_iload hx hb dX9_findChainOf_51 (lv_at hl 3 rfl) ?_
    refine lv_aload_n hx hb dX9_findChainOf_53 rfl (lv_at hl 0 rfl) ?_
    refine gw_get (T := TX9) (k := 8) (v := .int (S 0 8)) B hI gm_g0 rfl ly_X9_findChainOf_9 (by decide) m_X9_findChainOf_203 rfl rfl dX9_findChainOf_54 ?_
    refine lv_icmp_ge (tgt := 102) hx hb dX9_findChainOf_57 (by decide) (fun c2 => ?_) (fun c2 => ?_)
    · replace h := gw_ifT c2 h
      obtain ⟨y3, e4, h⟩ := gw_letE h
      refine lv_iinc (v := y3) (lv' := [(3, .int y3), (0, .ref (a 0)), (2, .int v2), (5, .int v5)]) hx hb dX9_findChainOf_102 hl (k := 2) rfl (by rw [e4]; rfl) (by decide) rfl (fun ls hl => ?_)
      refine lv_iload_n hx hb dX9_findChainOf_105 rfl (lv_at hl 0 rfl) ?_
      refine lv_if_lt (tgt := 120) hx hb dX9_findChainOf_106 (by decide) (fun c5 => ?_) (fun c5 => ?_)
      · replace h := gw_ifT c5 h
        refine lv_iconst (v := 0) hx hb dX9_findChainOf_120 (by decide) ?_
        exact hb121 K12 hK12 v2 y3 (0 : Int32) S h _ _ _ hI (lv_sub hl [1, 2, 0] rfl)
      · replace h := gw_ifF c5 h
        refine lv_aload_n hx hb dX9_findChainOf_109 rfl (lv_at hl 1 rfl) ?_
        refine gw_get (T := TX9) (k := 46) (v := .ref (a 41)) B hI gm_g0 rfl ly_X9_findChainOf_9 (by decide) m_X9_findChainOf_131 rfl rfl dX9_findChainOf_110 ?_
        refine lv_iload_n hx hb dX9_findChainOf_113 rfl (lv_at hl 0 rfl) ?_
        obtain ⟨g6, h⟩ := gw_gdE h
        refine gw_iald (t0 := 0) B hI gm_g41 rfl g6 dX9_findChainOf_114 ?_
        refine lv_iconst (v := 1) hx hb dX9_findChainOf_115 (by decide) ?_
        refine lv_iadd hx hb dX9_findChainOf_116 ?_
        refine lv_goto (tgt := 121) hx hb dX9_findChainOf_117 (by decide) ?_
        exact hb121 K12 hK12 v2 y3 ((S 41 y3.toNatClampNeg) + (1 : Int32)) S h _ _ _ hI (lv_sub hl [1, 2, 0] rfl)
    · replace h := gw_ifF c2 h
      refine lv_aload_n hx hb dX9_findChainOf_60 rfl (lv_at hl 0 rfl) ?_
      refine gw_get (T := TX9) (k := 46) (v := .ref (a 41)) B hI gm_g0 rfl ly_X9_findChainOf_9 (by decide) m_X9_findChainOf_131 rfl rfl dX9_findChainOf_61 ?_
      refine lv_iload_n hx hb dX9_findChainOf_64 rfl (lv_at hl 2 rfl) ?_
      refine lv_iload hx hb dX9_findChainOf_65 (lv_at hl 3 rfl) ?_
      obtain ⟨g7, h⟩ := gw_gdE h
      obtain ⟨S8, e9, h⟩ := gw_letE h
      refine gw_iast (t0 := 0) (w' := gw_mw cc a S8) B hI gm_g41 rfl g7 (gm_s41 e9) dX9_findChainOf_67 (fun H locs hI => ?_)
      obtain ⟨y10, e11, h⟩ := gw_letE h
      refine lv_iinc (v := y10) (lv' := [(3, .int y10), (0, .ref (a 0)), (2, .int v2), (5, .int v5)]) hx hb dX9_findChainOf_68 hl (k := 2) rfl (by rw [e11]; rfl) (by decide) rfl (fun ls hl => ?_)
      refine lv_iload_n hx hb dX9_findChainOf_71 rfl (lv_at hl 0 rfl) ?_
      refine lv_iload_n hx hb dX9_findChainOf_72 rfl (lv_at hl 2 rfl) ?_
      refine lv_icmp_ge (tgt := 96) hx hb dX9_findChainOf_73 (by decide) (fun c12 => ?_) (fun c12 => ?_)
      · replace h := gw_ifT c12 h
        exact hb96 K12 hK12 v2 y10 S8 h _ _ _ hI (lv_sub hl [1, 2, 0] rfl)
      · replace h := gw_ifF c12 h
        refine lv_aload_n hx hb dX9_findChainOf_76 rfl (lv_at hl 1 rfl) ?_
        refine gw_get (T := TX9) (k := 45) (v := .ref (a 40)) B hI gm_g0 rfl ly_X9_findChainOf_9 (by decide) m_X9_findChainOf_128 rfl rfl dX9_findChainOf_77 ?_
        refine lv_iload_n hx hb dX9_findChainOf_80 rfl (lv_at hl 0 rfl) ?_
        refine lv_aload_n hx hb dX9_findChainOf_81 rfl (lv_at hl 1 rfl) ?_
        refine lv_iload hx hb dX9_findChainOf_82 (lv_at hl 3 rfl) ?_
        refine lv_aload_n hx hb dX9_findChainOf_84 rfl (lv_at hl 1 rfl) ?_
        refine gw_get (T := TX9) (k := 45) (v := .ref (a 40)) B hI gm_g0 rfl ly_X9_findChainOf_9 (by decide) m_X9_findChainOf_128 rfl rfl dX9_findChainOf_85 ?_
        refine lv_iload_n hx hb dX9_findChainOf_88 rfl (lv_at hl 0 rfl) ?_
        refine lv_iconst (v := 1) hx hb dX9_findChainOf_89 (by decide) ?_
        refine lv_isub hx hb dX9_findChainOf_90 ?_
        obtain ⟨g13, h⟩ := gw_gdE h
        refine gw_iald (t0 := 0) B hI gm_g40 rfl g13 dX9_findChainOf_91 ?_
        obtain ⟨r14, e15, h⟩ := gw_bdE h
        refine gw_callV (As := [.int v5, .int (S8 40 (y10 - (1 : Int32)).toNatClampNeg)]) (n := 2) B hI (k_X9_fromWhom v5 (S8 40 (y10 - (1 : Int32)).toNatClampNeg) S8 e15) gX9_findChainOf_X9_fromWhom rfl rfl rfl nd_X9_fromWhom ⟨Nat.le_of_ble_eq_true rfl, Nat.le_of_ble_eq_true rfl⟩ gm_g0 rfl rfl rfl hl.1 (by simp [gw_catq, gw_cI, gw_cR, gw_cL]) dX9_findChainOf_92 ⟨Nat.le_of_ble_eq_true rfl, Nat.le_of_ble_eq_true rfl⟩ rfl (fun w' H locs hw hI => ?_)
        subst hw
        obtain ⟨g16, h⟩ := gw_gdE h
        obtain ⟨S17, e18, h⟩ := gw_letE h
        refine gw_iast (t0 := 0) (w' := gw_mw cc a S17) B hI gm_g40 rfl g16 (gm_s40 e18) dX9_findChainOf_95 (fun H locs hI => ?_)
        exact hb96 K12 hK12 v2 y10 S17 h _ _ _ hI (lv_sub hl [1, 2, 0] rfl)
  have hb25 : ∀ (K12 : Int32 → Int32 → Int32 → gw_S → Option (Int32 × gw_S)) (_ : ∀ (v2 : Int32) (v3 : Int32) (v4 : Int32) (S : gw_S), K12 v2 v3 v4 S = some (zr, zS) → ∀ (H : Heap) (locs : List Loc) (ls : Array Slot), gw_I D A s.heap (gw_mw cc a S) H locs → lv_has ls 6 [(0, .ref (a 0)), (2, .int v2), (3, .int v3), (4, .int v4)] → W p l e rm_X9_findChainOf s m args below meth c H locs 0 0 (MQ below (gw_Q (some (.int zr)) (gw_Pst D A (fun w => w = gw_mw cc a zS)) A) args s 0 0 A) (F0 m 12 ls [])), ∀ (n : Nat), ∀ (v2 : Int32) (v3 : Int32) (v5 : Int32) (S : gw_S), f_X9_findChainOf_b25 K12 n v2 v3 v5 S = some (zr, zS) → ∀ (H : Heap) (locs : List Loc) (ls : Array Slot), gw_I D A s.heap (gw_mw cc a S) H locs → lv_has ls 6 [(0, .ref (a 0)), (2, .int v2), (3, .int v3), (5, .int v5)] → W p l e rm_X9_findChainOf s m args below meth c H locs 0 0 (MQ below (gw_Q (some (.int zr)) (gw_Pst D A (fun w => w = gw_mw cc a zS)) A) args s 0 0 A) (F0 m 25 ls []) := by
    intro K12 hK12
    intro n
    induction n with
    | zero =>
      intro v2 v3 v5 S h
      cases h
    | succ n ih =>
      intro v2 v3 v5 S h H locs ls hI hl
      unfold f_X9_findChainOf_b25 at h
      refine lv_iload hx hb dX9_findChainOf_25 (lv_at hl 3 rfl) ?_
      refine lv_aload_n hx hb dX9_findChainOf_27 rfl (lv_at hl 0 rfl) ?_
      refine gw_get (T := TX9) (k := 8) (v := .int (S 0 8)) B hI gm_g0 rfl ly_X9_findChainOf_9 (by decide) m_X9_findChainOf_203 rfl rfl dX9_findChainOf_28 ?_
      refine lv_icmp_ge (tgt := 51) hx hb dX9_findChainOf_31 (by decide) (fun c19 => ?_) (fun c19 => ?_)
      · replace h := gw_ifT c19 h
        exact hb51 K12 hK12 v2 v3 v5 S h _ _ _ hI (lv_sub hl [0, 1, 2, 3] rfl)
      · replace h := gw_ifF c19 h
        refine lv_aload_n hx hb dX9_findChainOf_34 rfl (lv_at hl 0 rfl) ?_
        refine lv_iload hx hb dX9_findChainOf_35 (lv_at hl 3 rfl) ?_
        refine lv_iload_n hx hb dX9_findChainOf_37 rfl (lv_at hl 2 rfl) ?_
        refine lv_iload_n hx hb dX9_findChainOf_38 rfl (lv_at hl 1 rfl) ?_
        obtain ⟨r20, e21, h⟩ := gw_bdE h
        refine gw_callV (As := [.int v5, .int v3, .int v2]) (n := 3) B hI (k_X9_canTake v5 v3 v2 S e21) gX9_findChainOf_X9_canTake rfl rfl rfl nd_X9_canTake ⟨Nat.le_of_ble_eq_true rfl, Nat.le_of_ble_eq_true rfl⟩ gm_g0 rfl rfl rfl hl.1 (Nat.zero_le _) dX9_findChainOf_39 ⟨Nat.le_of_ble_eq_true rfl, Nat.le_of_ble_eq_true rfl⟩ rfl (fun w' H locs hw hI => ?_)
        subst hw
        refine lv_if_ne (tgt := 51) hx hb dX9_findChainOf_42 (by decide) (fun c22 => ?_) (fun c22 => ?_)
        · replace h := gw_ifF c22 h
          exact hb51 K12 hK12 v2 v3 v5 S h _ _ _ hI (lv_sub hl [0, 1, 2, 3] rfl)
        · replace h := gw_ifT c22 h
          obtain ⟨y23, e24, h⟩ := gw_letE h
          refine lv_iinc (v := y23) (lv' := [(5, .int y23), (0, .ref (a 0)), (2, .int v2), (3, .int v3)]) hx hb dX9_findChainOf_45 hl (k := 3) rfl (by rw [e24]; rfl) (by decide) rfl (fun ls hl => ?_)
          refine lv_goto (tgt := 25) hx hb dX9_findChainOf_48 (by decide) ?_
          exact ih v2 v3 y23 S h _ _ _ hI (lv_sub hl [1, 2, 3, 0] rfl)
  have hb12 :  ∀ (n : Nat), ∀ (v2 : Int32) (v3 : Int32) (v4 : Int32) (S : gw_S), f_X9_findChainOf_b12  n v2 v3 v4 S = some (zr, zS) → ∀ (H : Heap) (locs : List Loc) (ls : Array Slot), gw_I D A s.heap (gw_mw cc a S) H locs → lv_has ls 6 [(0, .ref (a 0)), (2, .int v2), (3, .int v3), (4, .int v4)] → W p l e rm_X9_findChainOf s m args below meth c H locs 0 0 (MQ below (gw_Q (some (.int zr)) (gw_Pst D A (fun w => w = gw_mw cc a zS)) A) args s 0 0 A) (F0 m 12 ls []) := by
    intro n
    induction n with
    | zero =>
      intro v2 v3 v4 S h
      cases h
    | succ n ih =>
      intro v2 v3 v4 S h H locs ls hI hl
      unfold f_X9_findChainOf_b12 at h
      refine lv_iload_n hx hb dX9_findChainOf_12 rfl (lv_at hl 2 rfl) ?_
      refine lv_if_lt (tgt := 126) hx hb dX9_findChainOf_13 (by decide) (fun c25 => ?_) (fun c25 => ?_)
      · replace h := gw_ifT c25 h
        exact hb126  v2 v3 S h _ _ _ hI (lv_sub hl [1, 2] rfl)
      · replace h := gw_ifF c25 h
        refine lv_iload_n hx hb dX9_findChainOf_16 rfl (lv_at hl 2 rfl) ?_
        refine lv_iload_n hx hb dX9_findChainOf_17 rfl (lv_at hl 1 rfl) ?_
        refine lv_icmp_ge (tgt := 126) hx hb dX9_findChainOf_18 (by decide) (fun c26 => ?_) (fun c26 => ?_)
        · replace h := gw_ifT c26 h
          exact hb126  v2 v3 S h _ _ _ hI (lv_sub hl [1, 2] rfl)
        · replace h := gw_ifF c26 h
          refine lv_iload hx hb dX9_findChainOf_21 (lv_at hl 3 rfl) ?_
          refine lv_istore (lv' := [(5, .int v4), (0, .ref (a 0)), (2, .int v2), (3, .int v3), (4, .int v4)]) hx hb dX9_findChainOf_23 hl (by decide) rfl (fun ls hl => ?_)
          exact hb25 (f_X9_findChainOf_b12  n) ih gw_F v2 v3 v4 S h _ _ _ hI (lv_sub hl [1, 2, 3, 0] rfl)
  unfold f_X9_findChainOf at h
  refine lv_aload_n hx hb dX9_findChainOf_0 rfl (lv_at hl 0 rfl) ?_
  refine gw_get (T := TX9) (k := 45) (v := .ref (a 40)) B hI gm_g0 rfl ly_X9_findChainOf_9 (by decide) m_X9_findChainOf_128 rfl rfl dX9_findChainOf_1 ?_
  refine lv_iconst (v := 0) hx hb dX9_findChainOf_4 (by decide) ?_
  refine lv_iload_n hx hb dX9_findChainOf_5 rfl (lv_at hl 1 rfl) ?_
  obtain ⟨S27, e28, h⟩ := gw_letE h
  refine gw_iast (t0 := 0) (w' := gw_mw cc a S27) B hI gm_g40 rfl (by decide) (gm_s40 e28) dX9_findChainOf_6 (fun H locs hI => ?_)
  refine lv_iconst (v := 0) hx hb dX9_findChainOf_7 (by decide) ?_
  refine lv_istore_n (lv' := [(3, .int (0 : Int32)), (0, .ref (a 0)), (1, .int x1), (2, .int x2)]) hx hb dX9_findChainOf_8 rfl hl (by decide) rfl (fun ls hl => ?_)
  refine lv_iconst (v := 0) hx hb dX9_findChainOf_9 (by decide) ?_
  refine lv_istore (lv' := [(4, .int (0 : Int32)), (3, .int (0 : Int32)), (0, .ref (a 0)), (1, .int x1), (2, .int x2)]) hx hb dX9_findChainOf_10 hl (by decide) rfl (fun ls hl => ?_)
  exact hb12  gw_F x2 (0 : Int32) (0 : Int32) S27 h _ _ _ hI (lv_sub hl [2, 4, 1, 0] rfl)
theorem m_X9_findChain_125 : Cond.fieldLink RX9 125 "GownLetModel" "far" "[I" ∈ wsX9_findChain := by decide +kernel
theorem m_X9_findChain_16 : Cond.fieldLink RX9 16 "GownLetModel" "terms" "[I" ∈ wsX9_findChain := by decide +kernel
theorem ly_X9_findChain_9 : ∀ w ∈ wsX90, w ∈ wsX9_findChain := fun w h => List.mem_cons_of_mem _ (List.mem_append_right _ h)
set_option maxRecDepth 100000 in
set_option maxHeartbeats 4000000 in
theorem k_X9_findChain (x1 : Int32) (S : gw_S) {zr : Int32} {zS : gw_S} (h : f_X9_findChain x1 S = some (zr, zS)) : gw_M l yX9_findChain wsX9_findChain rm_X9_findChain 0 0 D (gw_ty cc) t1 t2 [.ref (a 0), .int x1] (gw_mw cc a S) (fun w => w = gw_mw cc a zS) (some (.int zr)) := by
  refine gw_enter (cc := cX9_findChain) (maxL := 3) (ret := (some .int)) (own := RX9) rfl (by decide) rfl (Nat.le_of_ble_eq_true rfl) ?_
  intro p e s m below meth c A B hin hI ls hl
  have hl : lv_has ls 3 [(0, .ref (a 0)), (1, .int x1)] := hl
  generalize ([.ref (a 0), .int x1] : List Value).toArray = args at B ⊢
  have hx := B.1.1
  have hb := B.1.2.1
  have hown : s.vm.findClass RX9 = some m.cls := B.1.2.2.2.1
  have hts := B.1.2.2.2.2
  have hb44 : ∀ (K10 : Int32 → Int32 → gw_S → Option (Int32 × gw_S)) (_ : ∀ (v1 : Int32) (v2 : Int32) (S : gw_S), K10 v1 v2 S = some (zr, zS) → ∀ (H : Heap) (locs : List Loc) (ls : Array Slot), gw_I D A s.heap (gw_mw cc a S) H locs → lv_has ls 3 [(0, .ref (a 0)), (1, .int v1), (2, .int v2)] → W p l e rm_X9_findChain s m args below meth c H locs 0 0 (MQ below (gw_Q (some (.int zr)) (gw_Pst D A (fun w => w = gw_mw cc a zS)) A) args s 0 0 A) (F0 m 10 ls [])), ∀ (v1 : Int32) (v2 : Int32) (S : gw_S), f_X9_findChain_b44 K10 v1 v2 S = some (zr, zS) → ∀ (H : Heap) (locs : List Loc) (ls : Array Slot), gw_I D A s.heap (gw_mw cc a S) H locs → lv_has ls 3 [(0, .ref (a 0)), (1, .int v1), (2, .int v2)] → W p l e rm_X9_findChain s m args below meth c H locs 0 0 (MQ below (gw_Q (some (.int zr)) (gw_Pst D A (fun w => w = gw_mw cc a zS)) A) args s 0 0 A) (F0 m 44 ls []) := by
    intro K10 hK10
    intro v1 v2 S h H locs ls hI hl
    unfold f_X9_findChain_b44 at h
    obtain ⟨y1, e2, h⟩ := gw_letE h
    refine lv_iinc (v := y1) (lv' := [(2, .int y1), (0, .ref (a 0)), (1, .int v1)]) hx hb dX9_findChain_44 hl (k := 2) rfl (by rw [e2]; rfl) (by decide) rfl (fun ls hl => ?_)
    refine lv_goto (tgt := 10) hx hb dX9_findChain_47 (by decide) ?_
    exact hK10 v1 y1 S h _ _ _ hI (lv_sub hl [1, 2, 0] rfl)
  have hb10 :  ∀ (n : Nat), ∀ (v1 : Int32) (v2 : Int32) (S : gw_S), f_X9_findChain_b10  n v1 v2 S = some (zr, zS) → ∀ (H : Heap) (locs : List Loc) (ls : Array Slot), gw_I D A s.heap (gw_mw cc a S) H locs → lv_has ls 3 [(0, .ref (a 0)), (1, .int v1), (2, .int v2)] → W p l e rm_X9_findChain s m args below meth c H locs 0 0 (MQ below (gw_Q (some (.int zr)) (gw_Pst D A (fun w => w = gw_mw cc a zS)) A) args s 0 0 A) (F0 m 10 ls []) := by
    intro n
    induction n with
    | zero =>
      intro v1 v2 S h
      cases h
    | succ n ih =>
      intro v1 v2 S h H locs ls hI hl
      unfold f_X9_findChain_b10 at h
      refine lv_iload_n hx hb dX9_findChain_10 rfl (lv_at hl 2 rfl) ?_
      refine lv_aload_n hx hb dX9_findChain_11 rfl (lv_at hl 0 rfl) ?_
      refine gw_get (T := TX9) (k := 2) (v := .ref (a 3)) B hI gm_g0 rfl ly_X9_findChain_9 (by decide) m_X9_findChain_16 rfl rfl dX9_findChain_12 ?_
      refine lv_bipush (v := 7) hx hb dX9_findChain_15 (by decide) ?_
      refine gw_iald (t0 := 0) B hI gm_g3 rfl (by decide) dX9_findChain_17 ?_
      refine lv_iconst (v := 1) hx hb dX9_findChain_18 (by decide) ?_
      refine lv_iadd hx hb dX9_findChain_19 ?_
      refine lv_icmp_gt (tgt := 50) hx hb dX9_findChain_20 (by decide) (fun c3 => ?_) (fun c3 => ?_)
      · replace h := gw_ifT c3 h
        refine lv_bipush (v := -4) hx hb dX9_findChain_50 (by decide) ?_
        obtain ⟨h1, h2⟩ := Prod.mk.inj (Option.some.inj h)
        rw [h2] at hI
        rw [← h1]
        exact gw_iret (W' := (fun w => w = gw_mw cc a zS)) B hI rfl (Nat.zero_le _) (Nat.zero_le _) dX9_findChain_52
      · replace h := gw_ifF c3 h
        refine lv_aload_n hx hb dX9_findChain_23 rfl (lv_at hl 0 rfl) ?_
        refine gw_get (T := TX9) (k := 44) (v := .ref (a 39)) B hI gm_g0 rfl ly_X9_findChain_9 (by decide) m_X9_findChain_125 rfl rfl dX9_findChain_24 ?_
        refine lv_iload_n hx hb dX9_findChain_27 rfl (lv_at hl 1 rfl) ?_
        obtain ⟨g4, h⟩ := gw_gdE h
        refine gw_iald (t0 := 0) B hI gm_g39 rfl g4 dX9_findChain_28 ?_
        refine lv_iload_n hx hb dX9_findChain_29 rfl (lv_at hl 2 rfl) ?_
        refine lv_icmp_gt (tgt := 44) hx hb dX9_findChain_30 (by decide) (fun c5 => ?_) (fun c5 => ?_)
        · replace h := gw_ifT c5 h
          exact hb44 (f_X9_findChain_b10  n) ih v1 v2 S h _ _ _ hI (lv_sub hl [0, 1, 2] rfl)
        · replace h := gw_ifF c5 h
          refine lv_aload_n hx hb dX9_findChain_33 rfl (lv_at hl 0 rfl) ?_
          refine lv_iload_n hx hb dX9_findChain_34 rfl (lv_at hl 1 rfl) ?_
          refine lv_iload_n hx hb dX9_findChain_35 rfl (lv_at hl 2 rfl) ?_
          obtain ⟨r6, S7, e8, h⟩ := gw_b2E h
          refine gw_callV (As := [.int v1, .int v2]) (n := 2) B hI (k_X9_findChainOf v1 v2 S e8) gX9_findChain_X9_findChainOf rfl rfl rfl nd_X9_findChainOf ⟨Nat.le_of_ble_eq_true rfl, Nat.le_of_ble_eq_true rfl⟩ gm_g0 rfl rfl rfl hl.1 (Nat.zero_le _) dX9_findChain_36 ⟨Nat.le_of_ble_eq_true rfl, Nat.le_of_ble_eq_true rfl⟩ rfl (fun w' H locs hw hI => ?_)
          subst hw
          refine lv_if_eq (tgt := 44) hx hb dX9_findChain_39 (by decide) (fun c9 => ?_) (fun c9 => ?_)
          · replace h := gw_ifT c9 h
            exact hb44 (f_X9_findChain_b10  n) ih v1 v2 S7 h _ _ _ hI (lv_sub hl [0, 1, 2] rfl)
          · replace h := gw_ifF c9 h
            refine lv_iload_n hx hb dX9_findChain_42 rfl (lv_at hl 2 rfl) ?_
            obtain ⟨h1, h2⟩ := Prod.mk.inj (Option.some.inj h)
            rw [h2] at hI
            rw [← h1]
            exact gw_iret (W' := (fun w => w = gw_mw cc a zS)) B hI rfl (Nat.zero_le _) (Nat.zero_le _) dX9_findChain_43
  unfold f_X9_findChain at h
  refine lv_aload_n hx hb dX9_findChain_0 rfl (lv_at hl 0 rfl) ?_
  obtain ⟨S10, e11, h⟩ := gw_bdE h
  refine gw_callVv (As := []) (n := 0) B hI (k_X9_findLies  S e11) gX9_findChain_X9_findLies rfl rfl rfl nd_X9_findLies ⟨Nat.le_of_ble_eq_true rfl, Nat.le_of_ble_eq_true rfl⟩ gm_g0 rfl rfl rfl hl.1 (Nat.zero_le _) dX9_findChain_1 ⟨Nat.le_of_ble_eq_true rfl, Nat.le_of_ble_eq_true rfl⟩ rfl (fun w' H locs hw hI => ?_)
  subst hw
  refine lv_aload_n hx hb dX9_findChain_4 rfl (lv_at hl 0 rfl) ?_
  obtain ⟨S12, e13, h⟩ := gw_bdE h
  refine gw_callVv (As := []) (n := 0) B hI (k_X9_findFar  S10 e13) gX9_findChain_X9_findFar rfl rfl rfl nd_X9_findFar ⟨Nat.le_of_ble_eq_true rfl, Nat.le_of_ble_eq_true rfl⟩ gm_g0 rfl rfl rfl hl.1 (Nat.zero_le _) dX9_findChain_5 ⟨Nat.le_of_ble_eq_true rfl, Nat.le_of_ble_eq_true rfl⟩ rfl (fun w' H locs hw hI => ?_)
  subst hw
  refine lv_iconst (v := 1) hx hb dX9_findChain_8 (by decide) ?_
  refine lv_istore_n (lv' := [(2, .int (1 : Int32)), (0, .ref (a 0)), (1, .int x1)]) hx hb dX9_findChain_9 rfl hl (by decide) rfl (fun ls hl => ?_)
  exact hb10  gw_F x1 (1 : Int32) S12 h _ _ _ hI (lv_sub hl [1, 2, 0] rfl)
set_option maxRecDepth 100000 in
set_option maxHeartbeats 4000000 in
theorem k_X9_chain (x1 : Int32) (S : gw_S) {zr : Int32} {zS : gw_S} (h : f_X9_chain x1 S = some (zr, zS)) : gw_M l yX9_chain wsX9_chain rm_X9_chain 0 0 D (gw_ty cc) t1 t2 [.ref (a 0), .int x1] (gw_mw cc a S) (fun w => w = gw_mw cc a zS) (some (.int zr)) := by
  refine gw_enter (cc := cX9_chain) (maxL := 2) (ret := (some .int)) (own := RX9) rfl (by decide) rfl (Nat.le_of_ble_eq_true rfl) ?_
  intro p e s m below meth c A B hin hI ls hl
  have hl : lv_has ls 2 [(0, .ref (a 0)), (1, .int x1)] := hl
  generalize ([.ref (a 0), .int x1] : List Value).toArray = args at B ⊢
  have hx := B.1.1
  have hb := B.1.2.1
  have hown : s.vm.findClass RX9 = some m.cls := B.1.2.2.2.1
  have hts := B.1.2.2.2.2
  unfold f_X9_chain at h
  refine lv_aload_n hx hb dX9_chain_0 rfl (lv_at hl 0 rfl) ?_
  refine lv_iload_n hx hb dX9_chain_1 rfl (lv_at hl 1 rfl) ?_
  obtain ⟨r1, e2, h⟩ := gw_bdE h
  refine gw_callV (As := [.int x1]) (n := 1) B hI (k_X9_isThere x1 S e2) gX9_chain_X9_isThere rfl rfl rfl nd_X9_isThere ⟨Nat.le_of_ble_eq_true rfl, Nat.le_of_ble_eq_true rfl⟩ gm_g0 rfl rfl rfl hl.1 (Nat.zero_le _) dX9_chain_2 ⟨Nat.le_of_ble_eq_true rfl, Nat.le_of_ble_eq_true rfl⟩ rfl (fun w' H locs hw hI => ?_)
  subst hw
  refine lv_if_ne (tgt := 12) hx hb dX9_chain_5 (by decide) (fun c3 => ?_) (fun c3 => ?_)
  · replace h := gw_ifF c3 h
    refine lv_aload_n hx hb dX9_chain_12 rfl (lv_at hl 0 rfl) ?_
    refine lv_iload_n hx hb dX9_chain_13 rfl (lv_at hl 1 rfl) ?_
    obtain ⟨r4, e5, h⟩ := gw_bdE h
    refine gw_callV (As := [.int x1]) (n := 1) B hI (k_X9_isOpen x1 S e5) gX9_chain_X9_isOpen rfl rfl rfl nd_X9_isOpen ⟨Nat.le_of_ble_eq_true rfl, Nat.le_of_ble_eq_true rfl⟩ gm_g0 rfl rfl rfl hl.1 (Nat.zero_le _) dX9_chain_14 ⟨Nat.le_of_ble_eq_true rfl, Nat.le_of_ble_eq_true rfl⟩ rfl (fun w' H locs hw hI => ?_)
    subst hw
    refine lv_if_ne (tgt := 25) hx hb dX9_chain_17 (by decide) (fun c6 => ?_) (fun c6 => ?_)
    · replace h := gw_ifF c6 h
      refine lv_aload_n hx hb dX9_chain_25 rfl (lv_at hl 0 rfl) ?_
      refine lv_iload_n hx hb dX9_chain_26 rfl (lv_at hl 1 rfl) ?_
      obtain ⟨r7, S8, e9, h⟩ := gw_b2E h
      refine gw_callV (As := [.int x1]) (n := 1) B hI (k_X9_findChain x1 S e9) gX9_chain_X9_findChain rfl rfl rfl nd_X9_findChain ⟨Nat.le_of_ble_eq_true rfl, Nat.le_of_ble_eq_true rfl⟩ gm_g0 rfl rfl rfl hl.1 (Nat.zero_le _) dX9_chain_27 ⟨Nat.le_of_ble_eq_true rfl, Nat.le_of_ble_eq_true rfl⟩ rfl (fun w' H locs hw hI => ?_)
      subst hw
      obtain ⟨h1, h2⟩ := Prod.mk.inj (Option.some.inj h)
      rw [h2] at hI
      rw [← h1]
      exact gw_iret (W' := (fun w => w = gw_mw cc a zS)) B hI rfl (Nat.zero_le _) (Nat.zero_le _) dX9_chain_30
    · replace h := gw_ifT c6 h
      refine lv_bipush (v := -2) hx hb dX9_chain_20 (by decide) ?_
      refine lv_goto (tgt := 30) hx hb dX9_chain_22 (by decide) ?_
      obtain ⟨h1, h2⟩ := Prod.mk.inj (Option.some.inj h)
      rw [h2] at hI
      rw [← h1]
      exact gw_iret (W' := (fun w => w = gw_mw cc a zS)) B hI rfl (Nat.zero_le _) (Nat.zero_le _) dX9_chain_30
  · replace h := gw_ifT c3 h
    refine lv_iconst (v := -1) hx hb dX9_chain_8 (by decide) ?_
    refine lv_goto (tgt := 30) hx hb dX9_chain_9 (by decide) ?_
    obtain ⟨h1, h2⟩ := Prod.mk.inj (Option.some.inj h)
    rw [h2] at hI
    rw [← h1]
    exact gw_iret (W' := (fun w => w = gw_mw cc a zS)) B hI rfl (Nat.zero_le _) (Nat.zero_le _) dX9_chain_30
theorem m_X9_link_128 : Cond.fieldLink RX9 128 "GownLetModel" "chain" "[I" ∈ wsX9_link := by decide +kernel
theorem m_X9_link_131 : Cond.fieldLink RX9 131 "GownLetModel" "taken" "[I" ∈ wsX9_link := by decide +kernel
theorem ly_X9_link_9 : ∀ w ∈ wsX90, w ∈ wsX9_link := fun w h => List.mem_cons_of_mem _ (List.mem_append_right _ h)
set_option maxRecDepth 100000 in
set_option maxHeartbeats 4000000 in
theorem k_X9_link (x1 : Int32) (x2 : Int32) (x3 : Int32) (S : gw_S) {zr : Int32} {zS : gw_S} (h : f_X9_link x1 x2 x3 S = some (zr, zS)) : gw_M l yX9_link wsX9_link rm_X9_link 0 0 D (gw_ty cc) t1 t2 [.ref (a 0), .int x1, .int x2, .int x3] (gw_mw cc a S) (fun w => w = gw_mw cc a zS) (some (.int zr)) := by
  refine gw_enter (cc := cX9_link) (maxL := 5) (ret := (some .int)) (own := RX9) rfl (by decide) rfl (Nat.le_of_ble_eq_true rfl) ?_
  intro p e s m below meth c A B hin hI ls hl
  have hl : lv_has ls 5 [(0, .ref (a 0)), (1, .int x1), (2, .int x2), (3, .int x3)] := hl
  generalize ([.ref (a 0), .int x1, .int x2, .int x3] : List Value).toArray = args at B ⊢
  have hx := B.1.1
  have hb := B.1.2.1
  have hown : s.vm.findClass RX9 = some m.cls := B.1.2.2.2.1
  have hts := B.1.2.2.2.2
  unfold f_X9_link at h
  refine lv_aload_n hx hb dX9_link_0 rfl (lv_at hl 0 rfl) ?_
  refine lv_iload_n hx hb dX9_link_1 rfl (lv_at hl 1 rfl) ?_
  obtain ⟨r1, e2, h⟩ := gw_bdE h
  refine gw_callV (As := [.int x1]) (n := 1) B hI (k_X9_isThere x1 S e2) gX9_link_X9_isThere rfl rfl rfl nd_X9_isThere ⟨Nat.le_of_ble_eq_true rfl, Nat.le_of_ble_eq_true rfl⟩ gm_g0 rfl rfl rfl hl.1 (Nat.zero_le _) dX9_link_2 ⟨Nat.le_of_ble_eq_true rfl, Nat.le_of_ble_eq_true rfl⟩ rfl (fun w' H locs hw hI => ?_)
  subst hw
  refine lv_if_eq (tgt := 22) hx hb dX9_link_5 (by decide) (fun c3 => ?_) (fun c3 => ?_)
  · replace h := gw_ifT c3 h
    refine lv_iconst (v := -1) hx hb dX9_link_22 (by decide) ?_
    obtain ⟨h1, h2⟩ := Prod.mk.inj (Option.some.inj h)
    rw [h2] at hI
    rw [← h1]
    exact gw_iret (W' := (fun w => w = gw_mw cc a zS)) B hI rfl (Nat.zero_le _) (Nat.zero_le _) dX9_link_23
  · replace h := gw_ifF c3 h
    refine lv_iload_n hx hb dX9_link_8 rfl (lv_at hl 2 rfl) ?_
    refine lv_if_lt (tgt := 22) hx hb dX9_link_9 (by decide) (fun c4 => ?_) (fun c4 => ?_)
    · replace h := gw_ifT c4 h
      refine lv_iconst (v := -1) hx hb dX9_link_22 (by decide) ?_
      obtain ⟨h1, h2⟩ := Prod.mk.inj (Option.some.inj h)
      rw [h2] at hI
      rw [← h1]
      exact gw_iret (W' := (fun w => w = gw_mw cc a zS)) B hI rfl (Nat.zero_le _) (Nat.zero_le _) dX9_link_23
    · replace h := gw_ifF c4 h
      refine lv_iload_n hx hb dX9_link_12 rfl (lv_at hl 3 rfl) ?_
      refine lv_i2l hx hb dX9_link_13 rfl ?_
      refine lv_lconst (v := 0) hx hb dX9_link_14 (by decide) ?_
      refine lv_lconst (v := 1) hx hb dX9_link_15 (by decide) ?_
      obtain ⟨r5, e6, h⟩ := gw_bdE h
      refine gw_callS (As := [.long (x3.toInt64), .long (0 : Int64), .long (1 : Int64)]) (n := 3) B hI (k_X9_in (x3.toInt64) (0 : Int64) (1 : Int64) S e6) gX9_link_X9_in rfl rfl rfl nds_X9_in ⟨Nat.le_of_ble_eq_true rfl, Nat.le_of_ble_eq_true rfl⟩ rfl hl.1 (Nat.zero_le _) dX9_link_16 ⟨Nat.le_of_ble_eq_true rfl, Nat.le_of_ble_eq_true rfl⟩ rfl (fun w' H locs hw hI => ?_)
      subst hw
      refine lv_if_ne (tgt := 24) hx hb dX9_link_19 (by decide) (fun c7 => ?_) (fun c7 => ?_)
      · replace h := gw_ifF c7 h
        refine lv_aload_n hx hb dX9_link_24 rfl (lv_at hl 0 rfl) ?_
        refine lv_iload_n hx hb dX9_link_25 rfl (lv_at hl 1 rfl) ?_
        obtain ⟨r8, e9, h⟩ := gw_bdE h
        refine gw_callV (As := [.int x1]) (n := 1) B hI (k_X9_isOpen x1 S e9) gX9_link_X9_isOpen rfl rfl rfl nd_X9_isOpen ⟨Nat.le_of_ble_eq_true rfl, Nat.le_of_ble_eq_true rfl⟩ gm_g0 rfl rfl rfl hl.1 (Nat.zero_le _) dX9_link_26 ⟨Nat.le_of_ble_eq_true rfl, Nat.le_of_ble_eq_true rfl⟩ rfl (fun w' H locs hw hI => ?_)
        subst hw
        refine lv_if_ne (tgt := 35) hx hb dX9_link_29 (by decide) (fun c10 => ?_) (fun c10 => ?_)
        · replace h := gw_ifF c10 h
          refine lv_aload_n hx hb dX9_link_35 rfl (lv_at hl 0 rfl) ?_
          refine lv_iload_n hx hb dX9_link_36 rfl (lv_at hl 1 rfl) ?_
          obtain ⟨r11, S12, e13, h⟩ := gw_b2E h
          refine gw_callV (As := [.int x1]) (n := 1) B hI (k_X9_findChain x1 S e13) gX9_link_X9_findChain rfl rfl rfl nd_X9_findChain ⟨Nat.le_of_ble_eq_true rfl, Nat.le_of_ble_eq_true rfl⟩ gm_g0 rfl rfl rfl hl.1 (Nat.zero_le _) dX9_link_37 ⟨Nat.le_of_ble_eq_true rfl, Nat.le_of_ble_eq_true rfl⟩ rfl (fun w' H locs hw hI => ?_)
          subst hw
          refine lv_istore (lv' := [(4, .int r11), (0, .ref (a 0)), (1, .int x1), (2, .int x2), (3, .int x3)]) hx hb dX9_link_40 hl (by decide) rfl (fun ls hl => ?_)
          refine lv_iload hx hb dX9_link_42 (lv_at hl 0 rfl) ?_
          refine lv_if_ge (tgt := 52) hx hb dX9_link_44 (by decide) (fun c14 => ?_) (fun c14 => ?_)
          · replace h := gw_ifT c14 h
            refine lv_iload_n hx hb dX9_link_52 rfl (lv_at hl 3 rfl) ?_
            refine lv_iload hx hb dX9_link_53 (lv_at hl 0 rfl) ?_
            refine lv_icmp_lt (tgt := 62) hx hb dX9_link_55 (by decide) (fun c15 => ?_) (fun c15 => ?_)
            · replace h := gw_ifT c15 h
              refine lv_iload_n hx hb dX9_link_62 rfl (lv_at hl 4 rfl) ?_
              refine lv_if_ne (tgt := 75) hx hb dX9_link_63 (by decide) (fun c16 => ?_) (fun c16 => ?_)
              · replace h := gw_ifF c16 h
                refine lv_aload_n hx hb dX9_link_75 rfl (lv_at hl 1 rfl) ?_
                refine gw_get (T := TX9) (k := 46) (v := .ref (a 41)) B hI gm_g0 rfl ly_X9_link_9 (by decide) m_X9_link_131 rfl rfl dX9_link_76 ?_
                refine lv_iload_n hx hb dX9_link_79 rfl (lv_at hl 3 rfl) ?_
                obtain ⟨g17, h⟩ := gw_gdE h
                refine gw_iald (t0 := 0) B hI gm_g41 rfl g17 dX9_link_80 ?_
                obtain ⟨h1, h2⟩ := Prod.mk.inj (Option.some.inj h)
                rw [h2] at hI
                rw [← h1]
                exact gw_iret (W' := (fun w => w = gw_mw cc a zS)) B hI rfl (Nat.zero_le _) (Nat.zero_le _) dX9_link_81
              · replace h := gw_ifT c16 h
                refine lv_aload_n hx hb dX9_link_66 rfl (lv_at hl 1 rfl) ?_
                refine gw_get (T := TX9) (k := 45) (v := .ref (a 40)) B hI gm_g0 rfl ly_X9_link_9 (by decide) m_X9_link_128 rfl rfl dX9_link_67 ?_
                refine lv_iload_n hx hb dX9_link_70 rfl (lv_at hl 3 rfl) ?_
                obtain ⟨g18, h⟩ := gw_gdE h
                refine gw_iald (t0 := 0) B hI gm_g40 rfl g18 dX9_link_71 ?_
                refine lv_goto (tgt := 81) hx hb dX9_link_72 (by decide) ?_
                obtain ⟨h1, h2⟩ := Prod.mk.inj (Option.some.inj h)
                rw [h2] at hI
                rw [← h1]
                exact gw_iret (W' := (fun w => w = gw_mw cc a zS)) B hI rfl (Nat.zero_le _) (Nat.zero_le _) dX9_link_81
            · replace h := gw_ifF c15 h
              refine lv_iconst (v := -1) hx hb dX9_link_58 (by decide) ?_
              refine lv_goto (tgt := 81) hx hb dX9_link_59 (by decide) ?_
              obtain ⟨h1, h2⟩ := Prod.mk.inj (Option.some.inj h)
              rw [h2] at hI
              rw [← h1]
              exact gw_iret (W' := (fun w => w = gw_mw cc a zS)) B hI rfl (Nat.zero_le _) (Nat.zero_le _) dX9_link_81
          · replace h := gw_ifF c14 h
            refine lv_bipush (v := -4) hx hb dX9_link_47 (by decide) ?_
            refine lv_goto (tgt := 81) hx hb dX9_link_49 (by decide) ?_
            obtain ⟨h1, h2⟩ := Prod.mk.inj (Option.some.inj h)
            rw [h2] at hI
            rw [← h1]
            exact gw_iret (W' := (fun w => w = gw_mw cc a zS)) B hI rfl (Nat.zero_le _) (Nat.zero_le _) dX9_link_81
        · replace h := gw_ifT c10 h
          refine lv_bipush (v := -2) hx hb dX9_link_32 (by decide) ?_
          obtain ⟨h1, h2⟩ := Prod.mk.inj (Option.some.inj h)
          rw [h2] at hI
          rw [← h1]
          exact gw_iret (W' := (fun w => w = gw_mw cc a zS)) B hI rfl (Nat.zero_le _) (Nat.zero_le _) dX9_link_34
      · replace h := gw_ifT c7 h
        refine lv_iconst (v := -1) hx hb dX9_link_22 (by decide) ?_
        obtain ⟨h1, h2⟩ := Prod.mk.inj (Option.some.inj h)
        rw [h2] at hI
        rw [← h1]
        exact gw_iret (W' := (fun w => w = gw_mw cc a zS)) B hI rfl (Nat.zero_le _) (Nat.zero_le _) dX9_link_23
theorem m_X9_swap_104 : Cond.fieldLink RX9 104 "GownLetModel" "had" "[I" ∈ wsX9_swap := by decide +kernel
theorem m_X9_swap_128 : Cond.fieldLink RX9 128 "GownLetModel" "chain" "[I" ∈ wsX9_swap := by decide +kernel
theorem m_X9_swap_131 : Cond.fieldLink RX9 131 "GownLetModel" "taken" "[I" ∈ wsX9_swap := by decide +kernel
theorem ly_X9_swap_9 : ∀ w ∈ wsX90, w ∈ wsX9_swap := fun w h => List.mem_cons_of_mem _ (List.mem_append_right _ h)
set_option maxRecDepth 100000 in
set_option maxHeartbeats 4000000 in
theorem k_X9_swap (x1 : Int32) (S : gw_S) {zr : Int32} {zS : gw_S} (h : f_X9_swap x1 S = some (zr, zS)) : gw_M l yX9_swap wsX9_swap rm_X9_swap 0 0 D (gw_ty cc) t1 t2 [.ref (a 0), .int x1] (gw_mw cc a S) (fun w => w = gw_mw cc a zS) (some (.int zr)) := by
  refine gw_enter (cc := cX9_swap) (maxL := 4) (ret := (some .int)) (own := RX9) rfl (by decide) rfl (Nat.le_of_ble_eq_true rfl) ?_
  intro p e s m below meth c A B hin hI ls hl
  have hl : lv_has ls 4 [(0, .ref (a 0)), (1, .int x1)] := hl
  generalize ([.ref (a 0), .int x1] : List Value).toArray = args at B ⊢
  have hx := B.1.1
  have hb := B.1.2.1
  have hown : s.vm.findClass RX9 = some m.cls := B.1.2.2.2.1
  have hts := B.1.2.2.2.2
  have hb29 :  ∀ (n : Nat), ∀ (v2 : Int32) (v3 : Int32) (S : gw_S), f_X9_swap_b29  n v2 v3 S = some (zr, zS) → ∀ (H : Heap) (locs : List Loc) (ls : Array Slot), gw_I D A s.heap (gw_mw cc a S) H locs → lv_has ls 4 [(0, .ref (a 0)), (2, .int v2), (3, .int v3)] → W p l e rm_X9_swap s m args below meth c H locs 0 0 (MQ below (gw_Q (some (.int zr)) (gw_Pst D A (fun w => w = gw_mw cc a zS)) A) args s 0 0 A) (F0 m 29 ls []) := by
    intro n
    induction n with
    | zero =>
      intro v2 v3 S h
      cases h
    | succ n ih =>
      intro v2 v3 S h H locs ls hI hl
      unfold f_X9_swap_b29 at h
      refine lv_iload_n hx hb dX9_swap_29 rfl (lv_at hl 2 rfl) ?_
      refine lv_iload_n hx hb dX9_swap_30 rfl (lv_at hl 1 rfl) ?_
      refine lv_icmp_ge (tgt := 57) hx hb dX9_swap_31 (by decide) (fun c1 => ?_) (fun c1 => ?_)
      · replace h := gw_ifT c1 h
        refine lv_iload_n hx hb dX9_swap_57 rfl (lv_at hl 1 rfl) ?_
        obtain ⟨h1, h2⟩ := Prod.mk.inj (Option.some.inj h)
        rw [h2] at hI
        rw [← h1]
        exact gw_iret (W' := (fun w => w = gw_mw cc a zS)) B hI rfl (Nat.zero_le _) (Nat.zero_le _) dX9_swap_58
      · replace h := gw_ifF c1 h
        refine lv_aload_n hx hb dX9_swap_34 rfl (lv_at hl 0 rfl) ?_
        refine gw_get (T := TX9) (k := 37) (v := .ref (a 32)) B hI gm_g0 rfl ly_X9_swap_9 (by decide) m_X9_swap_104 rfl rfl dX9_swap_35 ?_
        refine lv_aload_n hx hb dX9_swap_38 rfl (lv_at hl 0 rfl) ?_
        refine gw_get (T := TX9) (k := 45) (v := .ref (a 40)) B hI gm_g0 rfl ly_X9_swap_9 (by decide) m_X9_swap_128 rfl rfl dX9_swap_39 ?_
        refine lv_iload_n hx hb dX9_swap_42 rfl (lv_at hl 2 rfl) ?_
        obtain ⟨g2, h⟩ := gw_gdE h
        refine gw_iald (t0 := 0) B hI gm_g40 rfl g2 dX9_swap_43 ?_
        refine lv_aload_n hx hb dX9_swap_44 rfl (lv_at hl 0 rfl) ?_
        refine gw_get (T := TX9) (k := 46) (v := .ref (a 41)) B hI gm_g0 rfl ly_X9_swap_9 (by decide) m_X9_swap_131 rfl rfl dX9_swap_45 ?_
        refine lv_iload_n hx hb dX9_swap_48 rfl (lv_at hl 2 rfl) ?_
        refine gw_iald (t0 := 0) B hI gm_g41 rfl g2 dX9_swap_49 ?_
        obtain ⟨g3, h⟩ := gw_gdE h
        obtain ⟨S4, e5, h⟩ := gw_letE h
        refine gw_iast (t0 := 0) (w' := gw_mw cc a S4) B hI gm_g32 rfl g3 (gm_s32 e5) dX9_swap_50 (fun H locs hI => ?_)
        obtain ⟨y6, e7, h⟩ := gw_letE h
        refine lv_iinc (v := y6) (lv' := [(3, .int y6), (0, .ref (a 0)), (2, .int v2)]) hx hb dX9_swap_51 hl (k := 2) rfl (by rw [e7]; rfl) (by decide) rfl (fun ls hl => ?_)
        refine lv_goto (tgt := 29) hx hb dX9_swap_54 (by decide) ?_
        exact ih v2 y6 S4 h _ _ _ hI (lv_sub hl [1, 2, 0] rfl)
  unfold f_X9_swap at h
  refine lv_aload_n hx hb dX9_swap_0 rfl (lv_at hl 0 rfl) ?_
  refine lv_iload_n hx hb dX9_swap_1 rfl (lv_at hl 1 rfl) ?_
  obtain ⟨r8, e9, h⟩ := gw_bdE h
  refine gw_callV (As := [.int x1]) (n := 1) B hI (k_X9_isThere x1 S e9) gX9_swap_X9_isThere rfl rfl rfl nd_X9_isThere ⟨Nat.le_of_ble_eq_true rfl, Nat.le_of_ble_eq_true rfl⟩ gm_g0 rfl rfl rfl hl.1 (Nat.zero_le _) dX9_swap_2 ⟨Nat.le_of_ble_eq_true rfl, Nat.le_of_ble_eq_true rfl⟩ rfl (fun w' H locs hw hI => ?_)
  subst hw
  refine lv_if_ne (tgt := 10) hx hb dX9_swap_5 (by decide) (fun c10 => ?_) (fun c10 => ?_)
  · replace h := gw_ifF c10 h
    refine lv_aload_n hx hb dX9_swap_10 rfl (lv_at hl 0 rfl) ?_
    refine lv_iload_n hx hb dX9_swap_11 rfl (lv_at hl 1 rfl) ?_
    obtain ⟨r11, e12, h⟩ := gw_bdE h
    refine gw_callV (As := [.int x1]) (n := 1) B hI (k_X9_isOpen x1 S e12) gX9_swap_X9_isOpen rfl rfl rfl nd_X9_isOpen ⟨Nat.le_of_ble_eq_true rfl, Nat.le_of_ble_eq_true rfl⟩ gm_g0 rfl rfl rfl hl.1 (Nat.zero_le _) dX9_swap_12 ⟨Nat.le_of_ble_eq_true rfl, Nat.le_of_ble_eq_true rfl⟩ rfl (fun w' H locs hw hI => ?_)
    subst hw
    refine lv_if_ne (tgt := 21) hx hb dX9_swap_15 (by decide) (fun c13 => ?_) (fun c13 => ?_)
    · replace h := gw_ifF c13 h
      refine lv_aload_n hx hb dX9_swap_21 rfl (lv_at hl 0 rfl) ?_
      refine lv_iload_n hx hb dX9_swap_22 rfl (lv_at hl 1 rfl) ?_
      obtain ⟨r14, S15, e16, h⟩ := gw_b2E h
      refine gw_callV (As := [.int x1]) (n := 1) B hI (k_X9_findChain x1 S e16) gX9_swap_X9_findChain rfl rfl rfl nd_X9_findChain ⟨Nat.le_of_ble_eq_true rfl, Nat.le_of_ble_eq_true rfl⟩ gm_g0 rfl rfl rfl hl.1 (Nat.zero_le _) dX9_swap_23 ⟨Nat.le_of_ble_eq_true rfl, Nat.le_of_ble_eq_true rfl⟩ rfl (fun w' H locs hw hI => ?_)
      subst hw
      refine lv_istore_n (lv' := [(2, .int r14), (0, .ref (a 0)), (1, .int x1)]) hx hb dX9_swap_26 rfl hl (by decide) rfl (fun ls hl => ?_)
      refine lv_iconst (v := 0) hx hb dX9_swap_27 (by decide) ?_
      refine lv_istore_n (lv' := [(3, .int (0 : Int32)), (2, .int r14), (0, .ref (a 0)), (1, .int x1)]) hx hb dX9_swap_28 rfl hl (by decide) rfl (fun ls hl => ?_)
      exact hb29  gw_F r14 (0 : Int32) S15 h _ _ _ hI (lv_sub hl [2, 1, 0] rfl)
    · replace h := gw_ifT c13 h
      refine lv_bipush (v := -2) hx hb dX9_swap_18 (by decide) ?_
      obtain ⟨h1, h2⟩ := Prod.mk.inj (Option.some.inj h)
      rw [h2] at hI
      rw [← h1]
      exact gw_iret (W' := (fun w => w = gw_mw cc a zS)) B hI rfl (Nat.zero_le _) (Nat.zero_le _) dX9_swap_20
  · replace h := gw_ifT c10 h
    refine lv_iconst (v := -1) hx hb dX9_swap_8 (by decide) ?_
    obtain ⟨h1, h2⟩ := Prod.mk.inj (Option.some.inj h)
    rw [h2] at hI
    rw [← h1]
    exact gw_iret (W' := (fun w => w = gw_mw cc a zS)) B hI rfl (Nat.zero_le _) (Nat.zero_le _) dX9_swap_9
theorem m_X9_matchOf_101 : Cond.fieldLink RX9 101 "GownLetModel" "offs" "[I" ∈ wsX9_matchOf := by decide +kernel
theorem m_X9_matchOf_104 : Cond.fieldLink RX9 104 "GownLetModel" "had" "[I" ∈ wsX9_matchOf := by decide +kernel
theorem m_X9_matchOf_134 : Cond.fieldLink RX9 134 "GownLetModel" "hadKept" "[I" ∈ wsX9_matchOf := by decide +kernel
theorem m_X9_matchOf_257 : Cond.fieldLink RX9 257 "GownLetModel" "bookings" "I" ∈ wsX9_matchOf := by decide +kernel
theorem m_X9_matchOf_37 : Cond.fieldLink RX9 37 "GownLetModel" "lots" "[I" ∈ wsX9_matchOf := by decide +kernel
theorem m_X9_matchOf_98 : Cond.fieldLink RX9 98 "GownLetModel" "parties" "[I" ∈ wsX9_matchOf := by decide +kernel
theorem ly_X9_matchOf_9 : ∀ w ∈ wsX90, w ∈ wsX9_matchOf := fun w h => List.mem_cons_of_mem _ (List.mem_append_right _ h)
set_option maxRecDepth 100000 in
set_option maxHeartbeats 4000000 in
theorem k_X9_matchOf (x1 : Int32) (x2 : Int32) (S : gw_S) {zr : Int32} {zS : gw_S} (h : f_X9_matchOf x1 x2 S = some (zr, zS)) : gw_M l yX9_matchOf wsX9_matchOf rm_X9_matchOf 0 0 D (gw_ty cc) t1 t2 [.ref (a 0), .int x1, .int x2] (gw_mw cc a S) (fun w => w = gw_mw cc a zS) (some (.int zr)) := by
  refine gw_enter (cc := cX9_matchOf) (maxL := 6) (ret := (some .int)) (own := RX9) rfl (by decide) rfl (Nat.le_of_ble_eq_true rfl) ?_
  intro p e s m below meth c A B hin hI ls hl
  have hl : lv_has ls 6 [(0, .ref (a 0)), (1, .int x1), (2, .int x2)] := hl
  generalize ([.ref (a 0), .int x1, .int x2] : List Value).toArray = args at B ⊢
  have hx := B.1.1
  have hb := B.1.2.1
  have hown : s.vm.findClass RX9 = some m.cls := B.1.2.2.2.1
  have hts := B.1.2.2.2.2
  have hb143 :  ∀ (n : Nat), ∀ (v3 : Int32) (v4 : Int32) (S : gw_S), f_X9_matchOf_b143  n v3 v4 S = some (zr, zS) → ∀ (H : Heap) (locs : List Loc) (ls : Array Slot), gw_I D A s.heap (gw_mw cc a S) H locs → lv_has ls 6 [(0, .ref (a 0)), (3, .int v3), (4, .int v4)] → W p l e rm_X9_matchOf s m args below meth c H locs 0 0 (MQ below (gw_Q (some (.int zr)) (gw_Pst D A (fun w => w = gw_mw cc a zS)) A) args s 0 0 A) (F0 m 143 ls []) := by
    intro n
    induction n with
    | zero =>
      intro v3 v4 S h
      cases h
    | succ n ih =>
      intro v3 v4 S h H locs ls hI hl
      unfold f_X9_matchOf_b143 at h
      refine lv_iload hx hb dX9_matchOf_143 (lv_at hl 2 rfl) ?_
      refine lv_aload_n hx hb dX9_matchOf_145 rfl (lv_at hl 0 rfl) ?_
      refine gw_get (T := TX9) (k := 29) (v := .int (S 0 29)) B hI gm_g0 rfl ly_X9_matchOf_9 (by decide) m_X9_matchOf_257 rfl rfl dX9_matchOf_146 ?_
      refine lv_icmp_ge (tgt := 172) hx hb dX9_matchOf_149 (by decide) (fun c1 => ?_) (fun c1 => ?_)
      · replace h := gw_ifT c1 h
        refine lv_iload_n hx hb dX9_matchOf_172 rfl (lv_at hl 1 rfl) ?_
        obtain ⟨h1, h2⟩ := Prod.mk.inj (Option.some.inj h)
        rw [h2] at hI
        rw [← h1]
        exact gw_iret (W' := (fun w => w = gw_mw cc a zS)) B hI rfl (Nat.zero_le _) (Nat.zero_le _) dX9_matchOf_173
      · replace h := gw_ifF c1 h
        refine lv_aload_n hx hb dX9_matchOf_152 rfl (lv_at hl 0 rfl) ?_
        refine gw_get (T := TX9) (k := 37) (v := .ref (a 32)) B hI gm_g0 rfl ly_X9_matchOf_9 (by decide) m_X9_matchOf_104 rfl rfl dX9_matchOf_153 ?_
        refine lv_iload hx hb dX9_matchOf_156 (lv_at hl 2 rfl) ?_
        refine lv_aload_n hx hb dX9_matchOf_158 rfl (lv_at hl 0 rfl) ?_
        refine gw_get (T := TX9) (k := 47) (v := .ref (a 42)) B hI gm_g0 rfl ly_X9_matchOf_9 (by decide) m_X9_matchOf_134 rfl rfl dX9_matchOf_159 ?_
        refine lv_iload hx hb dX9_matchOf_162 (lv_at hl 2 rfl) ?_
        obtain ⟨g2, h⟩ := gw_gdE h
        refine gw_iald (t0 := 0) B hI gm_g42 rfl g2 dX9_matchOf_164 ?_
        obtain ⟨S3, e4, h⟩ := gw_letE h
        refine gw_iast (t0 := 0) (w' := gw_mw cc a S3) B hI gm_g32 rfl g2 (gm_s32 e4) dX9_matchOf_165 (fun H locs hI => ?_)
        obtain ⟨y5, e6, h⟩ := gw_letE h
        refine lv_iinc (v := y5) (lv' := [(4, .int y5), (0, .ref (a 0)), (3, .int v3)]) hx hb dX9_matchOf_166 hl (k := 2) rfl (by rw [e6]; rfl) (by decide) rfl (fun ls hl => ?_)
        refine lv_goto (tgt := 143) hx hb dX9_matchOf_169 (by decide) ?_
        exact ih v3 y5 S3 h _ _ _ hI (lv_sub hl [1, 2, 0] rfl)
  have hb134 : ∀ (K33 : Int32 → Int32 → Int32 → Int32 → gw_S → Option (Int32 × gw_S)) (_ : ∀ (v1 : Int32) (v2 : Int32) (v3 : Int32) (v4 : Int32) (S : gw_S), K33 v1 v2 v3 v4 S = some (zr, zS) → ∀ (H : Heap) (locs : List Loc) (ls : Array Slot), gw_I D A s.heap (gw_mw cc a S) H locs → lv_has ls 6 [(0, .ref (a 0)), (1, .int v1), (2, .int v2), (3, .int v3), (4, .int v4)] → W p l e rm_X9_matchOf s m args below meth c H locs 0 0 (MQ below (gw_Q (some (.int zr)) (gw_Pst D A (fun w => w = gw_mw cc a zS)) A) args s 0 0 A) (F0 m 33 ls [])), ∀ (v1 : Int32) (v2 : Int32) (v3 : Int32) (v4 : Int32) (S : gw_S), f_X9_matchOf_b134 K33 v1 v2 v3 v4 S = some (zr, zS) → ∀ (H : Heap) (locs : List Loc) (ls : Array Slot), gw_I D A s.heap (gw_mw cc a S) H locs → lv_has ls 6 [(0, .ref (a 0)), (1, .int v1), (2, .int v2), (3, .int v3), (4, .int v4)] → W p l e rm_X9_matchOf s m args below meth c H locs 0 0 (MQ below (gw_Q (some (.int zr)) (gw_Pst D A (fun w => w = gw_mw cc a zS)) A) args s 0 0 A) (F0 m 134 ls []) := by
    intro K33 hK33
    intro v1 v2 v3 v4 S h H locs ls hI hl
    unfold f_X9_matchOf_b134 at h
    obtain ⟨y7, e8, h⟩ := gw_letE h
    refine lv_iinc (v := y7) (lv' := [(4, .int y7), (0, .ref (a 0)), (1, .int v1), (2, .int v2), (3, .int v3)]) hx hb dX9_matchOf_134 hl (k := 4) rfl (by rw [e8]; rfl) (by decide) rfl (fun ls hl => ?_)
    refine lv_goto (tgt := 33) hx hb dX9_matchOf_137 (by decide) ?_
    exact hK33 v1 v2 v3 y7 S h _ _ _ hI (lv_sub hl [1, 2, 3, 4, 0] rfl)
  have hb132 : ∀ (K33 : Int32 → Int32 → Int32 → Int32 → gw_S → Option (Int32 × gw_S)) (_ : ∀ (v1 : Int32) (v2 : Int32) (v3 : Int32) (v4 : Int32) (S : gw_S), K33 v1 v2 v3 v4 S = some (zr, zS) → ∀ (H : Heap) (locs : List Loc) (ls : Array Slot), gw_I D A s.heap (gw_mw cc a S) H locs → lv_has ls 6 [(0, .ref (a 0)), (1, .int v1), (2, .int v2), (3, .int v3), (4, .int v4)] → W p l e rm_X9_matchOf s m args below meth c H locs 0 0 (MQ below (gw_Q (some (.int zr)) (gw_Pst D A (fun w => w = gw_mw cc a zS)) A) args s 0 0 A) (F0 m 33 ls [])), ∀ (v1 : Int32) (v2 : Int32) (v4 : Int32) (t0_ : Int32) (t1_ : Int32) (S : gw_S), f_X9_matchOf_b132 K33 v1 v2 v4 t0_ t1_ S = some (zr, zS) → ∀ (H : Heap) (locs : List Loc) (ls : Array Slot), gw_I D A s.heap (gw_mw cc a S) H locs → lv_has ls 6 [(0, .ref (a 0)), (1, .int v1), (2, .int v2), (4, .int v4)] → W p l e rm_X9_matchOf s m args below meth c H locs 0 0 (MQ below (gw_Q (some (.int zr)) (gw_Pst D A (fun w => w = gw_mw cc a zS)) A) args s 0 0 A) (F0 m 132 ls [.int t0_, .int t1_]) := by
    intro K33 hK33
    intro v1 v2 v4 t0_ t1_ S h H locs ls hI hl
    unfold f_X9_matchOf_b132 at h
    refine lv_iadd hx hb dX9_matchOf_132 ?_
    obtain ⟨y9, e10, h⟩ := gw_letE h
    rw [← e10]
    refine lv_istore_n (lv' := [(3, .int y9), (0, .ref (a 0)), (1, .int v1), (2, .int v2), (4, .int v4)]) hx hb dX9_matchOf_133 rfl hl (by decide) rfl (fun ls hl => ?_)
    exact hb134 K33 hK33 v1 v2 y9 v4 S h _ _ _ hI (lv_sub hl [1, 2, 3, 0, 4] rfl)
  have hb131 : ∀ (K33 : Int32 → Int32 → Int32 → Int32 → gw_S → Option (Int32 × gw_S)) (_ : ∀ (v1 : Int32) (v2 : Int32) (v3 : Int32) (v4 : Int32) (S : gw_S), K33 v1 v2 v3 v4 S = some (zr, zS) → ∀ (H : Heap) (locs : List Loc) (ls : Array Slot), gw_I D A s.heap (gw_mw cc a S) H locs → lv_has ls 6 [(0, .ref (a 0)), (1, .int v1), (2, .int v2), (3, .int v3), (4, .int v4)] → W p l e rm_X9_matchOf s m args below meth c H locs 0 0 (MQ below (gw_Q (some (.int zr)) (gw_Pst D A (fun w => w = gw_mw cc a zS)) A) args s 0 0 A) (F0 m 33 ls [])), ∀ (v1 : Int32) (v2 : Int32) (v4 : Int32) (t0_ : Int32) (S : gw_S), f_X9_matchOf_b131 K33 v1 v2 v4 t0_ S = some (zr, zS) → ∀ (H : Heap) (locs : List Loc) (ls : Array Slot), gw_I D A s.heap (gw_mw cc a S) H locs → lv_has ls 6 [(0, .ref (a 0)), (1, .int v1), (2, .int v2), (4, .int v4)] → W p l e rm_X9_matchOf s m args below meth c H locs 0 0 (MQ below (gw_Q (some (.int zr)) (gw_Pst D A (fun w => w = gw_mw cc a zS)) A) args s 0 0 A) (F0 m 131 ls [.int t0_]) := by
    intro K33 hK33
    intro v1 v2 v4 t0_ S h H locs ls hI hl
    unfold f_X9_matchOf_b131 at h
    refine lv_iconst (v := 0) hx hb dX9_matchOf_131 (by decide) ?_
    exact hb132 K33 hK33 v1 v2 v4 (0 : Int32) t0_ S h _ _ _ hI (lv_sub hl [0, 1, 2, 3] rfl)
  have hb100 : ∀ (K33 : Int32 → Int32 → Int32 → Int32 → gw_S → Option (Int32 × gw_S)) (_ : ∀ (v1 : Int32) (v2 : Int32) (v3 : Int32) (v4 : Int32) (S : gw_S), K33 v1 v2 v3 v4 S = some (zr, zS) → ∀ (H : Heap) (locs : List Loc) (ls : Array Slot), gw_I D A s.heap (gw_mw cc a S) H locs → lv_has ls 6 [(0, .ref (a 0)), (1, .int v1), (2, .int v2), (3, .int v3), (4, .int v4)] → W p l e rm_X9_matchOf s m args below meth c H locs 0 0 (MQ below (gw_Q (some (.int zr)) (gw_Pst D A (fun w => w = gw_mw cc a zS)) A) args s 0 0 A) (F0 m 33 ls [])), ∀ (v1 : Int32) (v2 : Int32) (v3 : Int32) (v4 : Int32) (S : gw_S), f_X9_matchOf_b100 K33 v1 v2 v3 v4 S = some (zr, zS) → ∀ (H : Heap) (locs : List Loc) (ls : Array Slot), gw_I D A s.heap (gw_mw cc a S) H locs → lv_has ls 6 [(0, .ref (a 0)), (1, .int v1), (2, .int v2), (3, .int v3), (4, .int v4)] → W p l e rm_X9_matchOf s m args below meth c H locs 0 0 (MQ below (gw_Q (some (.int zr)) (gw_Pst D A (fun w => w = gw_mw cc a zS)) A) args s 0 0 A) (F0 m 100 ls []) := by
    intro K33 hK33
    intro v1 v2 v3 v4 S h H locs ls hI hl
    unfold f_X9_matchOf_b100 at h
    refine lv_iload_n hx hb dX9_matchOf_100 rfl (lv_at hl 3 rfl) ?_
    refine lv_aload_n hx hb dX9_matchOf_101 rfl (lv_at hl 0 rfl) ?_
    refine gw_get (T := TX9) (k := 37) (v := .ref (a 32)) B hI gm_g0 rfl ly_X9_matchOf_9 (by decide) m_X9_matchOf_104 rfl rfl dX9_matchOf_102 ?_
    refine lv_iload hx hb dX9_matchOf_105 (lv_at hl 4 rfl) ?_
    obtain ⟨g11, h⟩ := gw_gdE h
    refine gw_iald (t0 := 0) B hI gm_g32 rfl g11 dX9_matchOf_107 ?_
    refine lv_if_lt (tgt := 131) hx hb dX9_matchOf_108 (by decide) (fun c12 => ?_) (fun c12 => ?_)
    · replace h := gw_ifT c12 h
      exact hb131 K33 hK33 v1 v2 v4 v3 S h _ _ _ hI (lv_sub hl [0, 1, 2, 4] rfl)
    · replace h := gw_ifF c12 h
      refine lv_aload_n hx hb dX9_matchOf_111 rfl (lv_at hl 0 rfl) ?_
      refine gw_get (T := TX9) (k := 12) (v := .ref (a 10)) B hI gm_g0 rfl ly_X9_matchOf_9 (by decide) m_X9_matchOf_37 rfl rfl dX9_matchOf_112 ?_
      refine lv_aload_n hx hb dX9_matchOf_115 rfl (lv_at hl 0 rfl) ?_
      refine gw_get (T := TX9) (k := 37) (v := .ref (a 32)) B hI gm_g0 rfl ly_X9_matchOf_9 (by decide) m_X9_matchOf_104 rfl rfl dX9_matchOf_116 ?_
      refine lv_iload hx hb dX9_matchOf_119 (lv_at hl 4 rfl) ?_
      refine gw_iald (t0 := 0) B hI gm_g32 rfl g11 dX9_matchOf_121 ?_
      obtain ⟨g13, h⟩ := gw_gdE h
      refine gw_iald (t0 := 0) B hI gm_g10 rfl g13 dX9_matchOf_122 ?_
      refine lv_iload_n hx hb dX9_matchOf_123 rfl (lv_at hl 2 rfl) ?_
      refine lv_icmp_ne (tgt := 131) hx hb dX9_matchOf_124 (by decide) (fun c14 => ?_) (fun c14 => ?_)
      · replace h := gw_ifF c14 h
        exact hb131 K33 hK33 v1 v2 v4 v3 S h _ _ _ hI (lv_sub hl [0, 1, 2, 4] rfl)
      · replace h := gw_ifT c14 h
        refine lv_iconst (v := 1) hx hb dX9_matchOf_127 (by decide) ?_
        refine lv_goto (tgt := 132) hx hb dX9_matchOf_128 (by decide) ?_
        exact hb132 K33 hK33 v1 v2 v4 (1 : Int32) v3 S h _ _ _ hI (lv_sub hl [0, 1, 2, 4] rfl)
  have hb99 : ∀ (K33 : Int32 → Int32 → Int32 → Int32 → gw_S → Option (Int32 × gw_S)) (_ : ∀ (v1 : Int32) (v2 : Int32) (v3 : Int32) (v4 : Int32) (S : gw_S), K33 v1 v2 v3 v4 S = some (zr, zS) → ∀ (H : Heap) (locs : List Loc) (ls : Array Slot), gw_I D A s.heap (gw_mw cc a S) H locs → lv_has ls 6 [(0, .ref (a 0)), (1, .int v1), (2, .int v2), (3, .int v3), (4, .int v4)] → W p l e rm_X9_matchOf s m args below meth c H locs 0 0 (MQ below (gw_Q (some (.int zr)) (gw_Pst D A (fun w => w = gw_mw cc a zS)) A) args s 0 0 A) (F0 m 33 ls [])), ∀ (v1 : Int32) (v2 : Int32) (v3 : Int32) (v4 : Int32) (t0_ : Int32) (t1_ : Int32) (S : gw_S), f_X9_matchOf_b99 K33 v1 v2 v3 v4 t0_ t1_ S = some (zr, zS) → ∀ (H : Heap) (locs : List Loc) (ls : Array Slot), gw_I D A s.heap (gw_mw cc a S) H locs → lv_has ls 6 [(0, .ref (a 0)), (1, .int v1), (2, .int v2), (3, .int v3), (4, .int v4)] → W p l e rm_X9_matchOf s m args below meth c H locs 0 0 (MQ below (gw_Q (some (.int zr)) (gw_Pst D A (fun w => w = gw_mw cc a zS)) A) args s 0 0 A) (F0 m 99 ls [.int t0_, .int t1_, .ref (a 32)]) := by
    intro K33 hK33
    intro v1 v2 v3 v4 t0_ t1_ S h H locs ls hI hl
    unfold f_X9_matchOf_b99 at h
    obtain ⟨g15, h⟩ := gw_gdE h
    obtain ⟨S16, e17, h⟩ := gw_letE h
    refine gw_iast (t0 := 0) (w' := gw_mw cc a S16) B hI gm_g32 rfl g15 (gm_s32 e17) dX9_matchOf_99 (fun H locs hI => ?_)
    exact hb100 K33 hK33 v1 v2 v3 v4 S16 h _ _ _ hI (lv_sub hl [0, 1, 2, 3, 4] rfl)
  have hb33 :  ∀ (n : Nat), ∀ (v1 : Int32) (v2 : Int32) (v3 : Int32) (v4 : Int32) (S : gw_S), f_X9_matchOf_b33  n v1 v2 v3 v4 S = some (zr, zS) → ∀ (H : Heap) (locs : List Loc) (ls : Array Slot), gw_I D A s.heap (gw_mw cc a S) H locs → lv_has ls 6 [(0, .ref (a 0)), (1, .int v1), (2, .int v2), (3, .int v3), (4, .int v4)] → W p l e rm_X9_matchOf s m args below meth c H locs 0 0 (MQ below (gw_Q (some (.int zr)) (gw_Pst D A (fun w => w = gw_mw cc a zS)) A) args s 0 0 A) (F0 m 33 ls []) := by
    intro n
    induction n with
    | zero =>
      intro v1 v2 v3 v4 S h
      cases h
    | succ n ih =>
      intro v1 v2 v3 v4 S h H locs ls hI hl
      unfold f_X9_matchOf_b33 at h
      refine lv_iload hx hb dX9_matchOf_33 (lv_at hl 4 rfl) ?_
      refine lv_aload_n hx hb dX9_matchOf_35 rfl (lv_at hl 0 rfl) ?_
      refine gw_get (T := TX9) (k := 29) (v := .int (S 0 29)) B hI gm_g0 rfl ly_X9_matchOf_9 (by decide) m_X9_matchOf_257 rfl rfl dX9_matchOf_36 ?_
      refine lv_icmp_ge (tgt := 140) hx hb dX9_matchOf_39 (by decide) (fun c18 => ?_) (fun c18 => ?_)
      · replace h := gw_ifT c18 h
        refine lv_iconst (v := 0) hx hb dX9_matchOf_140 (by decide) ?_
        refine lv_istore (lv' := [(4, .int (0 : Int32)), (0, .ref (a 0)), (1, .int v1), (2, .int v2), (3, .int v3)]) hx hb dX9_matchOf_141 hl (by decide) rfl (fun ls hl => ?_)
        exact hb143  gw_F v3 (0 : Int32) S h _ _ _ hI (lv_sub hl [1, 4, 0] rfl)
      · replace h := gw_ifF c18 h
        refine lv_aload_n hx hb dX9_matchOf_42 rfl (lv_at hl 0 rfl) ?_
        refine gw_get (T := TX9) (k := 35) (v := .ref (a 30)) B hI gm_g0 rfl ly_X9_matchOf_9 (by decide) m_X9_matchOf_98 rfl rfl dX9_matchOf_43 ?_
        refine lv_iload hx hb dX9_matchOf_46 (lv_at hl 4 rfl) ?_
        obtain ⟨g19, h⟩ := gw_gdE h
        refine gw_iald (t0 := 0) B hI gm_g30 rfl g19 dX9_matchOf_48 ?_
        refine lv_iload_n hx hb dX9_matchOf_49 rfl (lv_at hl 1 rfl) ?_
        refine lv_icmp_ne (tgt := 134) hx hb dX9_matchOf_50 (by decide) (fun c20 => ?_) (fun c20 => ?_)
        · replace h := gw_ifF c20 h
          exact hb134 (f_X9_matchOf_b33  n) ih v1 v2 v3 v4 S h _ _ _ hI (lv_sub hl [0, 1, 2, 3, 4] rfl)
        · replace h := gw_ifT c20 h
          refine lv_aload_n hx hb dX9_matchOf_53 rfl (lv_at hl 0 rfl) ?_
          refine gw_get (T := TX9) (k := 36) (v := .ref (a 31)) B hI gm_g0 rfl ly_X9_matchOf_9 (by decide) m_X9_matchOf_101 rfl rfl dX9_matchOf_54 ?_
          refine lv_iload hx hb dX9_matchOf_57 (lv_at hl 4 rfl) ?_
          refine gw_iald (t0 := 0) B hI gm_g31 rfl g19 dX9_matchOf_59 ?_
          refine lv_if_ge (tgt := 134) hx hb dX9_matchOf_60 (by decide) (fun c21 => ?_) (fun c21 => ?_)
          · replace h := gw_ifT c21 h
            exact hb134 (f_X9_matchOf_b33  n) ih v1 v2 v3 v4 S h _ _ _ hI (lv_sub hl [0, 1, 2, 3, 4] rfl)
          · replace h := gw_ifF c21 h
            refine lv_aload_n hx hb dX9_matchOf_63 rfl (lv_at hl 0 rfl) ?_
            refine gw_get (T := TX9) (k := 37) (v := .ref (a 32)) B hI gm_g0 rfl ly_X9_matchOf_9 (by decide) m_X9_matchOf_104 rfl rfl dX9_matchOf_64 ?_
            refine lv_iload hx hb dX9_matchOf_67 (lv_at hl 4 rfl) ?_
            refine gw_iald (t0 := 0) B hI gm_g32 rfl g19 dX9_matchOf_69 ?_
            refine lv_if_ge (tgt := 100) hx hb dX9_matchOf_70 (by decide) (fun c22 => ?_) (fun c22 => ?_)
            · replace h := gw_ifT c22 h
              exact hb100 (f_X9_matchOf_b33  n) ih v1 v2 v3 v4 S h _ _ _ hI (lv_sub hl [0, 1, 2, 3, 4] rfl)
            · replace h := gw_ifF c22 h
              refine lv_aload_n hx hb dX9_matchOf_73 rfl (lv_at hl 0 rfl) ?_
              refine lv_iload hx hb dX9_matchOf_74 (lv_at hl 4 rfl) ?_
              refine lv_iload_n hx hb dX9_matchOf_76 rfl (lv_at hl 2 rfl) ?_
              obtain ⟨r23, e24, h⟩ := gw_bdE h
              refine gw_callV (As := [.int v4, .int v2]) (n := 2) B hI (k_X9_givenOf v4 v2 S e24) gX9_matchOf_X9_givenOf rfl rfl rfl nd_X9_givenOf ⟨Nat.le_of_ble_eq_true rfl, Nat.le_of_ble_eq_true rfl⟩ gm_g0 rfl rfl rfl hl.1 (Nat.zero_le _) dX9_matchOf_77 ⟨Nat.le_of_ble_eq_true rfl, Nat.le_of_ble_eq_true rfl⟩ rfl (fun w' H locs hw hI => ?_)
              subst hw
              refine lv_istore (lv' := [(5, .int r23), (0, .ref (a 0)), (1, .int v1), (2, .int v2), (3, .int v3), (4, .int v4)]) hx hb dX9_matchOf_80 hl (by decide) rfl (fun ls hl => ?_)
              refine lv_aload_n hx hb dX9_matchOf_82 rfl (lv_at hl 1 rfl) ?_
              refine gw_get (T := TX9) (k := 37) (v := .ref (a 32)) B hI gm_g0 rfl ly_X9_matchOf_9 (by decide) m_X9_matchOf_104 rfl rfl dX9_matchOf_83 ?_
              refine lv_iload hx hb dX9_matchOf_86 (lv_at hl 5 rfl) ?_
              refine lv_iload hx hb dX9_matchOf_88 (lv_at hl 0 rfl) ?_
              refine lv_if_ge (tgt := 97) hx hb dX9_matchOf_90 (by decide) (fun c25 => ?_) (fun c25 => ?_)
              · replace h := gw_ifT c25 h
                refine lv_iload hx hb dX9_matchOf_97 (lv_at hl 0 rfl) ?_
                exact hb99 (f_X9_matchOf_b33  n) ih v1 v2 v3 v4 r23 v4 S h _ _ _ hI (lv_sub hl [1, 2, 3, 4, 5] rfl)
              · replace h := gw_ifF c25 h
                refine lv_iconst (v := -1) hx hb dX9_matchOf_93 (by decide) ?_
                refine lv_goto (tgt := 99) hx hb dX9_matchOf_94 (by decide) ?_
                exact hb99 (f_X9_matchOf_b33  n) ih v1 v2 v3 v4 (-1 : Int32) v4 S h _ _ _ hI (lv_sub hl [1, 2, 3, 4, 5] rfl)
  have hb2 :  ∀ (n : Nat), ∀ (v1 : Int32) (v2 : Int32) (v3 : Int32) (S : gw_S), f_X9_matchOf_b2  n v1 v2 v3 S = some (zr, zS) → ∀ (H : Heap) (locs : List Loc) (ls : Array Slot), gw_I D A s.heap (gw_mw cc a S) H locs → lv_has ls 6 [(0, .ref (a 0)), (1, .int v1), (2, .int v2), (3, .int v3)] → W p l e rm_X9_matchOf s m args below meth c H locs 0 0 (MQ below (gw_Q (some (.int zr)) (gw_Pst D A (fun w => w = gw_mw cc a zS)) A) args s 0 0 A) (F0 m 2 ls []) := by
    intro n
    induction n with
    | zero =>
      intro v1 v2 v3 S h
      cases h
    | succ n ih =>
      intro v1 v2 v3 S h H locs ls hI hl
      unfold f_X9_matchOf_b2 at h
      refine lv_iload_n hx hb dX9_matchOf_2 rfl (lv_at hl 3 rfl) ?_
      refine lv_aload_n hx hb dX9_matchOf_3 rfl (lv_at hl 0 rfl) ?_
      refine gw_get (T := TX9) (k := 29) (v := .int (S 0 29)) B hI gm_g0 rfl ly_X9_matchOf_9 (by decide) m_X9_matchOf_257 rfl rfl dX9_matchOf_4 ?_
      refine lv_icmp_ge (tgt := 28) hx hb dX9_matchOf_7 (by decide) (fun c26 => ?_) (fun c26 => ?_)
      · replace h := gw_ifT c26 h
        refine lv_iconst (v := 0) hx hb dX9_matchOf_28 (by decide) ?_
        refine lv_istore_n (lv' := [(3, .int (0 : Int32)), (0, .ref (a 0)), (1, .int v1), (2, .int v2)]) hx hb dX9_matchOf_29 rfl hl (by decide) rfl (fun ls hl => ?_)
        refine lv_iconst (v := 0) hx hb dX9_matchOf_30 (by decide) ?_
        refine lv_istore (lv' := [(4, .int (0 : Int32)), (3, .int (0 : Int32)), (0, .ref (a 0)), (1, .int v1), (2, .int v2)]) hx hb dX9_matchOf_31 hl (by decide) rfl (fun ls hl => ?_)
        exact hb33  gw_F v1 v2 (0 : Int32) (0 : Int32) S h _ _ _ hI (lv_sub hl [2, 3, 4, 1, 0] rfl)
      · replace h := gw_ifF c26 h
        refine lv_aload_n hx hb dX9_matchOf_10 rfl (lv_at hl 0 rfl) ?_
        refine gw_get (T := TX9) (k := 47) (v := .ref (a 42)) B hI gm_g0 rfl ly_X9_matchOf_9 (by decide) m_X9_matchOf_134 rfl rfl dX9_matchOf_11 ?_
        refine lv_iload_n hx hb dX9_matchOf_14 rfl (lv_at hl 3 rfl) ?_
        refine lv_aload_n hx hb dX9_matchOf_15 rfl (lv_at hl 0 rfl) ?_
        refine gw_get (T := TX9) (k := 37) (v := .ref (a 32)) B hI gm_g0 rfl ly_X9_matchOf_9 (by decide) m_X9_matchOf_104 rfl rfl dX9_matchOf_16 ?_
        refine lv_iload_n hx hb dX9_matchOf_19 rfl (lv_at hl 3 rfl) ?_
        obtain ⟨g27, h⟩ := gw_gdE h
        refine gw_iald (t0 := 0) B hI gm_g32 rfl g27 dX9_matchOf_20 ?_
        obtain ⟨S28, e29, h⟩ := gw_letE h
        refine gw_iast (t0 := 0) (w' := gw_mw cc a S28) B hI gm_g42 rfl g27 (gm_s42 e29) dX9_matchOf_21 (fun H locs hI => ?_)
        obtain ⟨y30, e31, h⟩ := gw_letE h
        refine lv_iinc (v := y30) (lv' := [(3, .int y30), (0, .ref (a 0)), (1, .int v1), (2, .int v2)]) hx hb dX9_matchOf_22 hl (k := 3) rfl (by rw [e31]; rfl) (by decide) rfl (fun ls hl => ?_)
        refine lv_goto (tgt := 2) hx hb dX9_matchOf_25 (by decide) ?_
        exact ih v1 v2 y30 S28 h _ _ _ hI (lv_sub hl [1, 2, 3, 0] rfl)
  unfold f_X9_matchOf at h
  refine lv_iconst (v := 0) hx hb dX9_matchOf_0 (by decide) ?_
  refine lv_istore_n (lv' := [(3, .int (0 : Int32)), (0, .ref (a 0)), (1, .int x1), (2, .int x2)]) hx hb dX9_matchOf_1 rfl hl (by decide) rfl (fun ls hl => ?_)
  exact hb2  gw_F x1 x2 (0 : Int32) S h _ _ _ hI (lv_sub hl [1, 2, 3, 0] rfl)
theorem m_X9_match_101 : Cond.fieldLink RX9 101 "GownLetModel" "offs" "[I" ∈ wsX9_match := by decide +kernel
theorem m_X9_match_257 : Cond.fieldLink RX9 257 "GownLetModel" "bookings" "I" ∈ wsX9_match := by decide +kernel
theorem m_X9_match_98 : Cond.fieldLink RX9 98 "GownLetModel" "parties" "[I" ∈ wsX9_match := by decide +kernel
theorem ly_X9_match_9 : ∀ w ∈ wsX90, w ∈ wsX9_match := fun w h => List.mem_cons_of_mem _ (List.mem_append_right _ h)
set_option maxRecDepth 100000 in
set_option maxHeartbeats 4000000 in
theorem k_X9_match (x1 : Int32) (x2 : Int32) (S : gw_S) {zr : Int32} {zS : gw_S} (h : f_X9_match x1 x2 S = some (zr, zS)) : gw_M l yX9_match wsX9_match rm_X9_match 0 0 D (gw_ty cc) t1 t2 [.ref (a 0), .int x1, .int x2] (gw_mw cc a S) (fun w => w = gw_mw cc a zS) (some (.int zr)) := by
  refine gw_enter (cc := cX9_match) (maxL := 8) (ret := (some .int)) (own := RX9) rfl (by decide) rfl (Nat.le_of_ble_eq_true rfl) ?_
  intro p e s m below meth c A B hin hI ls hl
  have hl : lv_has ls 8 [(0, .ref (a 0)), (1, .int x1), (2, .int x2)] := hl
  generalize ([.ref (a 0), .int x1, .int x2] : List Value).toArray = args at B ⊢
  have hx := B.1.1
  have hb := B.1.2.1
  have hown : s.vm.findClass RX9 = some m.cls := B.1.2.2.2.1
  have hts := B.1.2.2.2.2
  have hb126 : ∀ (K95 : Int32 → Int32 → Int32 → Int32 → Int32 → Int32 → gw_S → Option (Int32 × gw_S)) (_ : ∀ (v1 : Int32) (v2 : Int32) (v3 : Int32) (v4 : Int32) (v5 : Int32) (v6 : Int32) (S : gw_S), K95 v1 v2 v3 v4 v5 v6 S = some (zr, zS) → ∀ (H : Heap) (locs : List Loc) (ls : Array Slot), gw_I D A s.heap (gw_mw cc a S) H locs → lv_has ls 8 [(0, .ref (a 0)), (1, .int v1), (2, .int v2), (3, .int v3), (4, .int v4), (5, .int v5), (6, .int v6)] → W p l e rm_X9_match s m args below meth c H locs 0 0 (MQ below (gw_Q (some (.int zr)) (gw_Pst D A (fun w => w = gw_mw cc a zS)) A) args s 0 0 A) (F0 m 95 ls [])), ∀ (v1 : Int32) (v2 : Int32) (v3 : Int32) (v4 : Int32) (v5 : Int32) (v6 : Int32) (S : gw_S), f_X9_match_b126 K95 v1 v2 v3 v4 v5 v6 S = some (zr, zS) → ∀ (H : Heap) (locs : List Loc) (ls : Array Slot), gw_I D A s.heap (gw_mw cc a S) H locs → lv_has ls 8 [(0, .ref (a 0)), (1, .int v1), (2, .int v2), (3, .int v3), (4, .int v4), (5, .int v5), (6, .int v6)] → W p l e rm_X9_match s m args below meth c H locs 0 0 (MQ below (gw_Q (some (.int zr)) (gw_Pst D A (fun w => w = gw_mw cc a zS)) A) args s 0 0 A) (F0 m 126 ls []) := by
    intro K95 hK95
    intro v1 v2 v3 v4 v5 v6 S h H locs ls hI hl
    unfold f_X9_match_b126 at h
    obtain ⟨y1, e2, h⟩ := gw_letE h
    refine lv_iinc (v := y1) (lv' := [(6, .int y1), (0, .ref (a 0)), (1, .int v1), (2, .int v2), (3, .int v3), (4, .int v4), (5, .int v5)]) hx hb dX9_match_126 hl (k := 6) rfl (by rw [e2]; rfl) (by decide) rfl (fun ls hl => ?_)
    refine lv_goto (tgt := 95) hx hb dX9_match_129 (by decide) ?_
    exact hK95 v1 v2 v3 v4 v5 y1 S h _ _ _ hI (lv_sub hl [1, 2, 3, 4, 5, 6, 0] rfl)
  have hb95 :  ∀ (n : Nat), ∀ (v1 : Int32) (v2 : Int32) (v3 : Int32) (v4 : Int32) (v5 : Int32) (v6 : Int32) (S : gw_S), f_X9_match_b95  n v1 v2 v3 v4 v5 v6 S = some (zr, zS) → ∀ (H : Heap) (locs : List Loc) (ls : Array Slot), gw_I D A s.heap (gw_mw cc a S) H locs → lv_has ls 8 [(0, .ref (a 0)), (1, .int v1), (2, .int v2), (3, .int v3), (4, .int v4), (5, .int v5), (6, .int v6)] → W p l e rm_X9_match s m args below meth c H locs 0 0 (MQ below (gw_Q (some (.int zr)) (gw_Pst D A (fun w => w = gw_mw cc a zS)) A) args s 0 0 A) (F0 m 95 ls []) := by
    intro n
    induction n with
    | zero =>
      intro v1 v2 v3 v4 v5 v6 S h
      cases h
    | succ n ih =>
      intro v1 v2 v3 v4 v5 v6 S h H locs ls hI hl
      unfold f_X9_match_b95 at h
      refine lv_iload hx hb dX9_match_95 (lv_at hl 6 rfl) ?_
      refine lv_bipush (v := 10) hx hb dX9_match_97 (by decide) ?_
      refine lv_icmp_ge (tgt := 132) hx hb dX9_match_99 (by decide) (fun c3 => ?_) (fun c3 => ?_)
      · replace h := gw_ifT c3 h
        refine lv_iload_n hx hb dX9_match_132 rfl (lv_at hl 2 rfl) ?_
        refine lv_if_ne (tgt := 141) hx hb dX9_match_133 (by decide) (fun c4 => ?_) (fun c4 => ?_)
        · replace h := gw_ifF c4 h
          refine lv_iload_n hx hb dX9_match_141 rfl (lv_at hl 2 rfl) ?_
          refine lv_iconst (v := 1) hx hb dX9_match_142 (by decide) ?_
          refine lv_icmp_ne (tgt := 151) hx hb dX9_match_143 (by decide) (fun c5 => ?_) (fun c5 => ?_)
          · replace h := gw_ifF c5 h
            refine lv_iload_n hx hb dX9_match_151 rfl (lv_at hl 3 rfl) ?_
            obtain ⟨h1, h2⟩ := Prod.mk.inj (Option.some.inj h)
            rw [h2] at hI
            rw [← h1]
            exact gw_iret (W' := (fun w => w = gw_mw cc a zS)) B hI rfl (Nat.zero_le _) (Nat.zero_le _) dX9_match_152
          · replace h := gw_ifT c5 h
            refine lv_iload hx hb dX9_match_146 (lv_at hl 5 rfl) ?_
            refine lv_goto (tgt := 152) hx hb dX9_match_148 (by decide) ?_
            obtain ⟨h1, h2⟩ := Prod.mk.inj (Option.some.inj h)
            rw [h2] at hI
            rw [← h1]
            exact gw_iret (W' := (fun w => w = gw_mw cc a zS)) B hI rfl (Nat.zero_le _) (Nat.zero_le _) dX9_match_152
        · replace h := gw_ifT c4 h
          refine lv_iload hx hb dX9_match_136 (lv_at hl 4 rfl) ?_
          refine lv_goto (tgt := 152) hx hb dX9_match_138 (by decide) ?_
          obtain ⟨h1, h2⟩ := Prod.mk.inj (Option.some.inj h)
          rw [h2] at hI
          rw [← h1]
          exact gw_iret (W' := (fun w => w = gw_mw cc a zS)) B hI rfl (Nat.zero_le _) (Nat.zero_le _) dX9_match_152
      · replace h := gw_ifF c3 h
        refine lv_aload_n hx hb dX9_match_102 rfl (lv_at hl 0 rfl) ?_
        refine lv_iload_n hx hb dX9_match_103 rfl (lv_at hl 1 rfl) ?_
        refine lv_iload hx hb dX9_match_104 (lv_at hl 6 rfl) ?_
        obtain ⟨r6, S7, e8, h⟩ := gw_b2E h
        refine gw_callV (As := [.int v1, .int v6]) (n := 2) B hI (k_X9_matchOf v1 v6 S e8) gX9_match_X9_matchOf rfl rfl rfl nd_X9_matchOf ⟨Nat.le_of_ble_eq_true rfl, Nat.le_of_ble_eq_true rfl⟩ gm_g0 rfl rfl rfl hl.1 (Nat.zero_le _) dX9_match_106 ⟨Nat.le_of_ble_eq_true rfl, Nat.le_of_ble_eq_true rfl⟩ rfl (fun w' H locs hw hI => ?_)
        subst hw
        refine lv_istore (lv' := [(7, .int r6), (0, .ref (a 0)), (1, .int v1), (2, .int v2), (3, .int v3), (4, .int v4), (5, .int v5), (6, .int v6)]) hx hb dX9_match_109 hl (by decide) rfl (fun ls hl => ?_)
        refine lv_iload hx hb dX9_match_111 (lv_at hl 0 rfl) ?_
        refine lv_iload hx hb dX9_match_113 (lv_at hl 6 rfl) ?_
        refine lv_icmp_le (tgt := 126) hx hb dX9_match_115 (by decide) (fun c9 => ?_) (fun c9 => ?_)
        · replace h := gw_ifT c9 h
          exact hb126 (f_X9_match_b95  n) ih v1 v2 v3 v4 v5 v6 S7 h _ _ _ hI (lv_sub hl [1, 2, 3, 4, 5, 6, 7] rfl)
        · replace h := gw_ifF c9 h
          refine lv_iload hx hb dX9_match_118 (lv_at hl 0 rfl) ?_
          refine lv_istore (lv' := [(5, .int r6), (7, .int r6), (0, .ref (a 0)), (1, .int v1), (2, .int v2), (3, .int v3), (4, .int v4), (6, .int v6)]) hx hb dX9_match_120 hl (by decide) rfl (fun ls hl => ?_)
          refine lv_iload hx hb dX9_match_122 (lv_at hl 7 rfl) ?_
          refine lv_istore (lv' := [(4, .int v6), (5, .int r6), (7, .int r6), (0, .ref (a 0)), (1, .int v1), (2, .int v2), (3, .int v3), (6, .int v6)]) hx hb dX9_match_124 hl (by decide) rfl (fun ls hl => ?_)
          exact hb126 (f_X9_match_b95  n) ih v1 v2 v3 v6 r6 v6 S7 h _ _ _ hI (lv_sub hl [3, 4, 5, 6, 0, 1, 7] rfl)
  have hb67 : ∀ (K31 : Int32 → Int32 → Int32 → Int32 → gw_S → Option (Int32 × gw_S)) (_ : ∀ (v1 : Int32) (v2 : Int32) (v3 : Int32) (v4 : Int32) (S : gw_S), K31 v1 v2 v3 v4 S = some (zr, zS) → ∀ (H : Heap) (locs : List Loc) (ls : Array Slot), gw_I D A s.heap (gw_mw cc a S) H locs → lv_has ls 8 [(0, .ref (a 0)), (1, .int v1), (2, .int v2), (3, .int v3), (4, .int v4)] → W p l e rm_X9_match s m args below meth c H locs 0 0 (MQ below (gw_Q (some (.int zr)) (gw_Pst D A (fun w => w = gw_mw cc a zS)) A) args s 0 0 A) (F0 m 31 ls [])), ∀ (v1 : Int32) (v2 : Int32) (v4 : Int32) (t0_ : Int32) (t1_ : Int32) (S : gw_S), f_X9_match_b67 K31 v1 v2 v4 t0_ t1_ S = some (zr, zS) → ∀ (H : Heap) (locs : List Loc) (ls : Array Slot), gw_I D A s.heap (gw_mw cc a S) H locs → lv_has ls 8 [(0, .ref (a 0)), (1, .int v1), (2, .int v2), (4, .int v4)] → W p l e rm_X9_match s m args below meth c H locs 0 0 (MQ below (gw_Q (some (.int zr)) (gw_Pst D A (fun w => w = gw_mw cc a zS)) A) args s 0 0 A) (F0 m 67 ls [.int t0_, .int t1_]) := by
    intro K31 hK31
    intro v1 v2 v4 t0_ t1_ S h H locs ls hI hl
    unfold f_X9_match_b67 at h
    refine lv_iadd hx hb dX9_match_67 ?_
    obtain ⟨y10, e11, h⟩ := gw_letE h
    rw [← e11]
    refine lv_istore_n (lv' := [(3, .int y10), (0, .ref (a 0)), (1, .int v1), (2, .int v2), (4, .int v4)]) hx hb dX9_match_68 rfl hl (by decide) rfl (fun ls hl => ?_)
    obtain ⟨y12, e13, h⟩ := gw_letE h
    refine lv_iinc (v := y12) (lv' := [(4, .int y12), (3, .int y10), (0, .ref (a 0)), (1, .int v1), (2, .int v2)]) hx hb dX9_match_69 hl (k := 4) rfl (by rw [e13]; rfl) (by decide) rfl (fun ls hl => ?_)
    refine lv_goto (tgt := 31) hx hb dX9_match_72 (by decide) ?_
    exact hK31 v1 v2 y10 y12 S h _ _ _ hI (lv_sub hl [2, 3, 4, 1, 0] rfl)
  have hb66 : ∀ (K31 : Int32 → Int32 → Int32 → Int32 → gw_S → Option (Int32 × gw_S)) (_ : ∀ (v1 : Int32) (v2 : Int32) (v3 : Int32) (v4 : Int32) (S : gw_S), K31 v1 v2 v3 v4 S = some (zr, zS) → ∀ (H : Heap) (locs : List Loc) (ls : Array Slot), gw_I D A s.heap (gw_mw cc a S) H locs → lv_has ls 8 [(0, .ref (a 0)), (1, .int v1), (2, .int v2), (3, .int v3), (4, .int v4)] → W p l e rm_X9_match s m args below meth c H locs 0 0 (MQ below (gw_Q (some (.int zr)) (gw_Pst D A (fun w => w = gw_mw cc a zS)) A) args s 0 0 A) (F0 m 31 ls [])), ∀ (v1 : Int32) (v2 : Int32) (v4 : Int32) (t0_ : Int32) (S : gw_S), f_X9_match_b66 K31 v1 v2 v4 t0_ S = some (zr, zS) → ∀ (H : Heap) (locs : List Loc) (ls : Array Slot), gw_I D A s.heap (gw_mw cc a S) H locs → lv_has ls 8 [(0, .ref (a 0)), (1, .int v1), (2, .int v2), (4, .int v4)] → W p l e rm_X9_match s m args below meth c H locs 0 0 (MQ below (gw_Q (some (.int zr)) (gw_Pst D A (fun w => w = gw_mw cc a zS)) A) args s 0 0 A) (F0 m 66 ls [.int t0_]) := by
    intro K31 hK31
    intro v1 v2 v4 t0_ S h H locs ls hI hl
    unfold f_X9_match_b66 at h
    refine lv_iconst (v := 0) hx hb dX9_match_66 (by decide) ?_
    exact hb67 K31 hK31 v1 v2 v4 (0 : Int32) t0_ S h _ _ _ hI (lv_sub hl [0, 1, 2, 3] rfl)
  have hb31 :  ∀ (n : Nat), ∀ (v1 : Int32) (v2 : Int32) (v3 : Int32) (v4 : Int32) (S : gw_S), f_X9_match_b31  n v1 v2 v3 v4 S = some (zr, zS) → ∀ (H : Heap) (locs : List Loc) (ls : Array Slot), gw_I D A s.heap (gw_mw cc a S) H locs → lv_has ls 8 [(0, .ref (a 0)), (1, .int v1), (2, .int v2), (3, .int v3), (4, .int v4)] → W p l e rm_X9_match s m args below meth c H locs 0 0 (MQ below (gw_Q (some (.int zr)) (gw_Pst D A (fun w => w = gw_mw cc a zS)) A) args s 0 0 A) (F0 m 31 ls []) := by
    intro n
    induction n with
    | zero =>
      intro v1 v2 v3 v4 S h
      cases h
    | succ n ih =>
      intro v1 v2 v3 v4 S h H locs ls hI hl
      unfold f_X9_match_b31 at h
      refine lv_iload hx hb dX9_match_31 (lv_at hl 4 rfl) ?_
      refine lv_aload_n hx hb dX9_match_33 rfl (lv_at hl 0 rfl) ?_
      refine gw_get (T := TX9) (k := 29) (v := .int (S 0 29)) B hI gm_g0 rfl ly_X9_match_9 (by decide) m_X9_match_257 rfl rfl dX9_match_34 ?_
      refine lv_icmp_ge (tgt := 75) hx hb dX9_match_37 (by decide) (fun c14 => ?_) (fun c14 => ?_)
      · replace h := gw_ifT c14 h
        refine lv_iload_n hx hb dX9_match_75 rfl (lv_at hl 3 rfl) ?_
        refine lv_if_ne (tgt := 82) hx hb dX9_match_76 (by decide) (fun c15 => ?_) (fun c15 => ?_)
        · replace h := gw_ifF c15 h
          refine lv_aload_n hx hb dX9_match_82 rfl (lv_at hl 0 rfl) ?_
          obtain ⟨S16, e17, h⟩ := gw_bdE h
          refine gw_callVv (As := []) (n := 0) B hI (k_X9_findLies  S e17) gX9_match_X9_findLies rfl rfl rfl nd_X9_findLies ⟨Nat.le_of_ble_eq_true rfl, Nat.le_of_ble_eq_true rfl⟩ gm_g0 rfl rfl rfl hl.1 (Nat.zero_le _) dX9_match_83 ⟨Nat.le_of_ble_eq_true rfl, Nat.le_of_ble_eq_true rfl⟩ rfl (fun w' H locs hw hI => ?_)
          subst hw
          refine lv_iconst (v := 0) hx hb dX9_match_86 (by decide) ?_
          refine lv_istore (lv' := [(4, .int (0 : Int32)), (0, .ref (a 0)), (1, .int v1), (2, .int v2), (3, .int v3)]) hx hb dX9_match_87 hl (by decide) rfl (fun ls hl => ?_)
          refine lv_iconst (v := -1) hx hb dX9_match_89 (by decide) ?_
          refine lv_istore (lv' := [(5, .int (-1 : Int32)), (4, .int (0 : Int32)), (0, .ref (a 0)), (1, .int v1), (2, .int v2), (3, .int v3)]) hx hb dX9_match_90 hl (by decide) rfl (fun ls hl => ?_)
          refine lv_iconst (v := 0) hx hb dX9_match_92 (by decide) ?_
          refine lv_istore (lv' := [(6, .int (0 : Int32)), (5, .int (-1 : Int32)), (4, .int (0 : Int32)), (0, .ref (a 0)), (1, .int v1), (2, .int v2), (3, .int v3)]) hx hb dX9_match_93 hl (by decide) rfl (fun ls hl => ?_)
          exact hb95  gw_F v1 v2 v3 (0 : Int32) (-1 : Int32) (0 : Int32) S16 h _ _ _ hI (lv_sub hl [3, 4, 5, 6, 2, 1, 0] rfl)
        · replace h := gw_ifT c15 h
          refine lv_bipush (v := -4) hx hb dX9_match_79 (by decide) ?_
          obtain ⟨h1, h2⟩ := Prod.mk.inj (Option.some.inj h)
          rw [h2] at hI
          rw [← h1]
          exact gw_iret (W' := (fun w => w = gw_mw cc a zS)) B hI rfl (Nat.zero_le _) (Nat.zero_le _) dX9_match_81
      · replace h := gw_ifF c14 h
        refine lv_iload_n hx hb dX9_match_40 rfl (lv_at hl 3 rfl) ?_
        refine lv_aload_n hx hb dX9_match_41 rfl (lv_at hl 0 rfl) ?_
        refine gw_get (T := TX9) (k := 35) (v := .ref (a 30)) B hI gm_g0 rfl ly_X9_match_9 (by decide) m_X9_match_98 rfl rfl dX9_match_42 ?_
        refine lv_iload hx hb dX9_match_45 (lv_at hl 4 rfl) ?_
        obtain ⟨g18, h⟩ := gw_gdE h
        refine gw_iald (t0 := 0) B hI gm_g30 rfl g18 dX9_match_47 ?_
        refine lv_iload_n hx hb dX9_match_48 rfl (lv_at hl 1 rfl) ?_
        refine lv_icmp_ne (tgt := 66) hx hb dX9_match_49 (by decide) (fun c19 => ?_) (fun c19 => ?_)
        · replace h := gw_ifF c19 h
          exact hb66 (f_X9_match_b31  n) ih v1 v2 v4 v3 S h _ _ _ hI (lv_sub hl [0, 1, 2, 4] rfl)
        · replace h := gw_ifT c19 h
          refine lv_aload_n hx hb dX9_match_52 rfl (lv_at hl 0 rfl) ?_
          refine gw_get (T := TX9) (k := 36) (v := .ref (a 31)) B hI gm_g0 rfl ly_X9_match_9 (by decide) m_X9_match_101 rfl rfl dX9_match_53 ?_
          refine lv_iload hx hb dX9_match_56 (lv_at hl 4 rfl) ?_
          refine gw_iald (t0 := 0) B hI gm_g31 rfl g18 dX9_match_58 ?_
          refine lv_if_ge (tgt := 66) hx hb dX9_match_59 (by decide) (fun c20 => ?_) (fun c20 => ?_)
          · replace h := gw_ifT c20 h
            exact hb66 (f_X9_match_b31  n) ih v1 v2 v4 v3 S h _ _ _ hI (lv_sub hl [0, 1, 2, 4] rfl)
          · replace h := gw_ifF c20 h
            refine lv_iconst (v := 1) hx hb dX9_match_62 (by decide) ?_
            refine lv_goto (tgt := 67) hx hb dX9_match_63 (by decide) ?_
            exact hb67 (f_X9_match_b31  n) ih v1 v2 v4 (1 : Int32) v3 S h _ _ _ hI (lv_sub hl [0, 1, 2, 4] rfl)
  unfold f_X9_match at h
  refine lv_iload_n hx hb dX9_match_0 rfl (lv_at hl 1 rfl) ?_
  refine lv_i2l hx hb dX9_match_1 rfl ?_
  refine lv_lconst (v := 0) hx hb dX9_match_2 (by decide) ?_
  refine lv_ldc2 (v := 4) hx hb hown (hts (.constantLong RX9 255 (4)) (by decide +kernel)) dX9_match_3 ?_
  obtain ⟨r21, e22, h⟩ := gw_bdE h
  refine gw_callS (As := [.long (x1.toInt64), .long (0 : Int64), .long (4 : Int64)]) (n := 3) B hI (k_X9_in (x1.toInt64) (0 : Int64) (4 : Int64) S e22) gX9_match_X9_in rfl rfl rfl nds_X9_in ⟨Nat.le_of_ble_eq_true rfl, Nat.le_of_ble_eq_true rfl⟩ rfl hl.1 (Nat.zero_le _) dX9_match_6 ⟨Nat.le_of_ble_eq_true rfl, Nat.le_of_ble_eq_true rfl⟩ rfl (fun w' H locs hw hI => ?_)
  subst hw
  refine lv_if_eq (tgt := 24) hx hb dX9_match_9 (by decide) (fun c23 => ?_) (fun c23 => ?_)
  · replace h := gw_ifT c23 h
    refine lv_iconst (v := -1) hx hb dX9_match_24 (by decide) ?_
    obtain ⟨h1, h2⟩ := Prod.mk.inj (Option.some.inj h)
    rw [h2] at hI
    rw [← h1]
    exact gw_iret (W' := (fun w => w = gw_mw cc a zS)) B hI rfl (Nat.zero_le _) (Nat.zero_le _) dX9_match_25
  · replace h := gw_ifF c23 h
    refine lv_iload_n hx hb dX9_match_12 rfl (lv_at hl 2 rfl) ?_
    refine lv_i2l hx hb dX9_match_13 rfl ?_
    refine lv_lconst (v := 0) hx hb dX9_match_14 (by decide) ?_
    refine lv_ldc2 (v := 2) hx hb hown (hts (.constantLong RX9 241 (2)) (by decide +kernel)) dX9_match_15 ?_
    obtain ⟨r24, e25, h⟩ := gw_bdE h
    refine gw_callS (As := [.long (x2.toInt64), .long (0 : Int64), .long (2 : Int64)]) (n := 3) B hI (k_X9_in (x2.toInt64) (0 : Int64) (2 : Int64) S e25) gX9_match_X9_in rfl rfl rfl nds_X9_in ⟨Nat.le_of_ble_eq_true rfl, Nat.le_of_ble_eq_true rfl⟩ rfl hl.1 (Nat.zero_le _) dX9_match_18 ⟨Nat.le_of_ble_eq_true rfl, Nat.le_of_ble_eq_true rfl⟩ rfl (fun w' H locs hw hI => ?_)
    subst hw
    refine lv_if_ne (tgt := 26) hx hb dX9_match_21 (by decide) (fun c26 => ?_) (fun c26 => ?_)
    · replace h := gw_ifF c26 h
      refine lv_iconst (v := 0) hx hb dX9_match_26 (by decide) ?_
      refine lv_istore_n (lv' := [(3, .int (0 : Int32)), (0, .ref (a 0)), (1, .int x1), (2, .int x2)]) hx hb dX9_match_27 rfl hl (by decide) rfl (fun ls hl => ?_)
      refine lv_iconst (v := 0) hx hb dX9_match_28 (by decide) ?_
      refine lv_istore (lv' := [(4, .int (0 : Int32)), (3, .int (0 : Int32)), (0, .ref (a 0)), (1, .int x1), (2, .int x2)]) hx hb dX9_match_29 hl (by decide) rfl (fun ls hl => ?_)
      exact hb31  gw_F x1 x2 (0 : Int32) (0 : Int32) S h _ _ _ hI (lv_sub hl [2, 3, 4, 1, 0] rfl)
    · replace h := gw_ifT c26 h
      refine lv_iconst (v := -1) hx hb dX9_match_24 (by decide) ?_
      obtain ⟨h1, h2⟩ := Prod.mk.inj (Option.some.inj h)
      rw [h2] at hI
      rw [← h1]
      exact gw_iret (W' := (fun w => w = gw_mw cc a zS)) B hI rfl (Nat.zero_le _) (Nat.zero_le _) dX9_match_25
theorem m_X9_asOf_101 : Cond.fieldLink RX9 101 "GownLetModel" "offs" "[I" ∈ wsX9_asOf := by decide +kernel
theorem m_X9_asOf_257 : Cond.fieldLink RX9 257 "GownLetModel" "bookings" "I" ∈ wsX9_asOf := by decide +kernel
theorem m_X9_asOf_89 : Cond.fieldLink RX9 89 "GownLetModel" "nights" "[I" ∈ wsX9_asOf := by decide +kernel
theorem m_X9_asOf_95 : Cond.fieldLink RX9 95 "GownLetModel" "made" "[I" ∈ wsX9_asOf := by decide +kernel
theorem ly_X9_asOf_9 : ∀ w ∈ wsX90, w ∈ wsX9_asOf := fun w h => List.mem_cons_of_mem _ (List.mem_append_right _ h)
set_option maxRecDepth 100000 in
set_option maxHeartbeats 4000000 in
theorem k_X9_asOf (x1 : Int32) (x2 : Int32) (x3 : Int32) (x4 : Int32) (S : gw_S) {zr : Int32} (h : f_X9_asOf x1 x2 x3 x4 S = some zr) : gw_M l yX9_asOf wsX9_asOf rm_X9_asOf 0 0 D (gw_ty cc) t1 t2 [.ref (a 0), .int x1, .int x2, .int x3, .int x4] (gw_mw cc a S) (fun w => w = gw_mw cc a S) (some (.int zr)) := by
  refine gw_enter (cc := cX9_asOf) (maxL := 8) (ret := (some .int)) (own := RX9) rfl (by decide) rfl (Nat.le_of_ble_eq_true rfl) ?_
  intro p e s m below meth c A B hin hI ls hl
  have hl : lv_has ls 8 [(0, .ref (a 0)), (1, .int x1), (2, .int x2), (3, .int x3), (4, .int x4)] := hl
  generalize ([.ref (a 0), .int x1, .int x2, .int x3, .int x4] : List Value).toArray = args at B ⊢
  have hx := B.1.1
  have hb := B.1.2.1
  have hown : s.vm.findClass RX9 = some m.cls := B.1.2.2.2.1
  have hts := B.1.2.2.2.2
  have hb113 : ∀ (K30 : Int32 → Int32 → Int32 → Int32 → Int32 → Int32 → Option (Int32)) (_ : ∀ (v1 : Int32) (v2 : Int32) (v3 : Int32) (v4 : Int32) (v5 : Int32) (v6 : Int32), K30 v1 v2 v3 v4 v5 v6 = some zr → ∀ (H : Heap) (locs : List Loc) (ls : Array Slot), gw_I D A s.heap (gw_mw cc a S) H locs → lv_has ls 8 [(0, .ref (a 0)), (1, .int v1), (2, .int v2), (3, .int v3), (4, .int v4), (5, .int v5), (6, .int v6)] → W p l e rm_X9_asOf s m args below meth c H locs 0 0 (MQ below (gw_Q (some (.int zr)) (gw_Pst D A (fun w => w = gw_mw cc a S)) A) args s 0 0 A) (F0 m 30 ls [])), ∀ (v1 : Int32) (v2 : Int32) (v3 : Int32) (v4 : Int32) (v6 : Int32) (t0_ : Int32) (t1_ : Int32), f_X9_asOf_b113 S K30 v1 v2 v3 v4 v6 t0_ t1_ = some zr → ∀ (H : Heap) (locs : List Loc) (ls : Array Slot), gw_I D A s.heap (gw_mw cc a S) H locs → lv_has ls 8 [(0, .ref (a 0)), (1, .int v1), (2, .int v2), (3, .int v3), (4, .int v4), (6, .int v6)] → W p l e rm_X9_asOf s m args below meth c H locs 0 0 (MQ below (gw_Q (some (.int zr)) (gw_Pst D A (fun w => w = gw_mw cc a S)) A) args s 0 0 A) (F0 m 113 ls [.int t0_, .int t1_]) := by
    intro K30 hK30
    intro v1 v2 v3 v4 v6 t0_ t1_ h H locs ls hI hl
    unfold f_X9_asOf_b113 at h
    refine lv_iadd hx hb dX9_asOf_113 ?_
    obtain ⟨y1, e2, h⟩ := gw_letE h
    rw [← e2]
    refine lv_istore (lv' := [(5, .int y1), (0, .ref (a 0)), (1, .int v1), (2, .int v2), (3, .int v3), (4, .int v4), (6, .int v6)]) hx hb dX9_asOf_114 hl (by decide) rfl (fun ls hl => ?_)
    obtain ⟨y3, e4, h⟩ := gw_letE h
    refine lv_iinc (v := y3) (lv' := [(6, .int y3), (5, .int y1), (0, .ref (a 0)), (1, .int v1), (2, .int v2), (3, .int v3), (4, .int v4)]) hx hb dX9_asOf_116 hl (k := 6) rfl (by rw [e4]; rfl) (by decide) rfl (fun ls hl => ?_)
    refine lv_goto (tgt := 30) hx hb dX9_asOf_119 (by decide) ?_
    exact hK30 v1 v2 v3 v4 y1 y3 h _ _ _ hI (lv_sub hl [2, 3, 4, 5, 6, 1, 0] rfl)
  have hb112 : ∀ (K30 : Int32 → Int32 → Int32 → Int32 → Int32 → Int32 → Option (Int32)) (_ : ∀ (v1 : Int32) (v2 : Int32) (v3 : Int32) (v4 : Int32) (v5 : Int32) (v6 : Int32), K30 v1 v2 v3 v4 v5 v6 = some zr → ∀ (H : Heap) (locs : List Loc) (ls : Array Slot), gw_I D A s.heap (gw_mw cc a S) H locs → lv_has ls 8 [(0, .ref (a 0)), (1, .int v1), (2, .int v2), (3, .int v3), (4, .int v4), (5, .int v5), (6, .int v6)] → W p l e rm_X9_asOf s m args below meth c H locs 0 0 (MQ below (gw_Q (some (.int zr)) (gw_Pst D A (fun w => w = gw_mw cc a S)) A) args s 0 0 A) (F0 m 30 ls [])), ∀ (v1 : Int32) (v2 : Int32) (v3 : Int32) (v4 : Int32) (v6 : Int32) (t0_ : Int32), f_X9_asOf_b112 S K30 v1 v2 v3 v4 v6 t0_ = some zr → ∀ (H : Heap) (locs : List Loc) (ls : Array Slot), gw_I D A s.heap (gw_mw cc a S) H locs → lv_has ls 8 [(0, .ref (a 0)), (1, .int v1), (2, .int v2), (3, .int v3), (4, .int v4), (6, .int v6)] → W p l e rm_X9_asOf s m args below meth c H locs 0 0 (MQ below (gw_Q (some (.int zr)) (gw_Pst D A (fun w => w = gw_mw cc a S)) A) args s 0 0 A) (F0 m 112 ls [.int t0_]) := by
    intro K30 hK30
    intro v1 v2 v3 v4 v6 t0_ h H locs ls hI hl
    unfold f_X9_asOf_b112 at h
    refine lv_iconst (v := 0) hx hb dX9_asOf_112 (by decide) ?_
    exact hb113 K30 hK30 v1 v2 v3 v4 v6 (0 : Int32) t0_ h _ _ _ hI (lv_sub hl [0, 1, 2, 3, 4, 5] rfl)
  have hb108 : ∀ (K30 : Int32 → Int32 → Int32 → Int32 → Int32 → Int32 → Option (Int32)) (_ : ∀ (v1 : Int32) (v2 : Int32) (v3 : Int32) (v4 : Int32) (v5 : Int32) (v6 : Int32), K30 v1 v2 v3 v4 v5 v6 = some zr → ∀ (H : Heap) (locs : List Loc) (ls : Array Slot), gw_I D A s.heap (gw_mw cc a S) H locs → lv_has ls 8 [(0, .ref (a 0)), (1, .int v1), (2, .int v2), (3, .int v3), (4, .int v4), (5, .int v5), (6, .int v6)] → W p l e rm_X9_asOf s m args below meth c H locs 0 0 (MQ below (gw_Q (some (.int zr)) (gw_Pst D A (fun w => w = gw_mw cc a S)) A) args s 0 0 A) (F0 m 30 ls [])), ∀ (v1 : Int32) (v2 : Int32) (v3 : Int32) (v4 : Int32) (v6 : Int32) (t0_ : Int32), f_X9_asOf_b108 S K30 v1 v2 v3 v4 v6 t0_ = some zr → ∀ (H : Heap) (locs : List Loc) (ls : Array Slot), gw_I D A s.heap (gw_mw cc a S) H locs → lv_has ls 8 [(0, .ref (a 0)), (1, .int v1), (2, .int v2), (3, .int v3), (4, .int v4), (6, .int v6)] → W p l e rm_X9_asOf s m args below meth c H locs 0 0 (MQ below (gw_Q (some (.int zr)) (gw_Pst D A (fun w => w = gw_mw cc a S)) A) args s 0 0 A) (F0 m 108 ls [.int t0_]) := by
    intro K30 hK30
    intro v1 v2 v3 v4 v6 t0_ h H locs ls hI hl
    unfold f_X9_asOf_b108 at h
    refine lv_iconst (v := 1) hx hb dX9_asOf_108 (by decide) ?_
    refine lv_goto (tgt := 113) hx hb dX9_asOf_109 (by decide) ?_
    exact hb113 K30 hK30 v1 v2 v3 v4 v6 (1 : Int32) t0_ h _ _ _ hI (lv_sub hl [0, 1, 2, 3, 4, 5] rfl)
  have hb76 : ∀ (K30 : Int32 → Int32 → Int32 → Int32 → Int32 → Int32 → Option (Int32)) (_ : ∀ (v1 : Int32) (v2 : Int32) (v3 : Int32) (v4 : Int32) (v5 : Int32) (v6 : Int32), K30 v1 v2 v3 v4 v5 v6 = some zr → ∀ (H : Heap) (locs : List Loc) (ls : Array Slot), gw_I D A s.heap (gw_mw cc a S) H locs → lv_has ls 8 [(0, .ref (a 0)), (1, .int v1), (2, .int v2), (3, .int v3), (4, .int v4), (5, .int v5), (6, .int v6)] → W p l e rm_X9_asOf s m args below meth c H locs 0 0 (MQ below (gw_Q (some (.int zr)) (gw_Pst D A (fun w => w = gw_mw cc a S)) A) args s 0 0 A) (F0 m 30 ls [])), ∀ (v1 : Int32) (v2 : Int32) (v3 : Int32) (v4 : Int32) (v5 : Int32) (v6 : Int32) (t0_ : Int32), f_X9_asOf_b76 S K30 v1 v2 v3 v4 v5 v6 t0_ = some zr → ∀ (H : Heap) (locs : List Loc) (ls : Array Slot), gw_I D A s.heap (gw_mw cc a S) H locs → lv_has ls 8 [(0, .ref (a 0)), (1, .int v1), (2, .int v2), (3, .int v3), (4, .int v4), (5, .int v5), (6, .int v6)] → W p l e rm_X9_asOf s m args below meth c H locs 0 0 (MQ below (gw_Q (some (.int zr)) (gw_Pst D A (fun w => w = gw_mw cc a S)) A) args s 0 0 A) (F0 m 76 ls [.int t0_]) := by
    intro K30 hK30
    intro v1 v2 v3 v4 v5 v6 t0_ h H locs ls hI hl
    unfold f_X9_asOf_b76 at h
    refine lv_istore (lv' := [(7, .int t0_), (0, .ref (a 0)), (1, .int v1), (2, .int v2), (3, .int v3), (4, .int v4), (5, .int v5), (6, .int v6)]) hx hb dX9_asOf_76 hl (by decide) rfl (fun ls hl => ?_)
    refine lv_iload hx hb dX9_asOf_78 (lv_at hl 6 rfl) ?_
    refine lv_iload hx hb dX9_asOf_80 (lv_at hl 0 rfl) ?_
    refine lv_if_eq (tgt := 112) hx hb dX9_asOf_82 (by decide) (fun c5 => ?_) (fun c5 => ?_)
    · replace h := gw_ifT c5 h
      exact hb112 K30 hK30 v1 v2 v3 v4 v6 v5 h _ _ _ hI (lv_sub hl [1, 2, 3, 4, 5, 7] rfl)
    · replace h := gw_ifF c5 h
      refine lv_iload_n hx hb dX9_asOf_85 rfl (lv_at hl 3 rfl) ?_
      refine lv_if_eq (tgt := 108) hx hb dX9_asOf_86 (by decide) (fun c6 => ?_) (fun c6 => ?_)
      · replace h := gw_ifT c6 h
        exact hb108 K30 hK30 v1 v2 v3 v4 v6 v5 h _ _ _ hI (lv_sub hl [1, 2, 3, 4, 5, 7] rfl)
      · replace h := gw_ifF c6 h
        refine lv_aload_n hx hb dX9_asOf_89 rfl (lv_at hl 1 rfl) ?_
        refine gw_get (T := TX9) (k := 32) (v := .ref (a 27)) B hI gm_g0 rfl ly_X9_asOf_9 (by decide) m_X9_asOf_89 rfl rfl dX9_asOf_90 ?_
        refine lv_iload hx hb dX9_asOf_93 (lv_at hl 7 rfl) ?_
        obtain ⟨g7, h⟩ := gw_gdE h
        refine gw_iald (t0 := 0) B hI gm_g27 rfl g7 dX9_asOf_95 ?_
        refine lv_i2l hx hb dX9_asOf_96 rfl ?_
        refine lv_iload_n hx hb dX9_asOf_97 rfl (lv_at hl 4 rfl) ?_
        refine lv_i2l hx hb dX9_asOf_98 rfl ?_
        refine lv_iload hx hb dX9_asOf_99 (lv_at hl 5 rfl) ?_
        refine lv_i2l hx hb dX9_asOf_101 rfl ?_
        obtain ⟨r8, e9, h⟩ := gw_bdE h
        refine gw_callS (As := [.long ((S 27 v6.toNatClampNeg).toInt64), .long (v3.toInt64), .long (v4.toInt64)]) (n := 3) B hI (k_X9_in ((S 27 v6.toNatClampNeg).toInt64) (v3.toInt64) (v4.toInt64) S e9) gX9_asOf_X9_in rfl rfl rfl nds_X9_in ⟨Nat.le_of_ble_eq_true rfl, Nat.le_of_ble_eq_true rfl⟩ rfl hl.1 (by simp [gw_catq, gw_cI, gw_cR, gw_cL]) dX9_asOf_102 ⟨Nat.le_of_ble_eq_true rfl, Nat.le_of_ble_eq_true rfl⟩ rfl (fun w' H locs hw hI => ?_)
        subst hw
        refine lv_if_eq (tgt := 112) hx hb dX9_asOf_105 (by decide) (fun c10 => ?_) (fun c10 => ?_)
        · replace h := gw_ifT c10 h
          exact hb112 K30 hK30 v1 v2 v3 v4 v6 v5 h _ _ _ hI (lv_sub hl [1, 2, 3, 4, 5, 7] rfl)
        · replace h := gw_ifF c10 h
          exact hb108 K30 hK30 v1 v2 v3 v4 v6 v5 h _ _ _ hI (lv_sub hl [1, 2, 3, 4, 5, 7] rfl)
  have hb75 : ∀ (K30 : Int32 → Int32 → Int32 → Int32 → Int32 → Int32 → Option (Int32)) (_ : ∀ (v1 : Int32) (v2 : Int32) (v3 : Int32) (v4 : Int32) (v5 : Int32) (v6 : Int32), K30 v1 v2 v3 v4 v5 v6 = some zr → ∀ (H : Heap) (locs : List Loc) (ls : Array Slot), gw_I D A s.heap (gw_mw cc a S) H locs → lv_has ls 8 [(0, .ref (a 0)), (1, .int v1), (2, .int v2), (3, .int v3), (4, .int v4), (5, .int v5), (6, .int v6)] → W p l e rm_X9_asOf s m args below meth c H locs 0 0 (MQ below (gw_Q (some (.int zr)) (gw_Pst D A (fun w => w = gw_mw cc a S)) A) args s 0 0 A) (F0 m 30 ls [])), ∀ (v1 : Int32) (v2 : Int32) (v3 : Int32) (v4 : Int32) (v5 : Int32) (v6 : Int32), f_X9_asOf_b75 S K30 v1 v2 v3 v4 v5 v6 = some zr → ∀ (H : Heap) (locs : List Loc) (ls : Array Slot), gw_I D A s.heap (gw_mw cc a S) H locs → lv_has ls 8 [(0, .ref (a 0)), (1, .int v1), (2, .int v2), (3, .int v3), (4, .int v4), (5, .int v5), (6, .int v6)] → W p l e rm_X9_asOf s m args below meth c H locs 0 0 (MQ below (gw_Q (some (.int zr)) (gw_Pst D A (fun w => w = gw_mw cc a S)) A) args s 0 0 A) (F0 m 75 ls []) := by
    intro K30 hK30
    intro v1 v2 v3 v4 v5 v6 h H locs ls hI hl
    unfold f_X9_asOf_b75 at h
    refine lv_iconst (v := 0) hx hb dX9_asOf_75 (by decide) ?_
    exact hb76 K30 hK30 v1 v2 v3 v4 v5 v6 (0 : Int32) h _ _ _ hI (lv_sub hl [0, 1, 2, 3, 4, 5, 6] rfl)
  have hb71 : ∀ (K30 : Int32 → Int32 → Int32 → Int32 → Int32 → Int32 → Option (Int32)) (_ : ∀ (v1 : Int32) (v2 : Int32) (v3 : Int32) (v4 : Int32) (v5 : Int32) (v6 : Int32), K30 v1 v2 v3 v4 v5 v6 = some zr → ∀ (H : Heap) (locs : List Loc) (ls : Array Slot), gw_I D A s.heap (gw_mw cc a S) H locs → lv_has ls 8 [(0, .ref (a 0)), (1, .int v1), (2, .int v2), (3, .int v3), (4, .int v4), (5, .int v5), (6, .int v6)] → W p l e rm_X9_asOf s m args below meth c H locs 0 0 (MQ below (gw_Q (some (.int zr)) (gw_Pst D A (fun w => w = gw_mw cc a S)) A) args s 0 0 A) (F0 m 30 ls [])), ∀ (v1 : Int32) (v2 : Int32) (v3 : Int32) (v4 : Int32) (v5 : Int32) (v6 : Int32), f_X9_asOf_b71 S K30 v1 v2 v3 v4 v5 v6 = some zr → ∀ (H : Heap) (locs : List Loc) (ls : Array Slot), gw_I D A s.heap (gw_mw cc a S) H locs → lv_has ls 8 [(0, .ref (a 0)), (1, .int v1), (2, .int v2), (3, .int v3), (4, .int v4), (5, .int v5), (6, .int v6)] → W p l e rm_X9_asOf s m args below meth c H locs 0 0 (MQ below (gw_Q (some (.int zr)) (gw_Pst D A (fun w => w = gw_mw cc a S)) A) args s 0 0 A) (F0 m 71 ls []) := by
    intro K30 hK30
    intro v1 v2 v3 v4 v5 v6 h H locs ls hI hl
    unfold f_X9_asOf_b71 at h
    refine lv_iconst (v := 1) hx hb dX9_asOf_71 (by decide) ?_
    refine lv_goto (tgt := 76) hx hb dX9_asOf_72 (by decide) ?_
    exact hb76 K30 hK30 v1 v2 v3 v4 v5 v6 (1 : Int32) h _ _ _ hI (lv_sub hl [0, 1, 2, 3, 4, 5, 6] rfl)
  have hb30 :  ∀ (n : Nat), ∀ (v1 : Int32) (v2 : Int32) (v3 : Int32) (v4 : Int32) (v5 : Int32) (v6 : Int32), f_X9_asOf_b30 S  n v1 v2 v3 v4 v5 v6 = some zr → ∀ (H : Heap) (locs : List Loc) (ls : Array Slot), gw_I D A s.heap (gw_mw cc a S) H locs → lv_has ls 8 [(0, .ref (a 0)), (1, .int v1), (2, .int v2), (3, .int v3), (4, .int v4), (5, .int v5), (6, .int v6)] → W p l e rm_X9_asOf s m args below meth c H locs 0 0 (MQ below (gw_Q (some (.int zr)) (gw_Pst D A (fun w => w = gw_mw cc a S)) A) args s 0 0 A) (F0 m 30 ls []) := by
    intro n
    induction n with
    | zero =>
      intro v1 v2 v3 v4 v5 v6 h
      cases h
    | succ n ih =>
      intro v1 v2 v3 v4 v5 v6 h H locs ls hI hl
      unfold f_X9_asOf_b30 at h
      refine lv_iload hx hb dX9_asOf_30 (lv_at hl 6 rfl) ?_
      refine lv_aload_n hx hb dX9_asOf_32 rfl (lv_at hl 0 rfl) ?_
      refine gw_get (T := TX9) (k := 29) (v := .int (S 0 29)) B hI gm_g0 rfl ly_X9_asOf_9 (by decide) m_X9_asOf_257 rfl rfl dX9_asOf_33 ?_
      refine lv_icmp_ge (tgt := 122) hx hb dX9_asOf_36 (by decide) (fun c11 => ?_) (fun c11 => ?_)
      · replace h := gw_ifT c11 h
        refine lv_iload hx hb dX9_asOf_122 (lv_at hl 5 rfl) ?_
        rw [← Option.some.inj h]
        exact gw_iret (W' := (fun w => w = gw_mw cc a S)) B hI rfl (Nat.zero_le _) (Nat.zero_le _) dX9_asOf_124
      · replace h := gw_ifF c11 h
        refine lv_aload_n hx hb dX9_asOf_39 rfl (lv_at hl 0 rfl) ?_
        refine gw_get (T := TX9) (k := 34) (v := .ref (a 29)) B hI gm_g0 rfl ly_X9_asOf_9 (by decide) m_X9_asOf_95 rfl rfl dX9_asOf_40 ?_
        refine lv_iload hx hb dX9_asOf_43 (lv_at hl 6 rfl) ?_
        obtain ⟨g12, h⟩ := gw_gdE h
        refine gw_iald (t0 := 0) B hI gm_g29 rfl g12 dX9_asOf_45 ?_
        refine lv_iload_n hx hb dX9_asOf_46 rfl (lv_at hl 1 rfl) ?_
        refine lv_icmp_gt (tgt := 75) hx hb dX9_asOf_47 (by decide) (fun c13 => ?_) (fun c13 => ?_)
        · replace h := gw_ifT c13 h
          exact hb75 (f_X9_asOf_b30 S  n) ih v1 v2 v3 v4 v5 v6 h _ _ _ hI (lv_sub hl [0, 1, 2, 3, 4, 5, 6] rfl)
        · replace h := gw_ifF c13 h
          refine lv_aload_n hx hb dX9_asOf_50 rfl (lv_at hl 0 rfl) ?_
          refine gw_get (T := TX9) (k := 36) (v := .ref (a 31)) B hI gm_g0 rfl ly_X9_asOf_9 (by decide) m_X9_asOf_101 rfl rfl dX9_asOf_51 ?_
          refine lv_iload hx hb dX9_asOf_54 (lv_at hl 6 rfl) ?_
          refine gw_iald (t0 := 0) B hI gm_g31 rfl g12 dX9_asOf_56 ?_
          refine lv_if_lt (tgt := 71) hx hb dX9_asOf_57 (by decide) (fun c14 => ?_) (fun c14 => ?_)
          · replace h := gw_ifT c14 h
            exact hb71 (f_X9_asOf_b30 S  n) ih v1 v2 v3 v4 v5 v6 h _ _ _ hI (lv_sub hl [0, 1, 2, 3, 4, 5, 6] rfl)
          · replace h := gw_ifF c14 h
            refine lv_aload_n hx hb dX9_asOf_60 rfl (lv_at hl 0 rfl) ?_
            refine gw_get (T := TX9) (k := 36) (v := .ref (a 31)) B hI gm_g0 rfl ly_X9_asOf_9 (by decide) m_X9_asOf_101 rfl rfl dX9_asOf_61 ?_
            refine lv_iload hx hb dX9_asOf_64 (lv_at hl 6 rfl) ?_
            refine gw_iald (t0 := 0) B hI gm_g31 rfl g12 dX9_asOf_66 ?_
            refine lv_iload_n hx hb dX9_asOf_67 rfl (lv_at hl 1 rfl) ?_
            refine lv_icmp_le (tgt := 75) hx hb dX9_asOf_68 (by decide) (fun c15 => ?_) (fun c15 => ?_)
            · replace h := gw_ifT c15 h
              exact hb75 (f_X9_asOf_b30 S  n) ih v1 v2 v3 v4 v5 v6 h _ _ _ hI (lv_sub hl [0, 1, 2, 3, 4, 5, 6] rfl)
            · replace h := gw_ifF c15 h
              exact hb71 (f_X9_asOf_b30 S  n) ih v1 v2 v3 v4 v5 v6 h _ _ _ hI (lv_sub hl [0, 1, 2, 3, 4, 5, 6] rfl)
  unfold f_X9_asOf at h
  refine lv_iload_n hx hb dX9_asOf_0 rfl (lv_at hl 1 rfl) ?_
  refine lv_i2l hx hb dX9_asOf_1 rfl ?_
  refine lv_lconst (v := 0) hx hb dX9_asOf_2 (by decide) ?_
  refine lv_ldc2 (v := 399) hx hb hown (hts (.constantLong RX9 251 (399)) (by decide +kernel)) dX9_asOf_3 ?_
  obtain ⟨r16, e17, h⟩ := gw_bdE h
  refine gw_callS (As := [.long (x1.toInt64), .long (0 : Int64), .long (399 : Int64)]) (n := 3) B hI (k_X9_in (x1.toInt64) (0 : Int64) (399 : Int64) S e17) gX9_asOf_X9_in rfl rfl rfl nds_X9_in ⟨Nat.le_of_ble_eq_true rfl, Nat.le_of_ble_eq_true rfl⟩ rfl hl.1 (Nat.zero_le _) dX9_asOf_6 ⟨Nat.le_of_ble_eq_true rfl, Nat.le_of_ble_eq_true rfl⟩ rfl (fun w' H locs hw hI => ?_)
  subst hw
  refine lv_if_eq (tgt := 22) hx hb dX9_asOf_9 (by decide) (fun c18 => ?_) (fun c18 => ?_)
  · replace h := gw_ifT c18 h
    refine lv_iconst (v := -1) hx hb dX9_asOf_22 (by decide) ?_
    rw [← Option.some.inj h]
    exact gw_iret (W' := (fun w => w = gw_mw cc a S)) B hI rfl (Nat.zero_le _) (Nat.zero_le _) dX9_asOf_23
  · replace h := gw_ifF c18 h
    refine lv_iload_n hx hb dX9_asOf_12 rfl (lv_at hl 2 rfl) ?_
    refine lv_i2l hx hb dX9_asOf_13 rfl ?_
    refine lv_lconst (v := 0) hx hb dX9_asOf_14 (by decide) ?_
    refine lv_lconst (v := 1) hx hb dX9_asOf_15 (by decide) ?_
    obtain ⟨r19, e20, h⟩ := gw_bdE h
    refine gw_callS (As := [.long (x2.toInt64), .long (0 : Int64), .long (1 : Int64)]) (n := 3) B hI (k_X9_in (x2.toInt64) (0 : Int64) (1 : Int64) S e20) gX9_asOf_X9_in rfl rfl rfl nds_X9_in ⟨Nat.le_of_ble_eq_true rfl, Nat.le_of_ble_eq_true rfl⟩ rfl hl.1 (Nat.zero_le _) dX9_asOf_16 ⟨Nat.le_of_ble_eq_true rfl, Nat.le_of_ble_eq_true rfl⟩ rfl (fun w' H locs hw hI => ?_)
    subst hw
    refine lv_if_ne (tgt := 24) hx hb dX9_asOf_19 (by decide) (fun c21 => ?_) (fun c21 => ?_)
    · replace h := gw_ifF c21 h
      refine lv_iconst (v := 0) hx hb dX9_asOf_24 (by decide) ?_
      refine lv_istore (lv' := [(5, .int (0 : Int32)), (0, .ref (a 0)), (1, .int x1), (2, .int x2), (3, .int x3), (4, .int x4)]) hx hb dX9_asOf_25 hl (by decide) rfl (fun ls hl => ?_)
      refine lv_iconst (v := 0) hx hb dX9_asOf_27 (by decide) ?_
      refine lv_istore (lv' := [(6, .int (0 : Int32)), (5, .int (0 : Int32)), (0, .ref (a 0)), (1, .int x1), (2, .int x2), (3, .int x3), (4, .int x4)]) hx hb dX9_asOf_28 hl (by decide) rfl (fun ls hl => ?_)
      exact hb30  gw_F x1 x2 x3 x4 (0 : Int32) (0 : Int32) h _ _ _ hI (lv_sub hl [2, 3, 4, 5, 6, 1, 0] rfl)
    · replace h := gw_ifT c21 h
      refine lv_iconst (v := -1) hx hb dX9_asOf_22 (by decide) ?_
      rw [← Option.some.inj h]
      exact gw_iret (W' := (fun w => w = gw_mw cc a S)) B hI rfl (Nat.zero_le _) (Nat.zero_le _) dX9_asOf_23
set_option maxRecDepth 100000 in
set_option maxHeartbeats 4000000 in
theorem k_X9_ones (x0 : Int32) (S : gw_S) {zr : Int32} (h : f_X9_ones x0 S = some zr) : gw_M l yX9_ones wsX9_ones rm_X9_ones 0 0 D (gw_ty cc) t1 t2 [.int x0] (gw_mw cc a S) (fun w => w = gw_mw cc a S) (some (.int zr)) := by
  refine gw_enter (cc := cX9_ones) (maxL := 3) (ret := (some .int)) (own := RX9) rfl (by decide) rfl (Nat.le_of_ble_eq_true rfl) ?_
  intro p e s m below meth c A B hin hI ls hl
  have hl : lv_has ls 3 [(0, .int x0)] := hl
  generalize ([.int x0] : List Value).toArray = args at B ⊢
  have hx := B.1.1
  have hb := B.1.2.1
  have hown : s.vm.findClass RX9 = some m.cls := B.1.2.2.2.1
  have hts := B.1.2.2.2.2
  have hb4 :  ∀ (n : Nat), ∀ (v1 : Int32) (v2 : Int32), f_X9_ones_b4 S  n v1 v2 = some zr → ∀ (H : Heap) (locs : List Loc) (ls : Array Slot), gw_I D A s.heap (gw_mw cc a S) H locs → lv_has ls 3 [(1, .int v1), (2, .int v2)] → W p l e rm_X9_ones s m args below meth c H locs 0 0 (MQ below (gw_Q (some (.int zr)) (gw_Pst D A (fun w => w = gw_mw cc a S)) A) args s 0 0 A) (F0 m 4 ls []) := by
    intro n
    induction n with
    | zero =>
      intro v1 v2 h
      cases h
    | succ n ih =>
      intro v1 v2 h H locs ls hI hl
      unfold f_X9_ones_b4 at h
      refine lv_iload_n hx hb dX9_ones_4 rfl (lv_at hl 1 rfl) ?_
      refine lv_if_eq (tgt := 20) hx hb dX9_ones_5 (by decide) (fun c1 => ?_) (fun c1 => ?_)
      · replace h := gw_ifT c1 h
        refine lv_iload_n hx hb dX9_ones_20 rfl (lv_at hl 0 rfl) ?_
        rw [← Option.some.inj h]
        exact gw_iret (W' := (fun w => w = gw_mw cc a S)) B hI rfl (Nat.zero_le _) (Nat.zero_le _) dX9_ones_21
      · replace h := gw_ifF c1 h
        obtain ⟨y2, e3, h⟩ := gw_letE h
        refine lv_iinc (v := y2) (lv' := [(1, .int y2), (2, .int v2)]) hx hb dX9_ones_8 hl (k := 0) rfl (by rw [e3]; rfl) (by decide) rfl (fun ls hl => ?_)
        refine lv_iload_n hx hb dX9_ones_11 rfl (lv_at hl 1 rfl) ?_
        refine lv_iload_n hx hb dX9_ones_12 rfl (lv_at hl 1 rfl) ?_
        refine lv_iconst (v := 1) hx hb dX9_ones_13 (by decide) ?_
        refine lv_isub hx hb dX9_ones_14 ?_
        refine lv_iand hx hb dX9_ones_15 ?_
        obtain ⟨y4, e5, h⟩ := gw_letE h
        rw [← e5]
        refine lv_istore_n (lv' := [(2, .int y4), (1, .int y2)]) hx hb dX9_ones_16 rfl hl (by decide) rfl (fun ls hl => ?_)
        refine lv_goto (tgt := 4) hx hb dX9_ones_17 (by decide) ?_
        exact ih y2 y4 h _ _ _ hI (lv_sub hl [1, 0] rfl)
  unfold f_X9_ones at h
  refine lv_iconst (v := 0) hx hb dX9_ones_0 (by decide) ?_
  refine lv_istore_n (lv' := [(1, .int (0 : Int32)), (0, .int x0)]) hx hb dX9_ones_1 rfl hl (by decide) rfl (fun ls hl => ?_)
  refine lv_iload_n hx hb dX9_ones_2 rfl (lv_at hl 1 rfl) ?_
  refine lv_istore_n (lv' := [(2, .int x0), (1, .int (0 : Int32)), (0, .int x0)]) hx hb dX9_ones_3 rfl hl (by decide) rfl (fun ls hl => ?_)
  exact hb4  gw_F (0 : Int32) x0 h _ _ _ hI (lv_sub hl [1, 0] rfl)
theorem m_X9_out_104 : Cond.fieldLink RX9 104 "GownLetModel" "had" "[I" ∈ wsX9_out := by decide +kernel
theorem m_X9_out_107 : Cond.fieldLink RX9 107 "GownLetModel" "state" "[I" ∈ wsX9_out := by decide +kernel
theorem m_X9_out_110 : Cond.fieldLink RX9 110 "GownLetModel" "looks" "[I" ∈ wsX9_out := by decide +kernel
theorem m_X9_out_113 : Cond.fieldLink RX9 113 "GownLetModel" "deposits" "[I" ∈ wsX9_out := by decide +kernel
theorem m_X9_out_16 : Cond.fieldLink RX9 16 "GownLetModel" "terms" "[I" ∈ wsX9_out := by decide +kernel
theorem m_X9_out_43 : Cond.fieldLink RX9 43 "GownLetModel" "prices" "[I" ∈ wsX9_out := by decide +kernel
theorem ly_X9_out_9 : ∀ w ∈ wsX90, w ∈ wsX9_out := fun w h => List.mem_cons_of_mem _ (List.mem_append_right _ h)
set_option maxRecDepth 100000 in
set_option maxHeartbeats 4000000 in
theorem k_X9_out (x1 : Int32) (x2 : Int32) (S : gw_S) {zr : Int32} {zS : gw_S} (h : f_X9_out x1 x2 S = some (zr, zS)) : gw_M l yX9_out wsX9_out rm_X9_out 0 0 D (gw_ty cc) t1 t2 [.ref (a 0), .int x1, .int x2] (gw_mw cc a S) (fun w => w = gw_mw cc a zS) (some (.int zr)) := by
  refine gw_enter (cc := cX9_out) (maxL := 3) (ret := (some .int)) (own := RX9) rfl (by decide) rfl (Nat.le_of_ble_eq_true rfl) ?_
  intro p e s m below meth c A B hin hI ls hl
  have hl : lv_has ls 3 [(0, .ref (a 0)), (1, .int x1), (2, .int x2)] := hl
  generalize ([.ref (a 0), .int x1, .int x2] : List Value).toArray = args at B ⊢
  have hx := B.1.1
  have hb := B.1.2.1
  have hown : s.vm.findClass RX9 = some m.cls := B.1.2.2.2.1
  have hts := B.1.2.2.2.2
  unfold f_X9_out at h
  refine lv_aload_n hx hb dX9_out_0 rfl (lv_at hl 0 rfl) ?_
  refine lv_iload_n hx hb dX9_out_1 rfl (lv_at hl 1 rfl) ?_
  obtain ⟨r1, e2, h⟩ := gw_bdE h
  refine gw_callV (As := [.int x1]) (n := 1) B hI (k_X9_isThere x1 S e2) gX9_out_X9_isThere rfl rfl rfl nd_X9_isThere ⟨Nat.le_of_ble_eq_true rfl, Nat.le_of_ble_eq_true rfl⟩ gm_g0 rfl rfl rfl hl.1 (Nat.zero_le _) dX9_out_2 ⟨Nat.le_of_ble_eq_true rfl, Nat.le_of_ble_eq_true rfl⟩ rfl (fun w' H locs hw hI => ?_)
  subst hw
  refine lv_if_eq (tgt := 20) hx hb dX9_out_5 (by decide) (fun c3 => ?_) (fun c3 => ?_)
  · replace h := gw_ifT c3 h
    refine lv_iconst (v := -1) hx hb dX9_out_20 (by decide) ?_
    obtain ⟨h1, h2⟩ := Prod.mk.inj (Option.some.inj h)
    rw [h2] at hI
    rw [← h1]
    exact gw_iret (W' := (fun w => w = gw_mw cc a zS)) B hI rfl (Nat.zero_le _) (Nat.zero_le _) dX9_out_21
  · replace h := gw_ifF c3 h
    refine lv_iload_n hx hb dX9_out_8 rfl (lv_at hl 2 rfl) ?_
    refine lv_i2l hx hb dX9_out_9 rfl ?_
    refine lv_lconst (v := 0) hx hb dX9_out_10 (by decide) ?_
    refine lv_ldc2 (v := 4095) hx hb hown (hts (.constantLong RX9 324 (4095)) (by decide +kernel)) dX9_out_11 ?_
    obtain ⟨r4, e5, h⟩ := gw_bdE h
    refine gw_callS (As := [.long (x2.toInt64), .long (0 : Int64), .long (4095 : Int64)]) (n := 3) B hI (k_X9_in (x2.toInt64) (0 : Int64) (4095 : Int64) S e5) gX9_out_X9_in rfl rfl rfl nds_X9_in ⟨Nat.le_of_ble_eq_true rfl, Nat.le_of_ble_eq_true rfl⟩ rfl hl.1 (Nat.zero_le _) dX9_out_14 ⟨Nat.le_of_ble_eq_true rfl, Nat.le_of_ble_eq_true rfl⟩ rfl (fun w' H locs hw hI => ?_)
    subst hw
    refine lv_if_ne (tgt := 22) hx hb dX9_out_17 (by decide) (fun c6 => ?_) (fun c6 => ?_)
    · replace h := gw_ifF c6 h
      refine lv_aload_n hx hb dX9_out_22 rfl (lv_at hl 0 rfl) ?_
      refine gw_get (T := TX9) (k := 37) (v := .ref (a 32)) B hI gm_g0 rfl ly_X9_out_9 (by decide) m_X9_out_104 rfl rfl dX9_out_23 ?_
      refine lv_iload_n hx hb dX9_out_26 rfl (lv_at hl 1 rfl) ?_
      obtain ⟨g7, h⟩ := gw_gdE h
      refine gw_iald (t0 := 0) B hI gm_g32 rfl g7 dX9_out_27 ?_
      refine lv_if_lt (tgt := 40) hx hb dX9_out_28 (by decide) (fun c8 => ?_) (fun c8 => ?_)
      · replace h := gw_ifT c8 h
        refine lv_bipush (v := -2) hx hb dX9_out_40 (by decide) ?_
        obtain ⟨h1, h2⟩ := Prod.mk.inj (Option.some.inj h)
        rw [h2] at hI
        rw [← h1]
        exact gw_iret (W' := (fun w => w = gw_mw cc a zS)) B hI rfl (Nat.zero_le _) (Nat.zero_le _) dX9_out_42
      · replace h := gw_ifF c8 h
        refine lv_aload_n hx hb dX9_out_31 rfl (lv_at hl 0 rfl) ?_
        refine gw_get (T := TX9) (k := 38) (v := .ref (a 33)) B hI gm_g0 rfl ly_X9_out_9 (by decide) m_X9_out_107 rfl rfl dX9_out_32 ?_
        refine lv_iload_n hx hb dX9_out_35 rfl (lv_at hl 1 rfl) ?_
        refine gw_iald (t0 := 0) B hI gm_g33 rfl g7 dX9_out_36 ?_
        refine lv_if_le (tgt := 43) hx hb dX9_out_37 (by decide) (fun c9 => ?_) (fun c9 => ?_)
        · replace h := gw_ifT c9 h
          refine lv_aload_n hx hb dX9_out_43 rfl (lv_at hl 0 rfl) ?_
          refine gw_get (T := TX9) (k := 38) (v := .ref (a 33)) B hI gm_g0 rfl ly_X9_out_9 (by decide) m_X9_out_107 rfl rfl dX9_out_44 ?_
          refine lv_iload_n hx hb dX9_out_47 rfl (lv_at hl 1 rfl) ?_
          refine lv_iconst (v := 1) hx hb dX9_out_48 (by decide) ?_
          obtain ⟨S10, e11, h⟩ := gw_letE h
          refine gw_iast (t0 := 0) (w' := gw_mw cc a S10) B hI gm_g33 rfl g7 (gm_s33 e11) dX9_out_49 (fun H locs hI => ?_)
          refine lv_aload_n hx hb dX9_out_50 rfl (lv_at hl 0 rfl) ?_
          refine gw_get (T := TX9) (k := 39) (v := .ref (a 34)) B hI gm_g0 rfl ly_X9_out_9 (by decide) m_X9_out_110 rfl rfl dX9_out_51 ?_
          refine lv_iload_n hx hb dX9_out_54 rfl (lv_at hl 1 rfl) ?_
          refine lv_iload_n hx hb dX9_out_55 rfl (lv_at hl 2 rfl) ?_
          obtain ⟨S12, e13, h⟩ := gw_letE h
          refine gw_iast (t0 := 0) (w' := gw_mw cc a S12) B hI gm_g34 rfl g7 (gm_s34 e13) dX9_out_56 (fun H locs hI => ?_)
          refine lv_aload_n hx hb dX9_out_57 rfl (lv_at hl 0 rfl) ?_
          refine gw_get (T := TX9) (k := 40) (v := .ref (a 35)) B hI gm_g0 rfl ly_X9_out_9 (by decide) m_X9_out_113 rfl rfl dX9_out_58 ?_
          refine lv_iload_n hx hb dX9_out_61 rfl (lv_at hl 1 rfl) ?_
          refine lv_aload_n hx hb dX9_out_62 rfl (lv_at hl 0 rfl) ?_
          refine gw_get (T := TX9) (k := 14) (v := .ref (a 12)) B hI gm_g0 rfl ly_X9_out_9 (by decide) m_X9_out_43 rfl rfl dX9_out_63 ?_
          refine lv_aload_n hx hb dX9_out_66 rfl (lv_at hl 0 rfl) ?_
          refine gw_get (T := TX9) (k := 37) (v := .ref (a 32)) B hI gm_g0 rfl ly_X9_out_9 (by decide) m_X9_out_104 rfl rfl dX9_out_67 ?_
          refine lv_iload_n hx hb dX9_out_70 rfl (lv_at hl 1 rfl) ?_
          refine gw_iald (t0 := 0) B hI gm_g32 rfl g7 dX9_out_71 ?_
          obtain ⟨g14, h⟩ := gw_gdE h
          refine gw_iald (t0 := 0) B hI gm_g12 rfl g14 dX9_out_72 ?_
          refine lv_aload_n hx hb dX9_out_73 rfl (lv_at hl 0 rfl) ?_
          refine gw_get (T := TX9) (k := 2) (v := .ref (a 3)) B hI gm_g0 rfl ly_X9_out_9 (by decide) m_X9_out_16 rfl rfl dX9_out_74 ?_
          refine lv_iconst (v := 3) hx hb dX9_out_77 (by decide) ?_
          refine gw_iald (t0 := 0) B hI gm_g3 rfl (by decide) dX9_out_78 ?_
          refine lv_imul hx hb dX9_out_79 ?_
          refine lv_bipush (v := 100) hx hb dX9_out_80 (by decide) ?_
          refine lv_idiv hx hb dX9_out_82 (by decide) ?_
          obtain ⟨S15, e16, h⟩ := gw_letE h
          refine gw_iast (t0 := 0) (w' := gw_mw cc a S15) B hI gm_g35 rfl g7 (gm_s35 e16) dX9_out_83 (fun H locs hI => ?_)
          refine lv_aload_n hx hb dX9_out_84 rfl (lv_at hl 0 rfl) ?_
          refine gw_get (T := TX9) (k := 40) (v := .ref (a 35)) B hI gm_g0 rfl ly_X9_out_9 (by decide) m_X9_out_113 rfl rfl dX9_out_85 ?_
          refine lv_iload_n hx hb dX9_out_88 rfl (lv_at hl 1 rfl) ?_
          refine gw_iald (t0 := 0) B hI gm_g35 rfl g7 dX9_out_89 ?_
          obtain ⟨h1, h2⟩ := Prod.mk.inj (Option.some.inj h)
          rw [h2] at hI
          rw [← h1]
          exact gw_iret (W' := (fun w => w = gw_mw cc a zS)) B hI rfl (Nat.zero_le _) (Nat.zero_le _) dX9_out_90
        · replace h := gw_ifF c9 h
          refine lv_bipush (v := -2) hx hb dX9_out_40 (by decide) ?_
          obtain ⟨h1, h2⟩ := Prod.mk.inj (Option.some.inj h)
          rw [h2] at hI
          rw [← h1]
          exact gw_iret (W' := (fun w => w = gw_mw cc a zS)) B hI rfl (Nat.zero_le _) (Nat.zero_le _) dX9_out_42
    · replace h := gw_ifT c6 h
      refine lv_iconst (v := -1) hx hb dX9_out_20 (by decide) ?_
      obtain ⟨h1, h2⟩ := Prod.mk.inj (Option.some.inj h)
      rw [h2] at hI
      rw [← h1]
      exact gw_iret (W' := (fun w => w = gw_mw cc a zS)) B hI rfl (Nat.zero_le _) (Nat.zero_le _) dX9_out_21
end
