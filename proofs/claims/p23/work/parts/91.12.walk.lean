section
/-! contracts: printed by wip/gen -/
section
variable {l : Launch} {D : va_G} {t1 t2 : Nat} {cc : Nat → ClassId} {a b d : Nat → Nat}
theorem m_X2_matchedIn_41 : Cond.fieldLink RX2 41 "GownLet$House" "isTrial" "[Z" ∈ wsX2_matchedIn := by decide +kernel
theorem m_X2_matchedIn_49 : Cond.fieldLink RX2 49 "GownLet$House" "bookingCount" "I" ∈ wsX2_matchedIn := by decide +kernel
theorem ly_X2_matchedIn_0 : ∀ w ∈ wsX00, w ∈ wsX2_matchedIn := fun w h => List.mem_cons_of_mem _ (List.mem_append_left _ (List.mem_append_left _ (List.mem_append_left _ (List.mem_append_right _ h))))
theorem ly_X2_matchedIn_2 : ∀ w ∈ wsX20, w ∈ wsX2_matchedIn := fun w h => List.mem_cons_of_mem _ (List.mem_append_left _ (List.mem_append_left _ (List.mem_append_left _ (List.mem_append_left _ (List.mem_append_right _ h)))))
theorem ly_X2_matchedIn_4 : ∀ w ∈ wsX40, w ∈ wsX2_matchedIn := fun w h => List.mem_cons_of_mem _ (List.mem_append_left _ (List.mem_append_left _ (List.mem_append_right _ h)))
set_option maxRecDepth 100000 in
set_option maxHeartbeats 4000000 in
theorem k_X2_matchedIn (x1 : Int32) (x2 : Int32) (S : gw_S) {zr : Int32} {zS : gw_S} (h : f_X2_matchedIn x1 x2 S = some (zr, zS)) : gw_M l yX2_matchedIn wsX2_matchedIn rm_X2_matchedIn 0 0 D (gw_ty cc) t1 t2 [.ref (a 3), .int x1, .int x2] (gw_cw cc a b d S) (fun w => w = gw_cw cc a b d zS) (some (.int zr)) := by
  refine gw_enter (cc := cX2_matchedIn) (maxL := 6) (ret := (some .int)) (own := RX2) rfl (by decide) rfl (Nat.le_of_ble_eq_true rfl) ?_
  intro p e s m below meth c A B hin hI ls hl
  have hl : lv_has ls 6 [(0, .ref (a 3)), (1, .int x1), (2, .int x2)] := hl
  generalize ([.ref (a 3), .int x1, .int x2] : List Value).toArray = args at B ⊢
  have hx := B.1.1
  have hb := B.1.2.1
  have hown : s.vm.findClass RX2 = some m.cls := B.1.2.2.2.1
  have hts := B.1.2.2.2.2
  have hb86 : ∀ (K5 : Int32 → Int32 → Int32 → Int32 → gw_S → Option (Int32 × gw_S)) (_ : ∀ (v1 : Int32) (v2 : Int32) (v3 : Int32) (v4 : Int32) (S : gw_S), K5 v1 v2 v3 v4 S = some (zr, zS) → ∀ (H : Heap) (locs : List Loc) (ls : Array Slot), gw_I D A s.heap (gw_cw cc a b d S) H locs → lv_has ls 6 [(0, .ref (a 3)), (1, .int v1), (2, .int v2), (3, .int v3), (4, .int v4)] → W p l e rm_X2_matchedIn s m args below meth c H locs 0 0 (MQ below (gw_Q (some (.int zr)) (gw_Pst D A (fun w => w = gw_cw cc a b d zS)) A) args s 0 0 A) (F0 m 5 ls [])), ∀ (v1 : Int32) (v2 : Int32) (v3 : Int32) (v4 : Int32) (S : gw_S), f_X2_matchedIn_b86 K5 v1 v2 v3 v4 S = some (zr, zS) → ∀ (H : Heap) (locs : List Loc) (ls : Array Slot), gw_I D A s.heap (gw_cw cc a b d S) H locs → lv_has ls 6 [(0, .ref (a 3)), (1, .int v1), (2, .int v2), (3, .int v3), (4, .int v4)] → W p l e rm_X2_matchedIn s m args below meth c H locs 0 0 (MQ below (gw_Q (some (.int zr)) (gw_Pst D A (fun w => w = gw_cw cc a b d zS)) A) args s 0 0 A) (F0 m 86 ls []) := by
    intro K5 hK5
    intro v1 v2 v3 v4 S h H locs ls hI hl
    unfold f_X2_matchedIn_b86 at h
    obtain ⟨y1, e2, h⟩ := gw_letE h
    refine lv_iinc (v := y1) (lv' := [(4, .int y1), (0, .ref (a 3)), (1, .int v1), (2, .int v2), (3, .int v3)]) hx hb dX2_matchedIn_86 hl (k := 4) rfl (by rw [e2]; rfl) (by decide) rfl (fun ls hl => ?_)
    refine lv_goto (tgt := 5) hx hb dX2_matchedIn_89 (by decide) ?_
    exact hK5 v1 v2 v3 y1 S h _ _ _ hI (lv_sub hl [1, 2, 3, 4, 0] rfl)
  have hb63 : ∀ (K5 : Int32 → Int32 → Int32 → Int32 → gw_S → Option (Int32 × gw_S)) (_ : ∀ (v1 : Int32) (v2 : Int32) (v3 : Int32) (v4 : Int32) (S : gw_S), K5 v1 v2 v3 v4 S = some (zr, zS) → ∀ (H : Heap) (locs : List Loc) (ls : Array Slot), gw_I D A s.heap (gw_cw cc a b d S) H locs → lv_has ls 6 [(0, .ref (a 3)), (1, .int v1), (2, .int v2), (3, .int v3), (4, .int v4)] → W p l e rm_X2_matchedIn s m args below meth c H locs 0 0 (MQ below (gw_Q (some (.int zr)) (gw_Pst D A (fun w => w = gw_cw cc a b d zS)) A) args s 0 0 A) (F0 m 5 ls [])), ∀ (v1 : Int32) (v2 : Int32) (v3 : Int32) (v4 : Int32) (v5 : Int32) (S : gw_S), f_X2_matchedIn_b63 K5 v1 v2 v3 v4 v5 S = some (zr, zS) → ∀ (H : Heap) (locs : List Loc) (ls : Array Slot), gw_I D A s.heap (gw_cw cc a b d S) H locs → lv_has ls 6 [(0, .ref (a 3)), (1, .int v1), (2, .int v2), (3, .int v3), (4, .int v4), (5, va_rf (gw_rf d v5))] → W p l e rm_X2_matchedIn s m args below meth c H locs 0 0 (MQ below (gw_Q (some (.int zr)) (gw_Pst D A (fun w => w = gw_cw cc a b d zS)) A) args s 0 0 A) (F0 m 63 ls []) := by
    intro K5 hK5
    intro v1 v2 v3 v4 v5 S h H locs ls hI hl
    unfold f_X2_matchedIn_b63 at h
    refine gw_aload B dX2_matchedIn_63 (lv_at hl 5 rfl) ?_
    obtain ⟨g3, h⟩ := gw_gdE h
    rw [gw_rfP g3]
    obtain ⟨g4, h⟩ := gw_gdE h
    refine gw_getN (T := TX0) (k := 8) (v := va_rf (gw_rf b (S (2 * v5.toNatClampNeg + 31) 8))) B hI (gc_gb g4) rfl ly_X2_matchedIn_0 (by decide) n_RX2_117 rfl rfl dX2_matchedIn_65 ?_
    refine gw_ifnull (tgt := 86) B dX2_matchedIn_68 (by decide) (fun c5 => ?_) (fun c5 => ?_)
    · replace h := gw_ifT c5 h
      exact hb86 K5 hK5 v1 v2 v3 v4 S h _ _ _ hI (lv_sub hl [0, 1, 2, 3, 4] rfl)
    · replace h := gw_ifF c5 h
      refine gw_aload B dX2_matchedIn_71 (lv_at hl 5 rfl) ?_
      rw [gw_rfP g3]
      refine gw_getN (T := TX0) (k := 8) (v := va_rf (gw_rf b (S (2 * v5.toNatClampNeg + 31) 8))) B hI (gc_gb g4) rfl ly_X2_matchedIn_0 (by decide) n_RX2_117 rfl rfl dX2_matchedIn_73 ?_
      rw [gw_rfP c5]
      obtain ⟨g6, h⟩ := gw_gdE h
      refine gw_getN (T := TX4) (k := 3) (v := .int (S (2 * (S (2 * v5.toNatClampNeg + 31) 8).toNatClampNeg + 30) 3)) B hI (gc_gp g6) rfl ly_X2_matchedIn_4 (by decide) n_RX2_136 rfl rfl dX2_matchedIn_76 ?_
      refine lv_iload_n hx hb dX2_matchedIn_79 rfl (lv_at hl 2 rfl) ?_
      refine lv_icmp_ne (tgt := 86) hx hb dX2_matchedIn_80 (by decide) (fun c7 => ?_) (fun c7 => ?_)
      · replace h := gw_ifF c7 h
        exact hb86 K5 hK5 v1 v2 v3 v4 S h _ _ _ hI (lv_sub hl [0, 1, 2, 3, 4] rfl)
      · replace h := gw_ifT c7 h
        obtain ⟨y8, e9, h⟩ := gw_letE h
        refine lv_iinc (v := y8) (lv' := [(3, .int y8), (0, .ref (a 3)), (1, .int v1), (2, .int v2), (4, .int v4), (5, va_rf (gw_rf d v5))]) hx hb dX2_matchedIn_83 hl (k := 3) rfl (by rw [e9]; rfl) (by decide) rfl (fun ls hl => ?_)
        exact hb86 K5 hK5 v1 v2 y8 v4 S h _ _ _ hI (lv_sub hl [1, 2, 3, 0, 4] rfl)
  have hb5 :  ∀ (n : Nat), ∀ (v1 : Int32) (v2 : Int32) (v3 : Int32) (v4 : Int32) (S : gw_S), f_X2_matchedIn_b5  n v1 v2 v3 v4 S = some (zr, zS) → ∀ (H : Heap) (locs : List Loc) (ls : Array Slot), gw_I D A s.heap (gw_cw cc a b d S) H locs → lv_has ls 6 [(0, .ref (a 3)), (1, .int v1), (2, .int v2), (3, .int v3), (4, .int v4)] → W p l e rm_X2_matchedIn s m args below meth c H locs 0 0 (MQ below (gw_Q (some (.int zr)) (gw_Pst D A (fun w => w = gw_cw cc a b d zS)) A) args s 0 0 A) (F0 m 5 ls []) := by
    intro n
    induction n with
    | zero =>
      intro v1 v2 v3 v4 S h
      cases h
    | succ n ih =>
      intro v1 v2 v3 v4 S h H locs ls hI hl
      unfold f_X2_matchedIn_b5 at h
      refine lv_iload hx hb dX2_matchedIn_5 (lv_at hl 4 rfl) ?_
      refine lv_aload_n hx hb dX2_matchedIn_7 rfl (lv_at hl 0 rfl) ?_
      refine gw_get (T := TX2) (k := 7) (v := .int (S 3 7)) B hI gc_g3 rfl ly_X2_matchedIn_2 (by decide) m_X2_matchedIn_49 rfl rfl dX2_matchedIn_8 ?_
      refine lv_icmp_ge (tgt := 92) hx hb dX2_matchedIn_11 (by decide) (fun c10 => ?_) (fun c10 => ?_)
      · replace h := gw_ifT c10 h
        refine lv_aload_n hx hb dX2_matchedIn_92 rfl (lv_at hl 0 rfl) ?_
        obtain ⟨S11, e12, h⟩ := gw_bdE h
        refine gw_callVv (As := []) (n := 0) B hI (k_X2_takeTrialsBack  S e12) gX2_matchedIn_X2_takeTrialsBack rfl rfl rfl nd_X2_takeTrialsBack ⟨Nat.le_of_ble_eq_true rfl, Nat.le_of_ble_eq_true rfl⟩ gc_g3 rfl rfl rfl hl.1 (Nat.zero_le _) dX2_matchedIn_93 ⟨Nat.le_of_ble_eq_true rfl, Nat.le_of_ble_eq_true rfl⟩ rfl (fun w' H locs hw hI => ?_)
        subst hw
        refine lv_iload_n hx hb dX2_matchedIn_96 rfl (lv_at hl 3 rfl) ?_
        obtain ⟨h1, h2⟩ := Prod.mk.inj (Option.some.inj h)
        rw [h2] at hI
        rw [← h1]
        exact gw_iret (W' := (fun w => w = gw_cw cc a b d zS)) B hI rfl (Nat.zero_le _) (Nat.zero_le _) dX2_matchedIn_97
      · replace h := gw_ifF c10 h
        refine lv_aload_n hx hb dX2_matchedIn_14 rfl (lv_at hl 0 rfl) ?_
        refine lv_iload hx hb dX2_matchedIn_15 (lv_at hl 4 rfl) ?_
        obtain ⟨r13, e14, h⟩ := gw_bdE h
        refine gw_callV (As := [.int v4]) (n := 1) B hI (k_X2_bookingAt v4 S e14) gX2_matchedIn_X2_bookingAt rfl rfl rfl nd_X2_bookingAt ⟨Nat.le_of_ble_eq_true rfl, Nat.le_of_ble_eq_true rfl⟩ gc_g3 rfl rfl rfl hl.1 (Nat.zero_le _) dX2_matchedIn_17 ⟨Nat.le_of_ble_eq_true rfl, Nat.le_of_ble_eq_true rfl⟩ rfl (fun w' H locs hw hI => ?_)
        subst hw
        refine gw_astore (lv' := [(5, va_rf (gw_rf d r13)), (0, .ref (a 3)), (1, .int v1), (2, .int v2), (3, .int v3), (4, .int v4)]) B dX2_matchedIn_20 hl (by decide) rfl (fun ls hl => ?_)
        refine lv_aload_n hx hb dX2_matchedIn_22 rfl (lv_at hl 1 rfl) ?_
        refine gw_aload B dX2_matchedIn_23 (lv_at hl 0 rfl) ?_
        refine lv_iload_n hx hb dX2_matchedIn_25 rfl (lv_at hl 2 rfl) ?_
        obtain ⟨r15, e16, h⟩ := gw_bdE h
        refine gw_callV (As := [va_rf (gw_rf d r13), .int v1]) (n := 2) B hI (k_X2_isMember r13 v1 S e16) gX2_matchedIn_X2_isMember rfl rfl rfl nd_X2_isMember ⟨Nat.le_of_ble_eq_true rfl, Nat.le_of_ble_eq_true rfl⟩ gc_g3 rfl rfl rfl hl.1 (Nat.zero_le _) dX2_matchedIn_26 ⟨Nat.le_of_ble_eq_true rfl, Nat.le_of_ble_eq_true rfl⟩ rfl (fun w' H locs hw hI => ?_)
        subst hw
        refine lv_if_ne (tgt := 35) hx hb dX2_matchedIn_29 (by decide) (fun c17 => ?_) (fun c17 => ?_)
        · replace h := gw_ifF c17 h
          refine gw_aload B dX2_matchedIn_35 (lv_at hl 0 rfl) ?_
          obtain ⟨g18, h⟩ := gw_gdE h
          rw [gw_rfP g18]
          obtain ⟨g19, h⟩ := gw_gdE h
          refine gw_getN (T := TX0) (k := 8) (v := va_rf (gw_rf b (S (2 * r13.toNatClampNeg + 31) 8))) B hI (gc_gb g19) rfl ly_X2_matchedIn_0 (by decide) n_RX2_117 rfl rfl dX2_matchedIn_37 ?_
          refine gw_ifnonnull (tgt := 63) B dX2_matchedIn_40 (by decide) (fun c20 => ?_) (fun c20 => ?_)
          · replace h := gw_ifF c20 h
            exact hb63 (f_X2_matchedIn_b5  n) ih v1 v2 v3 v4 r13 S h _ _ _ hI (lv_sub hl [1, 2, 3, 4, 5, 0] rfl)
          · replace h := gw_ifT c20 h
            refine gw_aload B dX2_matchedIn_43 (lv_at hl 0 rfl) ?_
            refine lv_aload_n hx hb dX2_matchedIn_45 rfl (lv_at hl 1 rfl) ?_
            refine gw_aload B dX2_matchedIn_46 (lv_at hl 0 rfl) ?_
            refine lv_iload_n hx hb dX2_matchedIn_48 rfl (lv_at hl 3 rfl) ?_
            obtain ⟨r21, e22, h⟩ := gw_bdE h
            refine gw_callV (As := [va_rf (gw_rf d r13), .int v2]) (n := 2) B hI (k_X2_bestFor r13 v2 S e22) gX2_matchedIn_X2_bestFor rfl rfl rfl nd_X2_bestFor ⟨Nat.le_of_ble_eq_true rfl, Nat.le_of_ble_eq_true rfl⟩ gc_g3 rfl rfl rfl hl.1 (by simp [gw_catq, gw_cI, gw_cR, gw_cL]) dX2_matchedIn_49 ⟨Nat.le_of_ble_eq_true rfl, Nat.le_of_ble_eq_true rfl⟩ rfl (fun w' H locs hw hI => ?_)
            subst hw
            rw [gw_rfP g18]
            obtain ⟨S23, e24, h⟩ := gw_letE h
            refine gw_putN (T := TX0) (k := 8) (w' := gw_cw cc a b d S23) B hI (gc_gb g19) rfl ly_X2_matchedIn_0 tyX0 tyX0_ok nmX0 (by decide) n_RX2_117 rfl rfl gw_rn gw_rfit (Nat.le_of_ble_eq_true rfl) (gc_sb_8 g19 e24) dX2_matchedIn_52 (fun H locs hI => ?_)
            refine lv_aload_n hx hb dX2_matchedIn_55 rfl (lv_at hl 1 rfl) ?_
            refine gw_get (T := TX2) (k := 5) (v := .ref (a 14)) B hI gc_g3 rfl ly_X2_matchedIn_2 (by decide) m_X2_matchedIn_41 rfl rfl dX2_matchedIn_56 ?_
            refine lv_iload hx hb dX2_matchedIn_59 (lv_at hl 5 rfl) ?_
            refine lv_iconst (v := 1) hx hb dX2_matchedIn_61 (by decide) ?_
            obtain ⟨g25, h⟩ := gw_gdE h
            obtain ⟨S26, e27, h⟩ := gw_letE h
            refine gw_zast (t0 := 2) (w' := gw_cw cc a b d S26) B hI gc_g14 rfl g25 (gc_s14 e27) dX2_matchedIn_62 (fun H locs hI => ?_)
            exact hb63 (f_X2_matchedIn_b5  n) ih v1 v2 v3 v4 r13 S26 h _ _ _ hI (lv_sub hl [1, 2, 3, 4, 5, 0] rfl)
        · replace h := gw_ifT c17 h
          refine lv_goto (tgt := 86) hx hb dX2_matchedIn_32 (by decide) ?_
          exact hb86 (f_X2_matchedIn_b5  n) ih v1 v2 v3 v4 S h _ _ _ hI (lv_sub hl [1, 2, 3, 4, 5] rfl)
  unfold f_X2_matchedIn at h
  refine lv_iconst (v := 0) hx hb dX2_matchedIn_0 (by decide) ?_
  refine lv_istore_n (lv' := [(3, .int (0 : Int32)), (0, .ref (a 3)), (1, .int x1), (2, .int x2)]) hx hb dX2_matchedIn_1 rfl hl (by decide) rfl (fun ls hl => ?_)
  refine lv_iconst (v := 0) hx hb dX2_matchedIn_2 (by decide) ?_
  refine lv_istore (lv' := [(4, .int (0 : Int32)), (3, .int (0 : Int32)), (0, .ref (a 3)), (1, .int x1), (2, .int x2)]) hx hb dX2_matchedIn_3 hl (by decide) rfl (fun ls hl => ?_)
  exact hb5  gw_F x1 x2 (0 : Int32) (0 : Int32) S h _ _ _ hI (lv_sub hl [2, 3, 4, 1, 0] rfl)
theorem m_X2_depositOn_12 : Cond.fieldLink RX2 12 "GownLet$House" "terms" "LGownLet$Terms;" ∈ wsX2_depositOn := by decide +kernel
theorem ly_X2_depositOn_2 : ∀ w ∈ wsX20, w ∈ wsX2_depositOn := fun w h => List.mem_cons_of_mem _ (List.mem_append_left _ (List.mem_append_right _ h))
theorem ly_X2_depositOn_4 : ∀ w ∈ wsX40, w ∈ wsX2_depositOn := fun w h => List.mem_cons_of_mem _ (List.mem_append_left _ (List.mem_append_left _ (List.mem_append_right _ h)))
set_option maxRecDepth 100000 in
set_option maxHeartbeats 4000000 in
theorem k_X2_depositOn (x1 : Int32) (S : gw_S) {zr : Int32} (h : f_X2_depositOn x1 S = some zr) : gw_M l yX2_depositOn wsX2_depositOn rm_X2_depositOn 0 0 D (gw_ty cc) t1 t2 [.ref (a 3), va_rf (gw_rf b x1)] (gw_cw cc a b d S) (fun w => w = gw_cw cc a b d S) (some (.int zr)) := by
  refine gw_enter (cc := cX2_depositOn) (maxL := 2) (ret := (some .int)) (own := RX2) rfl (by decide) rfl (by simp [lg_sl, gw_catq, gw_cI, gw_cR, gw_cL]) ?_
  intro p e s m below meth c A B hin hI ls hl
  have hl : lv_has ls 2 [(0, .ref (a 3)), (1, va_rf (gw_rf b x1))] := by simpa [lv_args, gw_catq, gw_cI, gw_cR, gw_cL] using hl
  generalize ([.ref (a 3), va_rf (gw_rf b x1)] : List Value).toArray = args at B ⊢
  have hx := B.1.1
  have hb := B.1.2.1
  have hown : s.vm.findClass RX2 = some m.cls := B.1.2.2.2.1
  have hts := B.1.2.2.2.2
  unfold f_X2_depositOn at h
  refine gw_aload_n B dX2_depositOn_0 rfl (lv_at hl 1 rfl) ?_
  obtain ⟨g1, h⟩ := gw_gdE h
  rw [gw_rfP g1]
  obtain ⟨g2, h⟩ := gw_gdE h
  refine gw_getN (T := TX4) (k := 5) (v := .int (S (2 * x1.toNatClampNeg + 30) 5)) B hI (gc_gp g2) rfl ly_X2_depositOn_4 (by decide) n_RX2_174 rfl rfl dX2_depositOn_1 ?_
  refine lv_aload_n hx hb dX2_depositOn_4 rfl (lv_at hl 0 rfl) ?_
  refine gw_get (T := TX2) (k := 0) (v := .ref (a 4)) B hI gc_g3 rfl ly_X2_depositOn_2 (by decide) m_X2_depositOn_12 rfl rfl dX2_depositOn_5 ?_
  refine lv_iconst (v := 3) hx hb dX2_depositOn_8 (by decide) ?_
  obtain ⟨r3, e4, h⟩ := gw_bdE h
  refine gw_callV (As := [.int (3 : Int32)]) (n := 1) B hI (k_X7_at (3 : Int32) S e4) gX2_depositOn_X7_at rfl rfl rfl nd_X7_at ⟨Nat.le_of_ble_eq_true rfl, Nat.le_of_ble_eq_true rfl⟩ gc_g4 rfl rfl rfl hl.1 (by simp [gw_catq, gw_cI, gw_cR, gw_cL]) dX2_depositOn_9 ⟨Nat.le_of_ble_eq_true rfl, Nat.le_of_ble_eq_true rfl⟩ rfl (fun w' H locs hw hI => ?_)
  subst hw
  refine lv_imul hx hb dX2_depositOn_12 ?_
  refine lv_bipush (v := 100) hx hb dX2_depositOn_13 (by decide) ?_
  refine lv_idiv hx hb dX2_depositOn_15 (by decide) ?_
  rw [← Option.some.inj h]
  exact gw_iret (W' := (fun w => w = gw_cw cc a b d S)) B hI rfl (Nat.zero_le _) (Nat.zero_le _) dX2_depositOn_16
theorem m_X2_daysLate_12 : Cond.fieldLink RX2 12 "GownLet$House" "terms" "LGownLet$Terms;" ∈ wsX2_daysLate := by decide +kernel
theorem ly_X2_daysLate_0 : ∀ w ∈ wsX00, w ∈ wsX2_daysLate := fun w h => List.mem_cons_of_mem _ (List.mem_append_left _ (List.mem_append_left _ (List.mem_append_left _ (List.mem_append_right _ h))))
theorem ly_X2_daysLate_2 : ∀ w ∈ wsX20, w ∈ wsX2_daysLate := fun w h => List.mem_cons_of_mem _ (List.mem_append_left _ (List.mem_append_left _ (List.mem_append_right _ h)))
set_option maxRecDepth 100000 in
set_option maxHeartbeats 4000000 in
theorem k_X2_daysLate (x1 : Int32) (S : gw_S) {zr : Int32} (h : f_X2_daysLate x1 S = some zr) : gw_M l yX2_daysLate wsX2_daysLate rm_X2_daysLate 0 0 D (gw_ty cc) t1 t2 [.ref (a 3), va_rf (gw_rf d x1)] (gw_cw cc a b d S) (fun w => w = gw_cw cc a b d S) (some (.int zr)) := by
  refine gw_enter (cc := cX2_daysLate) (maxL := 3) (ret := (some .int)) (own := RX2) rfl (by decide) rfl (by simp [lg_sl, gw_catq, gw_cI, gw_cR, gw_cL]) ?_
  intro p e s m below meth c A B hin hI ls hl
  have hl : lv_has ls 3 [(0, .ref (a 3)), (1, va_rf (gw_rf d x1))] := by simpa [lv_args, gw_catq, gw_cI, gw_cR, gw_cL] using hl
  generalize ([.ref (a 3), va_rf (gw_rf d x1)] : List Value).toArray = args at B ⊢
  have hx := B.1.1
  have hb := B.1.2.1
  have hown : s.vm.findClass RX2 = some m.cls := B.1.2.2.2.1
  have hts := B.1.2.2.2.2
  unfold f_X2_daysLate at h
  refine gw_aload_n B dX2_daysLate_0 rfl (lv_at hl 1 rfl) ?_
  obtain ⟨g1, h⟩ := gw_gdE h
  rw [gw_rfP g1]
  obtain ⟨g2, h⟩ := gw_gdE h
  refine gw_getN (T := TX0) (k := 8) (v := va_rf (gw_rf b (S (2 * x1.toNatClampNeg + 31) 8))) B hI (gc_gb g2) rfl ly_X2_daysLate_0 (by decide) n_RX2_117 rfl rfl dX2_daysLate_1 ?_
  refine gw_ifnonnull (tgt := 9) B dX2_daysLate_4 (by decide) (fun c3 => ?_) (fun c3 => ?_)
  · replace h := gw_ifF c3 h
    refine lv_aload_n hx hb dX2_daysLate_9 rfl (lv_at hl 0 rfl) ?_
    refine gw_aload_n B dX2_daysLate_10 rfl (lv_at hl 1 rfl) ?_
    rw [gw_rfP g1]
    refine gw_getN (T := TX0) (k := 8) (v := va_rf (gw_rf b (S (2 * x1.toNatClampNeg + 31) 8))) B hI (gc_gb g2) rfl ly_X2_daysLate_0 (by decide) n_RX2_117 rfl rfl dX2_daysLate_11 ?_
    refine gw_aload_n B dX2_daysLate_14 rfl (lv_at hl 1 rfl) ?_
    obtain ⟨r4, e5, h⟩ := gw_bdE h
    refine gw_callV (As := [va_rf (gw_rf b (S (2 * x1.toNatClampNeg + 31) 8)), va_rf (gw_rf d x1)]) (n := 2) B hI (k_X2_lastAway (S (2 * x1.toNatClampNeg + 31) 8) x1 S e5) gX2_daysLate_X2_lastAway rfl rfl rfl nd_X2_lastAway ⟨Nat.le_of_ble_eq_true rfl, Nat.le_of_ble_eq_true rfl⟩ gc_g3 rfl rfl rfl hl.1 (Nat.zero_le _) dX2_daysLate_15 ⟨Nat.le_of_ble_eq_true rfl, Nat.le_of_ble_eq_true rfl⟩ rfl (fun w' H locs hw hI => ?_)
    subst hw
    refine lv_aload_n hx hb dX2_daysLate_18 rfl (lv_at hl 0 rfl) ?_
    refine gw_get (T := TX2) (k := 0) (v := .ref (a 4)) B hI gc_g3 rfl ly_X2_daysLate_2 (by decide) m_X2_daysLate_12 rfl rfl dX2_daysLate_19 ?_
    refine lv_iconst (v := 1) hx hb dX2_daysLate_22 (by decide) ?_
    obtain ⟨r6, e7, h⟩ := gw_bdE h
    refine gw_callV (As := [.int (1 : Int32)]) (n := 1) B hI (k_X7_at (1 : Int32) S e7) gX2_daysLate_X7_at rfl rfl rfl nd_X7_at ⟨Nat.le_of_ble_eq_true rfl, Nat.le_of_ble_eq_true rfl⟩ gc_g4 rfl rfl rfl hl.1 (by simp [gw_catq, gw_cI, gw_cR, gw_cL]) dX2_daysLate_23 ⟨Nat.le_of_ble_eq_true rfl, Nat.le_of_ble_eq_true rfl⟩ rfl (fun w' H locs hw hI => ?_)
    subst hw
    refine lv_isub hx hb dX2_daysLate_26 ?_
    obtain ⟨y8, e9, h⟩ := gw_letE h
    rw [← e9]
    refine lv_istore_n (i := 2) (lv' := [(2, .int y8), (0, .ref (a 3)), (1, va_rf (gw_rf d x1))]) hx hb dX2_daysLate_27 rfl hl (by decide) (by simp [gw_catq, gw_cI, gw_cR, gw_cL]) (fun ls hl => ?_)
    refine lv_iconst (v := 0) hx hb dX2_daysLate_28 (by decide) ?_
    refine gw_aload_n B dX2_daysLate_29 rfl (lv_at hl 2 rfl) ?_
    rw [gw_rfP g1]
    refine gw_getN (T := TX0) (k := 13) (v := .int (S (2 * x1.toNatClampNeg + 31) 13)) B hI (gc_gb g2) rfl ly_X2_daysLate_0 (by decide) n_RX2_180 rfl rfl dX2_daysLate_30 ?_
    refine lv_iload_n hx hb dX2_daysLate_33 rfl (lv_at hl 0 rfl) ?_
    refine lv_isub hx hb dX2_daysLate_34 ?_
    refine gw_mmax B hl.1 (hown := hown) (by decide +kernel) (by decide +kernel) (by decide +kernel) (by decide +kernel) (by decide) (by simp [gw_catq, gw_cI, gw_cR, gw_cL]) (Nat.zero_le _) (Nat.zero_le _) dX2_daysLate_35 ?_
    rw [← Option.some.inj h]
    exact gw_iret (W' := (fun w => w = gw_cw cc a b d S)) B hI rfl (Nat.zero_le _) (Nat.zero_le _) dX2_daysLate_38
  · replace h := gw_ifT c3 h
    refine lv_iconst (v := 0) hx hb dX2_daysLate_7 (by decide) ?_
    rw [← Option.some.inj h]
    exact gw_iret (W' := (fun w => w = gw_cw cc a b d S)) B hI rfl (Nat.zero_le _) (Nat.zero_le _) dX2_daysLate_8
set_option maxRecDepth 100000 in
set_option maxHeartbeats 4000000 in
theorem k_J6_bitCount_0f7a4 (x0 : Int32) (S : gw_S) {zr : Int32} (h : f_J6_bitCount_0f7a4 x0 S = some zr) : gw_M l yJ6_bitCount_0f7a4 wsJ6_bitCount_0f7a4 rm_J6_bitCount_0f7a4 0 0 D (gw_ty cc) t1 t2 [.int x0] (gw_cw cc a b d S) (fun w => w = gw_cw cc a b d S) (some (.int zr)) := by
  refine gw_enter (cc := cJ6_bitCount_0f7a4) (maxL := 1) (ret := (some .int)) (own := RJ6) rfl (by decide) rfl (Nat.le_of_ble_eq_true rfl) ?_
  intro p e s m below meth c A B hin hI ls hl
  have hl : lv_has ls 1 [(0, .int x0)] := hl
  generalize ([.int x0] : List Value).toArray = args at B ⊢
  have hx := B.1.1
  have hb := B.1.2.1
  have hown : s.vm.findClass RJ6 = some m.cls := B.1.2.2.2.1
  have hts := B.1.2.2.2.2
  unfold f_J6_bitCount_0f7a4 at h
  refine lv_iload_n hx hb dJ6_bitCount_0f7a4_0 rfl (lv_at hl 0 rfl) ?_
  refine lv_iload_n hx hb dJ6_bitCount_0f7a4_1 rfl (lv_at hl 0 rfl) ?_
  refine lv_iconst (v := 1) hx hb dJ6_bitCount_0f7a4_2 (by decide) ?_
  refine lv_iushr hx hb dJ6_bitCount_0f7a4_3 rfl ?_
  refine lv_ldcw (v := 1431655765) hx hb hown (hts (.constant RJ6 265 (1431655765)) (by decide +kernel)) dJ6_bitCount_0f7a4_4 ?_
  refine lv_iand hx hb dJ6_bitCount_0f7a4_7 ?_
  refine lv_isub hx hb dJ6_bitCount_0f7a4_8 ?_
  obtain ⟨y1, e2, h⟩ := gw_letE h
  rw [← e2]
  refine lv_istore_n (lv' := [(0, .int y1)]) hx hb dJ6_bitCount_0f7a4_9 rfl hl (by decide) rfl (fun ls hl => ?_)
  refine lv_iload_n hx hb dJ6_bitCount_0f7a4_10 rfl (lv_at hl 0 rfl) ?_
  refine lv_ldcw (v := 858993459) hx hb hown (hts (.constant RJ6 266 (858993459)) (by decide +kernel)) dJ6_bitCount_0f7a4_11 ?_
  refine lv_iand hx hb dJ6_bitCount_0f7a4_14 ?_
  refine lv_iload_n hx hb dJ6_bitCount_0f7a4_15 rfl (lv_at hl 0 rfl) ?_
  refine lv_iconst (v := 2) hx hb dJ6_bitCount_0f7a4_16 (by decide) ?_
  refine lv_iushr hx hb dJ6_bitCount_0f7a4_17 rfl ?_
  refine lv_ldcw (v := 858993459) hx hb hown (hts (.constant RJ6 266 (858993459)) (by decide +kernel)) dJ6_bitCount_0f7a4_18 ?_
  refine lv_iand hx hb dJ6_bitCount_0f7a4_21 ?_
  refine lv_iadd hx hb dJ6_bitCount_0f7a4_22 ?_
  obtain ⟨y3, e4, h⟩ := gw_letE h
  rw [← e4]
  refine lv_istore_n (lv' := [(0, .int y3)]) hx hb dJ6_bitCount_0f7a4_23 rfl hl (by decide) rfl (fun ls hl => ?_)
  refine lv_iload_n hx hb dJ6_bitCount_0f7a4_24 rfl (lv_at hl 0 rfl) ?_
  refine lv_iload_n hx hb dJ6_bitCount_0f7a4_25 rfl (lv_at hl 0 rfl) ?_
  refine lv_iconst (v := 4) hx hb dJ6_bitCount_0f7a4_26 (by decide) ?_
  refine lv_iushr hx hb dJ6_bitCount_0f7a4_27 rfl ?_
  refine lv_iadd hx hb dJ6_bitCount_0f7a4_28 ?_
  refine lv_ldcw (v := 252645135) hx hb hown (hts (.constant RJ6 267 (252645135)) (by decide +kernel)) dJ6_bitCount_0f7a4_29 ?_
  refine lv_iand hx hb dJ6_bitCount_0f7a4_32 ?_
  obtain ⟨y5, e6, h⟩ := gw_letE h
  rw [← e6]
  refine lv_istore_n (lv' := [(0, .int y5)]) hx hb dJ6_bitCount_0f7a4_33 rfl hl (by decide) rfl (fun ls hl => ?_)
  refine lv_iload_n hx hb dJ6_bitCount_0f7a4_34 rfl (lv_at hl 0 rfl) ?_
  refine lv_iload_n hx hb dJ6_bitCount_0f7a4_35 rfl (lv_at hl 0 rfl) ?_
  refine lv_bipush (v := 8) hx hb dJ6_bitCount_0f7a4_36 (by decide) ?_
  refine lv_iushr hx hb dJ6_bitCount_0f7a4_38 rfl ?_
  refine lv_iadd hx hb dJ6_bitCount_0f7a4_39 ?_
  obtain ⟨y7, e8, h⟩ := gw_letE h
  rw [← e8]
  refine lv_istore_n (lv' := [(0, .int y7)]) hx hb dJ6_bitCount_0f7a4_40 rfl hl (by decide) rfl (fun ls hl => ?_)
  refine lv_iload_n hx hb dJ6_bitCount_0f7a4_41 rfl (lv_at hl 0 rfl) ?_
  refine lv_iload_n hx hb dJ6_bitCount_0f7a4_42 rfl (lv_at hl 0 rfl) ?_
  refine lv_bipush (v := 16) hx hb dJ6_bitCount_0f7a4_43 (by decide) ?_
  refine lv_iushr hx hb dJ6_bitCount_0f7a4_45 rfl ?_
  refine lv_iadd hx hb dJ6_bitCount_0f7a4_46 ?_
  obtain ⟨y9, e10, h⟩ := gw_letE h
  rw [← e10]
  refine lv_istore_n (lv' := [(0, .int y9)]) hx hb dJ6_bitCount_0f7a4_47 rfl hl (by decide) rfl (fun ls hl => ?_)
  refine lv_iload_n hx hb dJ6_bitCount_0f7a4_48 rfl (lv_at hl 0 rfl) ?_
  refine lv_bipush (v := 63) hx hb dJ6_bitCount_0f7a4_49 (by decide) ?_
  refine lv_iand hx hb dJ6_bitCount_0f7a4_51 ?_
  rw [← Option.some.inj h]
  exact gw_iret (W' := (fun w => w = gw_cw cc a b d S)) B hI rfl (Nat.zero_le _) (Nat.zero_le _) dJ6_bitCount_0f7a4_52
theorem m_X2_harmOf_12 : Cond.fieldLink RX2 12 "GownLet$House" "terms" "LGownLet$Terms;" ∈ wsX2_harmOf := by decide +kernel
theorem ly_X2_harmOf_0 : ∀ w ∈ wsX00, w ∈ wsX2_harmOf := fun w h => List.mem_cons_of_mem _ (List.mem_append_left _ (List.mem_append_left _ (List.mem_append_right _ h)))
theorem ly_X2_harmOf_2 : ∀ w ∈ wsX20, w ∈ wsX2_harmOf := fun w h => List.mem_cons_of_mem _ (List.mem_append_left _ (List.mem_append_right _ h))
set_option maxRecDepth 100000 in
set_option maxHeartbeats 4000000 in
theorem k_X2_harmOf (x1 : Int32) (S : gw_S) {zr : Int32} (h : f_X2_harmOf x1 S = some zr) : gw_M l yX2_harmOf wsX2_harmOf rm_X2_harmOf 0 0 D (gw_ty cc) t1 t2 [.ref (a 3), va_rf (gw_rf d x1)] (gw_cw cc a b d S) (fun w => w = gw_cw cc a b d S) (some (.int zr)) := by
  refine gw_enter (cc := cX2_harmOf) (maxL := 3) (ret := (some .int)) (own := RX2) rfl (by decide) rfl (by simp [lg_sl, gw_catq, gw_cI, gw_cR, gw_cL]) ?_
  intro p e s m below meth c A B hin hI ls hl
  have hl : lv_has ls 3 [(0, .ref (a 3)), (1, va_rf (gw_rf d x1))] := by simpa [lv_args, gw_catq, gw_cI, gw_cR, gw_cL] using hl
  generalize ([.ref (a 3), va_rf (gw_rf d x1)] : List Value).toArray = args at B ⊢
  have hx := B.1.1
  have hb := B.1.2.1
  have hown : s.vm.findClass RX2 = some m.cls := B.1.2.2.2.1
  have hts := B.1.2.2.2.2
  unfold f_X2_harmOf at h
  refine gw_aload_n B dX2_harmOf_0 rfl (lv_at hl 1 rfl) ?_
  obtain ⟨g1, h⟩ := gw_gdE h
  rw [gw_rfP g1]
  obtain ⟨g2, h⟩ := gw_gdE h
  refine gw_getN (T := TX0) (k := 12) (v := .int (S (2 * x1.toNatClampNeg + 31) 12)) B hI (gc_gb g2) rfl ly_X2_harmOf_0 (by decide) n_RX2_186 rfl rfl dX2_harmOf_1 ?_
  refine lv_iconst (v := -1) hx hb dX2_harmOf_4 (by decide) ?_
  refine lv_icmp_ne (tgt := 11) hx hb dX2_harmOf_5 (by decide) (fun c3 => ?_) (fun c3 => ?_)
  · replace h := gw_ifF c3 h
    refine gw_aload_n B dX2_harmOf_11 rfl (lv_at hl 1 rfl) ?_
    rw [gw_rfP g1]
    refine gw_getN (T := TX0) (k := 12) (v := .int (S (2 * x1.toNatClampNeg + 31) 12)) B hI (gc_gb g2) rfl ly_X2_harmOf_0 (by decide) n_RX2_186 rfl rfl dX2_harmOf_12 ?_
    refine gw_aload_n B dX2_harmOf_15 rfl (lv_at hl 1 rfl) ?_
    rw [gw_rfP g1]
    refine gw_getN (T := TX0) (k := 11) (v := .int (S (2 * x1.toNatClampNeg + 31) 11)) B hI (gc_gb g2) rfl ly_X2_harmOf_0 (by decide) n_RX2_189 rfl rfl dX2_harmOf_16 ?_
    refine lv_iconst (v := -1) hx hb dX2_harmOf_19 (by decide) ?_
    refine lv_ixor hx hb dX2_harmOf_20 ?_
    refine lv_iand hx hb dX2_harmOf_21 ?_
    obtain ⟨y4, e5, h⟩ := gw_letE h
    rw [← e5]
    refine lv_istore_n (i := 2) (lv' := [(2, .int y4), (0, .ref (a 3)), (1, va_rf (gw_rf d x1))]) hx hb dX2_harmOf_22 rfl hl (by decide) (by simp [gw_catq, gw_cI, gw_cR, gw_cL]) (fun ls hl => ?_)
    refine lv_iload_n hx hb dX2_harmOf_23 rfl (lv_at hl 0 rfl) ?_
    refine lv_sipush (v := 255) hx hb dX2_harmOf_24 (by decide) ?_
    refine lv_iand hx hb dX2_harmOf_27 ?_
    obtain ⟨r6, e7, h⟩ := gw_bdE h
    refine gw_callS (As := [.int (y4 &&& (255 : Int32))]) (n := 1) B hI (k_J6_bitCount_0f7a4 (y4 &&& (255 : Int32)) S e7) gX2_harmOf_J6_bitCount_0f7a4 rfl rfl rfl nds_J6_bitCount_0f7a4 ⟨Nat.le_of_ble_eq_true rfl, Nat.le_of_ble_eq_true rfl⟩ rfl hl.1 (Nat.zero_le _) dX2_harmOf_28 ⟨Nat.le_of_ble_eq_true rfl, Nat.le_of_ble_eq_true rfl⟩ rfl (fun w' H locs hw hI => ?_)
    subst hw
    refine lv_aload_n hx hb dX2_harmOf_31 rfl (lv_at hl 1 rfl) ?_
    refine gw_get (T := TX2) (k := 0) (v := .ref (a 4)) B hI gc_g3 rfl ly_X2_harmOf_2 (by decide) m_X2_harmOf_12 rfl rfl dX2_harmOf_32 ?_
    refine lv_iconst (v := 5) hx hb dX2_harmOf_35 (by decide) ?_
    obtain ⟨r8, e9, h⟩ := gw_bdE h
    refine gw_callV (As := [.int (5 : Int32)]) (n := 1) B hI (k_X7_at (5 : Int32) S e9) gX2_harmOf_X7_at rfl rfl rfl nd_X7_at ⟨Nat.le_of_ble_eq_true rfl, Nat.le_of_ble_eq_true rfl⟩ gc_g4 rfl rfl rfl hl.1 (by simp [gw_catq, gw_cI, gw_cR, gw_cL]) dX2_harmOf_36 ⟨Nat.le_of_ble_eq_true rfl, Nat.le_of_ble_eq_true rfl⟩ rfl (fun w' H locs hw hI => ?_)
    subst hw
    refine lv_imul hx hb dX2_harmOf_39 ?_
    refine lv_iload_n hx hb dX2_harmOf_40 rfl (lv_at hl 0 rfl) ?_
    refine lv_bipush (v := 8) hx hb dX2_harmOf_41 (by decide) ?_
    refine lv_ishr hx hb dX2_harmOf_43 ?_
    obtain ⟨r10, e11, h⟩ := gw_bdE h
    refine gw_callS (As := [.int (y4 >>> ((8 : Int32) &&& 31))]) (n := 1) B hI (k_J6_bitCount_0f7a4 (y4 >>> ((8 : Int32) &&& 31)) S e11) gX2_harmOf_J6_bitCount_0f7a4 rfl rfl rfl nds_J6_bitCount_0f7a4 ⟨Nat.le_of_ble_eq_true rfl, Nat.le_of_ble_eq_true rfl⟩ rfl hl.1 (by simp [gw_catq, gw_cI, gw_cR, gw_cL]) dX2_harmOf_44 ⟨Nat.le_of_ble_eq_true rfl, Nat.le_of_ble_eq_true rfl⟩ rfl (fun w' H locs hw hI => ?_)
    subst hw
    refine lv_aload_n hx hb dX2_harmOf_47 rfl (lv_at hl 1 rfl) ?_
    refine gw_get (T := TX2) (k := 0) (v := .ref (a 4)) B hI gc_g3 rfl ly_X2_harmOf_2 (by decide) m_X2_harmOf_12 rfl rfl dX2_harmOf_48 ?_
    refine lv_bipush (v := 6) hx hb dX2_harmOf_51 (by decide) ?_
    obtain ⟨r12, e13, h⟩ := gw_bdE h
    refine gw_callV (As := [.int (6 : Int32)]) (n := 1) B hI (k_X7_at (6 : Int32) S e13) gX2_harmOf_X7_at rfl rfl rfl nd_X7_at ⟨Nat.le_of_ble_eq_true rfl, Nat.le_of_ble_eq_true rfl⟩ gc_g4 rfl rfl rfl hl.1 (by simp [gw_catq, gw_cI, gw_cR, gw_cL]) dX2_harmOf_53 ⟨Nat.le_of_ble_eq_true rfl, Nat.le_of_ble_eq_true rfl⟩ rfl (fun w' H locs hw hI => ?_)
    subst hw
    refine lv_imul hx hb dX2_harmOf_56 ?_
    refine lv_iadd hx hb dX2_harmOf_57 ?_
    rw [← Option.some.inj h]
    exact gw_iret (W' := (fun w => w = gw_cw cc a b d S)) B hI rfl (Nat.zero_le _) (Nat.zero_le _) dX2_harmOf_58
  · replace h := gw_ifT c3 h
    refine lv_bipush (v := -4) hx hb dX2_harmOf_8 (by decide) ?_
    rw [← Option.some.inj h]
    exact gw_iret (W' := (fun w => w = gw_cw cc a b d S)) B hI rfl (Nat.zero_le _) (Nat.zero_le _) dX2_harmOf_10
theorem m_X2_owedFor_12 : Cond.fieldLink RX2 12 "GownLet$House" "terms" "LGownLet$Terms;" ∈ wsX2_owedFor := by decide +kernel
theorem ly_X2_owedFor_2 : ∀ w ∈ wsX20, w ∈ wsX2_owedFor := fun w h => List.mem_cons_of_mem _ (List.mem_append_left _ (List.mem_append_left _ (List.mem_append_left _ (List.mem_append_right _ h))))
set_option maxRecDepth 100000 in
set_option maxHeartbeats 4000000 in
theorem k_X2_owedFor (x1 : Int32) (S : gw_S) {zr : Int32} (h : f_X2_owedFor x1 S = some zr) : gw_M l yX2_owedFor wsX2_owedFor rm_X2_owedFor 0 0 D (gw_ty cc) t1 t2 [.ref (a 3), va_rf (gw_rf d x1)] (gw_cw cc a b d S) (fun w => w = gw_cw cc a b d S) (some (.int zr)) := by
  refine gw_enter (cc := cX2_owedFor) (maxL := 3) (ret := (some .int)) (own := RX2) rfl (by decide) rfl (by simp [lg_sl, gw_catq, gw_cI, gw_cR, gw_cL]) ?_
  intro p e s m below meth c A B hin hI ls hl
  have hl : lv_has ls 3 [(0, .ref (a 3)), (1, va_rf (gw_rf d x1))] := by simpa [lv_args, gw_catq, gw_cI, gw_cR, gw_cL] using hl
  generalize ([.ref (a 3), va_rf (gw_rf d x1)] : List Value).toArray = args at B ⊢
  have hx := B.1.1
  have hb := B.1.2.1
  have hown : s.vm.findClass RX2 = some m.cls := B.1.2.2.2.1
  have hts := B.1.2.2.2.2
  unfold f_X2_owedFor at h
  refine lv_aload_n hx hb dX2_owedFor_0 rfl (lv_at hl 0 rfl) ?_
  refine gw_aload_n B dX2_owedFor_1 rfl (lv_at hl 1 rfl) ?_
  obtain ⟨r1, e2, h⟩ := gw_bdE h
  refine gw_callV (As := [va_rf (gw_rf d x1)]) (n := 1) B hI (k_X2_harmOf x1 S e2) gX2_owedFor_X2_harmOf rfl rfl rfl nd_X2_harmOf ⟨Nat.le_of_ble_eq_true rfl, Nat.le_of_ble_eq_true rfl⟩ gc_g3 rfl rfl rfl hl.1 (Nat.zero_le _) dX2_owedFor_2 ⟨Nat.le_of_ble_eq_true rfl, Nat.le_of_ble_eq_true rfl⟩ rfl (fun w' H locs hw hI => ?_)
  subst hw
  refine lv_istore_n (i := 2) (lv' := [(2, .int r1), (0, .ref (a 3)), (1, va_rf (gw_rf d x1))]) hx hb dX2_owedFor_5 rfl hl (by decide) (by simp [gw_catq, gw_cI, gw_cR, gw_cL]) (fun ls hl => ?_)
  refine lv_aload_n hx hb dX2_owedFor_6 rfl (lv_at hl 1 rfl) ?_
  refine gw_get (T := TX2) (k := 0) (v := .ref (a 4)) B hI gc_g3 rfl ly_X2_owedFor_2 (by decide) m_X2_owedFor_12 rfl rfl dX2_owedFor_7 ?_
  refine lv_iconst (v := 2) hx hb dX2_owedFor_10 (by decide) ?_
  obtain ⟨r3, e4, h⟩ := gw_bdE h
  refine gw_callV (As := [.int (2 : Int32)]) (n := 1) B hI (k_X7_at (2 : Int32) S e4) gX2_owedFor_X7_at rfl rfl rfl nd_X7_at ⟨Nat.le_of_ble_eq_true rfl, Nat.le_of_ble_eq_true rfl⟩ gc_g4 rfl rfl rfl hl.1 (Nat.zero_le _) dX2_owedFor_11 ⟨Nat.le_of_ble_eq_true rfl, Nat.le_of_ble_eq_true rfl⟩ rfl (fun w' H locs hw hI => ?_)
  subst hw
  refine lv_aload_n hx hb dX2_owedFor_14 rfl (lv_at hl 1 rfl) ?_
  refine gw_aload_n B dX2_owedFor_15 rfl (lv_at hl 2 rfl) ?_
  obtain ⟨r5, e6, h⟩ := gw_bdE h
  refine gw_callV (As := [va_rf (gw_rf d x1)]) (n := 1) B hI (k_X2_daysLate x1 S e6) gX2_owedFor_X2_daysLate rfl rfl rfl nd_X2_daysLate ⟨Nat.le_of_ble_eq_true rfl, Nat.le_of_ble_eq_true rfl⟩ gc_g3 rfl rfl rfl hl.1 (by simp [gw_catq, gw_cI, gw_cR, gw_cL]) dX2_owedFor_16 ⟨Nat.le_of_ble_eq_true rfl, Nat.le_of_ble_eq_true rfl⟩ rfl (fun w' H locs hw hI => ?_)
  subst hw
  refine lv_imul hx hb dX2_owedFor_19 ?_
  refine lv_iload_n hx hb dX2_owedFor_20 rfl (lv_at hl 0 rfl) ?_
  refine lv_bipush (v := -4) hx hb dX2_owedFor_21 (by decide) ?_
  refine lv_icmp_ne (tgt := 30) hx hb dX2_owedFor_23 (by decide) (fun c7 => ?_) (fun c7 => ?_)
  · replace h := gw_ifF c7 h
    refine lv_iload_n hx hb dX2_owedFor_30 rfl (lv_at hl 0 rfl) ?_
    refine lv_iadd hx hb dX2_owedFor_31 ?_
    rw [← Option.some.inj h]
    exact gw_iret (W' := (fun w => w = gw_cw cc a b d S)) B hI rfl (Nat.zero_le _) (Nat.zero_le _) dX2_owedFor_32
  · replace h := gw_ifT c7 h
    refine lv_iconst (v := 0) hx hb dX2_owedFor_26 (by decide) ?_
    refine lv_goto (tgt := 31) hx hb dX2_owedFor_27 (by decide) ?_
    refine lv_iadd hx hb dX2_owedFor_31 ?_
    rw [← Option.some.inj h]
    exact gw_iret (W' := (fun w => w = gw_cw cc a b d S)) B hI rfl (Nat.zero_le _) (Nat.zero_le _) dX2_owedFor_32
theorem m_X2_knownOn_49 : Cond.fieldLink RX2 49 "GownLet$House" "bookingCount" "I" ∈ wsX2_knownOn := by decide +kernel
theorem ly_X2_knownOn_0 : ∀ w ∈ wsX00, w ∈ wsX2_knownOn := fun w h => List.mem_cons_of_mem _ (List.mem_append_right _ h)
theorem ly_X2_knownOn_2 : ∀ w ∈ wsX20, w ∈ wsX2_knownOn := fun w h => List.mem_cons_of_mem _ (List.mem_append_left _ (List.mem_append_right _ h))
set_option maxRecDepth 100000 in
set_option maxHeartbeats 4000000 in
theorem k_X2_knownOn (x1 : Int32) (x2 : Int32) (x3 : Int32) (S : gw_S) {zr : Int32} (h : f_X2_knownOn x1 x2 x3 S = some zr) : gw_M l yX2_knownOn wsX2_knownOn rm_X2_knownOn 0 0 D (gw_ty cc) t1 t2 [.ref (a 3), .int x1, .int x2, .int x3] (gw_cw cc a b d S) (fun w => w = gw_cw cc a b d S) (some (.int zr)) := by
  refine gw_enter (cc := cX2_knownOn) (maxL := 7) (ret := (some .int)) (own := RX2) rfl (by decide) rfl (Nat.le_of_ble_eq_true rfl) ?_
  intro p e s m below meth c A B hin hI ls hl
  have hl : lv_has ls 7 [(0, .ref (a 3)), (1, .int x1), (2, .int x2), (3, .int x3)] := hl
  generalize ([.ref (a 3), .int x1, .int x2, .int x3] : List Value).toArray = args at B ⊢
  have hx := B.1.1
  have hb := B.1.2.1
  have hown : s.vm.findClass RX2 = some m.cls := B.1.2.2.2.1
  have hts := B.1.2.2.2.2
  have hb53 : ∀ (K6 : Int32 → Int32 → Int32 → Int32 → Int32 → Option (Int32)) (_ : ∀ (v1 : Int32) (v2 : Int32) (v3 : Int32) (v4 : Int32) (v5 : Int32), K6 v1 v2 v3 v4 v5 = some zr → ∀ (H : Heap) (locs : List Loc) (ls : Array Slot), gw_I D A s.heap (gw_cw cc a b d S) H locs → lv_has ls 7 [(0, .ref (a 3)), (1, .int v1), (2, .int v2), (3, .int v3), (4, .int v4), (5, .int v5)] → W p l e rm_X2_knownOn s m args below meth c H locs 0 0 (MQ below (gw_Q (some (.int zr)) (gw_Pst D A (fun w => w = gw_cw cc a b d S)) A) args s 0 0 A) (F0 m 6 ls [])), ∀ (v1 : Int32) (v2 : Int32) (v3 : Int32) (v4 : Int32) (v5 : Int32), f_X2_knownOn_b53 S K6 v1 v2 v3 v4 v5 = some zr → ∀ (H : Heap) (locs : List Loc) (ls : Array Slot), gw_I D A s.heap (gw_cw cc a b d S) H locs → lv_has ls 7 [(0, .ref (a 3)), (1, .int v1), (2, .int v2), (3, .int v3), (4, .int v4), (5, .int v5)] → W p l e rm_X2_knownOn s m args below meth c H locs 0 0 (MQ below (gw_Q (some (.int zr)) (gw_Pst D A (fun w => w = gw_cw cc a b d S)) A) args s 0 0 A) (F0 m 53 ls []) := by
    intro K6 hK6
    intro v1 v2 v3 v4 v5 h H locs ls hI hl
    unfold f_X2_knownOn_b53 at h
    obtain ⟨y1, e2, h⟩ := gw_letE h
    refine lv_iinc (v := y1) (lv' := [(5, .int y1), (0, .ref (a 3)), (1, .int v1), (2, .int v2), (3, .int v3), (4, .int v4)]) hx hb dX2_knownOn_53 hl (k := 5) rfl (by rw [e2]; rfl) (by decide) rfl (fun ls hl => ?_)
    refine lv_goto (tgt := 6) hx hb dX2_knownOn_56 (by decide) ?_
    exact hK6 v1 v2 v3 v4 y1 h _ _ _ hI (lv_sub hl [1, 2, 3, 4, 5, 0] rfl)
  have hb6 :  ∀ (n : Nat), ∀ (v1 : Int32) (v2 : Int32) (v3 : Int32) (v4 : Int32) (v5 : Int32), f_X2_knownOn_b6 S  n v1 v2 v3 v4 v5 = some zr → ∀ (H : Heap) (locs : List Loc) (ls : Array Slot), gw_I D A s.heap (gw_cw cc a b d S) H locs → lv_has ls 7 [(0, .ref (a 3)), (1, .int v1), (2, .int v2), (3, .int v3), (4, .int v4), (5, .int v5)] → W p l e rm_X2_knownOn s m args below meth c H locs 0 0 (MQ below (gw_Q (some (.int zr)) (gw_Pst D A (fun w => w = gw_cw cc a b d S)) A) args s 0 0 A) (F0 m 6 ls []) := by
    intro n
    induction n with
    | zero =>
      intro v1 v2 v3 v4 v5 h
      cases h
    | succ n ih =>
      intro v1 v2 v3 v4 v5 h H locs ls hI hl
      unfold f_X2_knownOn_b6 at h
      refine lv_iload hx hb dX2_knownOn_6 (lv_at hl 5 rfl) ?_
      refine lv_aload_n hx hb dX2_knownOn_8 rfl (lv_at hl 0 rfl) ?_
      refine gw_get (T := TX2) (k := 7) (v := .int (S 3 7)) B hI gc_g3 rfl ly_X2_knownOn_2 (by decide) m_X2_knownOn_49 rfl rfl dX2_knownOn_9 ?_
      refine lv_icmp_ge (tgt := 59) hx hb dX2_knownOn_12 (by decide) (fun c3 => ?_) (fun c3 => ?_)
      · replace h := gw_ifT c3 h
        refine lv_iload hx hb dX2_knownOn_59 (lv_at hl 4 rfl) ?_
        rw [← Option.some.inj h]
        exact gw_iret (W' := (fun w => w = gw_cw cc a b d S)) B hI rfl (Nat.zero_le _) (Nat.zero_le _) dX2_knownOn_61
      · replace h := gw_ifF c3 h
        refine lv_aload_n hx hb dX2_knownOn_15 rfl (lv_at hl 0 rfl) ?_
        refine lv_iload hx hb dX2_knownOn_16 (lv_at hl 5 rfl) ?_
        obtain ⟨r4, e5, h⟩ := gw_bdE h
        refine gw_callV (As := [.int v5]) (n := 1) B hI (k_X2_bookingAt v5 S e5) gX2_knownOn_X2_bookingAt rfl rfl rfl nd_X2_bookingAt ⟨Nat.le_of_ble_eq_true rfl, Nat.le_of_ble_eq_true rfl⟩ gc_g3 rfl rfl rfl hl.1 (Nat.zero_le _) dX2_knownOn_18 ⟨Nat.le_of_ble_eq_true rfl, Nat.le_of_ble_eq_true rfl⟩ rfl (fun w' H locs hw hI => ?_)
        subst hw
        refine gw_astore (lv' := [(6, va_rf (gw_rf d r4)), (0, .ref (a 3)), (1, .int v1), (2, .int v2), (3, .int v3), (4, .int v4), (5, .int v5)]) B dX2_knownOn_21 hl (by decide) rfl (fun ls hl => ?_)
        refine gw_aload B dX2_knownOn_23 (lv_at hl 0 rfl) ?_
        refine gw_ifnull (tgt := 53) B dX2_knownOn_25 (by decide) (fun c6 => ?_) (fun c6 => ?_)
        · replace h := gw_ifT c6 h
          exact hb53 (f_X2_knownOn_b6 S  n) ih v1 v2 v3 v4 v5 h _ _ _ hI (lv_sub hl [1, 2, 3, 4, 5, 6] rfl)
        · replace h := gw_ifF c6 h
          refine gw_aload B dX2_knownOn_28 (lv_at hl 0 rfl) ?_
          refine lv_iload_n hx hb dX2_knownOn_30 rfl (lv_at hl 2 rfl) ?_
          rw [gw_rfP c6]
          obtain ⟨g7, h⟩ := gw_gdE h
          obtain ⟨r8, e9, h⟩ := gw_bdE h
          refine gw_callV (As := [.int v1]) (n := 1) B hI (k_X0_isKnownOn r4 v1 S e9) gX2_knownOn_X0_isKnownOn rfl rfl rfl nd_X0_isKnownOn ⟨Nat.le_of_ble_eq_true rfl, Nat.le_of_ble_eq_true rfl⟩ (gc_gb g7) rfl rfl rfl hl.1 (Nat.zero_le _) dX2_knownOn_31 ⟨Nat.le_of_ble_eq_true rfl, Nat.le_of_ble_eq_true rfl⟩ rfl (fun w' H locs hw hI => ?_)
          subst hw
          refine lv_if_eq (tgt := 53) hx hb dX2_knownOn_34 (by decide) (fun c10 => ?_) (fun c10 => ?_)
          · replace h := gw_ifT c10 h
            exact hb53 (f_X2_knownOn_b6 S  n) ih v1 v2 v3 v4 v5 h _ _ _ hI (lv_sub hl [1, 2, 3, 4, 5, 6] rfl)
          · replace h := gw_ifF c10 h
            refine gw_aload B dX2_knownOn_37 (lv_at hl 0 rfl) ?_
            rw [gw_rfP c6]
            refine gw_getN (T := TX0) (k := 3) (v := .int (S (2 * r4.toNatClampNeg + 31) 3)) B hI (gc_gb g7) rfl ly_X2_knownOn_0 (by decide) n_RX2_102 rfl rfl dX2_knownOn_39 ?_
            refine lv_iload_n hx hb dX2_knownOn_42 rfl (lv_at hl 3 rfl) ?_
            refine lv_iload_n hx hb dX2_knownOn_43 rfl (lv_at hl 4 rfl) ?_
            obtain ⟨r11, e12, h⟩ := gw_bdE h
            refine gw_callSN (As := [.int (S (2 * r4.toNatClampNeg + 31) 3), .int v2, .int v3]) (n := 3) B hI (k_X8_isIn (S (2 * r4.toNatClampNeg + 31) 3) v2 v3 S e12) ggX2_knownOn_X8_isIn rfl rfl rfl n_RX2_X8_isIn (by decide +kernel) (by decide +kernel) nds_X8_isIn ⟨Nat.le_of_ble_eq_true rfl, Nat.le_of_ble_eq_true rfl⟩ rfl hl.1 (Nat.zero_le _) dX2_knownOn_44 ⟨Nat.le_of_ble_eq_true rfl, Nat.le_of_ble_eq_true rfl⟩ rfl (fun w' H locs hw hI => ?_)
            subst hw
            refine lv_if_eq (tgt := 53) hx hb dX2_knownOn_47 (by decide) (fun c13 => ?_) (fun c13 => ?_)
            · replace h := gw_ifT c13 h
              exact hb53 (f_X2_knownOn_b6 S  n) ih v1 v2 v3 v4 v5 h _ _ _ hI (lv_sub hl [1, 2, 3, 4, 5, 6] rfl)
            · replace h := gw_ifF c13 h
              obtain ⟨y14, e15, h⟩ := gw_letE h
              refine lv_iinc (v := y14) (lv' := [(4, .int y14), (6, va_rf (gw_rf d r4)), (0, .ref (a 3)), (1, .int v1), (2, .int v2), (3, .int v3), (5, .int v5)]) hx hb dX2_knownOn_50 hl (k := 5) rfl (by rw [e15]; rfl) (by decide) rfl (fun ls hl => ?_)
              exact hb53 (f_X2_knownOn_b6 S  n) ih v1 v2 v3 y14 v5 h _ _ _ hI (lv_sub hl [2, 3, 4, 5, 0, 6] rfl)
  unfold f_X2_knownOn at h
  refine lv_iconst (v := 0) hx hb dX2_knownOn_0 (by decide) ?_
  refine lv_istore (lv' := [(4, .int (0 : Int32)), (0, .ref (a 3)), (1, .int x1), (2, .int x2), (3, .int x3)]) hx hb dX2_knownOn_1 hl (by decide) rfl (fun ls hl => ?_)
  refine lv_iconst (v := 0) hx hb dX2_knownOn_3 (by decide) ?_
  refine lv_istore (lv' := [(5, .int (0 : Int32)), (4, .int (0 : Int32)), (0, .ref (a 3)), (1, .int x1), (2, .int x2), (3, .int x3)]) hx hb dX2_knownOn_4 hl (by decide) rfl (fun ls hl => ?_)
  exact hb6  gw_F x1 x2 x3 (0 : Int32) (0 : Int32) h _ _ _ hI (lv_sub hl [2, 3, 4, 5, 1, 0] rfl)
theorem m_X4_tally_40 : Cond.fieldLink RX4 40 "GownLet$Piece" "worn" "I" ∈ wsX4_tally := by decide +kernel
theorem ly_X4_tally_4 : ∀ w ∈ wsX40, w ∈ wsX4_tally := fun w h => List.mem_cons_of_mem _ (List.mem_append_right _ h)
set_option maxRecDepth 100000 in
set_option maxHeartbeats 4000000 in
theorem k_X4_tally (x0 : Int32) (x1 : Int32) (S : gw_S) {zr : Int32} (h : f_X4_tally x0 x1 S = some zr) : gw_M l yX4_tally wsX4_tally rm_X4_tally 0 0 D (gw_ty cc) t1 t2 [.ref (b x0.toNatClampNeg), .int x1] (gw_cw cc a b d S) (fun w => w = gw_cw cc a b d S) (some (.int zr)) := by
  refine gw_enter (cc := cX4_tally) (maxL := 2) (ret := (some .int)) (own := RX4) rfl (by decide) rfl (Nat.le_of_ble_eq_true rfl) ?_
  intro p e s m below meth c A B hin hI ls hl
  have hl : lv_has ls 2 [(0, .ref (b x0.toNatClampNeg)), (1, .int x1)] := hl
  generalize ([.ref (b x0.toNatClampNeg), .int x1] : List Value).toArray = args at B ⊢
  have hx := B.1.1
  have hb := B.1.2.1
  have hown : s.vm.findClass RX4 = some m.cls := B.1.2.2.2.1
  have hts := B.1.2.2.2.2
  unfold f_X4_tally at h
  refine lv_iload_n hx hb dX4_tally_0 rfl (lv_at hl 1 rfl) ?_
  by_cases c1 : x1 = 1
  · replace h := gw_ifT c1 h
    refine gw_lookIn (k := 1) (off := 35) (tgt := 36) B c1 dX4_tally_1 (by decide) (by decide) (by decide) ?_
    refine lv_aload_n hx hb dX4_tally_36 rfl (lv_at hl 0 rfl) ?_
    obtain ⟨g2, h⟩ := gw_gdE h
    obtain ⟨r3, e4, h⟩ := gw_bdE h
    refine gw_callV (As := []) (n := 0) B hI (k_X4_isRetired x0 S e4) gX4_tally_X4_isRetired rfl rfl rfl nd_X4_isRetired ⟨Nat.le_of_ble_eq_true rfl, Nat.le_of_ble_eq_true rfl⟩ (gc_gp g2) rfl rfl rfl hl.1 (Nat.zero_le _) dX4_tally_37 ⟨Nat.le_of_ble_eq_true rfl, Nat.le_of_ble_eq_true rfl⟩ rfl (fun w' H locs hw hI => ?_)
    subst hw
    refine lv_if_eq (tgt := 47) hx hb dX4_tally_40 (by decide) (fun c5 => ?_) (fun c5 => ?_)
    · replace h := gw_ifT c5 h
      refine lv_iconst (v := 0) hx hb dX4_tally_47 (by decide) ?_
      rw [← Option.some.inj h]
      exact gw_iret (W' := (fun w => w = gw_cw cc a b d S)) B hI rfl (Nat.zero_le _) (Nat.zero_le _) dX4_tally_48
    · replace h := gw_ifF c5 h
      refine lv_iconst (v := 1) hx hb dX4_tally_43 (by decide) ?_
      refine lv_goto (tgt := 48) hx hb dX4_tally_44 (by decide) ?_
      rw [← Option.some.inj h]
      exact gw_iret (W' := (fun w => w = gw_cw cc a b d S)) B hI rfl (Nat.zero_le _) (Nat.zero_le _) dX4_tally_48
  · replace h := gw_ifF c1 h
    by_cases c6 : x1 = 2
    · replace h := gw_ifT c6 h
      refine gw_lookIn (k := 2) (off := 48) (tgt := 49) B c6 dX4_tally_1 (by decide) (by decide) (by decide) ?_
      refine lv_aload_n hx hb dX4_tally_49 rfl (lv_at hl 0 rfl) ?_
      obtain ⟨g7, h⟩ := gw_gdE h
      obtain ⟨r8, e9, h⟩ := gw_bdE h
      refine gw_callV (As := []) (n := 0) B hI (k_X4_isTorn x0 S e9) gX4_tally_X4_isTorn rfl rfl rfl nd_X4_isTorn ⟨Nat.le_of_ble_eq_true rfl, Nat.le_of_ble_eq_true rfl⟩ (gc_gp g7) rfl rfl rfl hl.1 (Nat.zero_le _) dX4_tally_50 ⟨Nat.le_of_ble_eq_true rfl, Nat.le_of_ble_eq_true rfl⟩ rfl (fun w' H locs hw hI => ?_)
      subst hw
      refine lv_if_eq (tgt := 60) hx hb dX4_tally_53 (by decide) (fun c10 => ?_) (fun c10 => ?_)
      · replace h := gw_ifT c10 h
        refine lv_iconst (v := 0) hx hb dX4_tally_60 (by decide) ?_
        rw [← Option.some.inj h]
        exact gw_iret (W' := (fun w => w = gw_cw cc a b d S)) B hI rfl (Nat.zero_le _) (Nat.zero_le _) dX4_tally_61
      · replace h := gw_ifF c10 h
        refine lv_iconst (v := 1) hx hb dX4_tally_56 (by decide) ?_
        refine lv_goto (tgt := 61) hx hb dX4_tally_57 (by decide) ?_
        rw [← Option.some.inj h]
        exact gw_iret (W' := (fun w => w = gw_cw cc a b d S)) B hI rfl (Nat.zero_le _) (Nat.zero_le _) dX4_tally_61
    · replace h := gw_ifF c6 h
      by_cases c11 : x1 = 7
      · replace h := gw_ifT c11 h
        refine gw_lookIn (k := 7) (off := 61) (tgt := 62) B c11 dX4_tally_1 (by decide) (by decide) (by decide) ?_
        refine lv_aload_n hx hb dX4_tally_62 rfl (lv_at hl 0 rfl) ?_
        obtain ⟨g12, h⟩ := gw_gdE h
        refine gw_get (T := TX4) (k := 9) (v := .int (S (2 * x0.toNatClampNeg + 30) 9)) B hI (gc_gp g12) rfl ly_X4_tally_4 (by decide) m_X4_tally_40 rfl rfl dX4_tally_63 ?_
        rw [← Option.some.inj h]
        exact gw_iret (W' := (fun w => w = gw_cw cc a b d S)) B hI rfl (Nat.zero_le _) (Nat.zero_le _) dX4_tally_66
      · replace h := gw_ifF c11 h
        refine lv_lookup (off := 66) (tgt := 67) hx hb dX4_tally_1 (by decide) ((lv_osw c1 (by decide)).trans ((lv_osw c6 (by decide)).trans ((lv_osw c11 (by decide)).trans (rfl)))) (by decide) ?_
        refine lv_iconst (v := 0) hx hb dX4_tally_67 (by decide) ?_
        rw [← Option.some.inj h]
        exact gw_iret (W' := (fun w => w = gw_cw cc a b d S)) B hI rfl (Nat.zero_le _) (Nat.zero_le _) dX4_tally_68
theorem m_X2_tallyPieces_45 : Cond.fieldLink RX2 45 "GownLet$House" "pieceCount" "I" ∈ wsX2_tallyPieces := by decide +kernel
theorem ly_X2_tallyPieces_2 : ∀ w ∈ wsX20, w ∈ wsX2_tallyPieces := fun w h => List.mem_cons_of_mem _ (List.mem_append_left _ (List.mem_append_right _ h))
set_option maxRecDepth 100000 in
set_option maxHeartbeats 4000000 in
theorem k_X2_tallyPieces (x1 : Int32) (S : gw_S) {zr : Int32} (h : f_X2_tallyPieces x1 S = some zr) : gw_M l yX2_tallyPieces wsX2_tallyPieces rm_X2_tallyPieces 0 0 D (gw_ty cc) t1 t2 [.ref (a 3), .int x1] (gw_cw cc a b d S) (fun w => w = gw_cw cc a b d S) (some (.int zr)) := by
  refine gw_enter (cc := cX2_tallyPieces) (maxL := 5) (ret := (some .int)) (own := RX2) rfl (by decide) rfl (Nat.le_of_ble_eq_true rfl) ?_
  intro p e s m below meth c A B hin hI ls hl
  have hl : lv_has ls 5 [(0, .ref (a 3)), (1, .int x1)] := hl
  generalize ([.ref (a 3), .int x1] : List Value).toArray = args at B ⊢
  have hx := B.1.1
  have hb := B.1.2.1
  have hown : s.vm.findClass RX2 = some m.cls := B.1.2.2.2.1
  have hts := B.1.2.2.2.2
  have hb33 : ∀ (K4 : Int32 → Int32 → Int32 → Option (Int32)) (_ : ∀ (v1 : Int32) (v2 : Int32) (v3 : Int32), K4 v1 v2 v3 = some zr → ∀ (H : Heap) (locs : List Loc) (ls : Array Slot), gw_I D A s.heap (gw_cw cc a b d S) H locs → lv_has ls 5 [(0, .ref (a 3)), (1, .int v1), (2, .int v2), (3, .int v3)] → W p l e rm_X2_tallyPieces s m args below meth c H locs 0 0 (MQ below (gw_Q (some (.int zr)) (gw_Pst D A (fun w => w = gw_cw cc a b d S)) A) args s 0 0 A) (F0 m 4 ls [])), ∀ (v1 : Int32) (v2 : Int32) (v3 : Int32), f_X2_tallyPieces_b33 S K4 v1 v2 v3 = some zr → ∀ (H : Heap) (locs : List Loc) (ls : Array Slot), gw_I D A s.heap (gw_cw cc a b d S) H locs → lv_has ls 5 [(0, .ref (a 3)), (1, .int v1), (2, .int v2), (3, .int v3)] → W p l e rm_X2_tallyPieces s m args below meth c H locs 0 0 (MQ below (gw_Q (some (.int zr)) (gw_Pst D A (fun w => w = gw_cw cc a b d S)) A) args s 0 0 A) (F0 m 33 ls []) := by
    intro K4 hK4
    intro v1 v2 v3 h H locs ls hI hl
    unfold f_X2_tallyPieces_b33 at h
    obtain ⟨y1, e2, h⟩ := gw_letE h
    refine lv_iinc (v := y1) (lv' := [(3, .int y1), (0, .ref (a 3)), (1, .int v1), (2, .int v2)]) hx hb dX2_tallyPieces_33 hl (k := 3) rfl (by rw [e2]; rfl) (by decide) rfl (fun ls hl => ?_)
    refine lv_goto (tgt := 4) hx hb dX2_tallyPieces_36 (by decide) ?_
    exact hK4 v1 v2 y1 h _ _ _ hI (lv_sub hl [1, 2, 3, 0] rfl)
  have hb4 :  ∀ (n : Nat), ∀ (v1 : Int32) (v2 : Int32) (v3 : Int32), f_X2_tallyPieces_b4 S  n v1 v2 v3 = some zr → ∀ (H : Heap) (locs : List Loc) (ls : Array Slot), gw_I D A s.heap (gw_cw cc a b d S) H locs → lv_has ls 5 [(0, .ref (a 3)), (1, .int v1), (2, .int v2), (3, .int v3)] → W p l e rm_X2_tallyPieces s m args below meth c H locs 0 0 (MQ below (gw_Q (some (.int zr)) (gw_Pst D A (fun w => w = gw_cw cc a b d S)) A) args s 0 0 A) (F0 m 4 ls []) := by
    intro n
    induction n with
    | zero =>
      intro v1 v2 v3 h
      cases h
    | succ n ih =>
      intro v1 v2 v3 h H locs ls hI hl
      unfold f_X2_tallyPieces_b4 at h
      refine lv_iload_n hx hb dX2_tallyPieces_4 rfl (lv_at hl 3 rfl) ?_
      refine lv_aload_n hx hb dX2_tallyPieces_5 rfl (lv_at hl 0 rfl) ?_
      refine gw_get (T := TX2) (k := 6) (v := .int (S 3 6)) B hI gc_g3 rfl ly_X2_tallyPieces_2 (by decide) m_X2_tallyPieces_45 rfl rfl dX2_tallyPieces_6 ?_
      refine lv_icmp_ge (tgt := 39) hx hb dX2_tallyPieces_9 (by decide) (fun c3 => ?_) (fun c3 => ?_)
      · replace h := gw_ifT c3 h
        refine lv_iload_n hx hb dX2_tallyPieces_39 rfl (lv_at hl 2 rfl) ?_
        rw [← Option.some.inj h]
        exact gw_iret (W' := (fun w => w = gw_cw cc a b d S)) B hI rfl (Nat.zero_le _) (Nat.zero_le _) dX2_tallyPieces_40
      · replace h := gw_ifF c3 h
        refine lv_aload_n hx hb dX2_tallyPieces_12 rfl (lv_at hl 0 rfl) ?_
        refine lv_iload_n hx hb dX2_tallyPieces_13 rfl (lv_at hl 3 rfl) ?_
        obtain ⟨r4, e5, h⟩ := gw_bdE h
        refine gw_callV (As := [.int v3]) (n := 1) B hI (k_X2_pieceAt v3 S e5) gX2_tallyPieces_X2_pieceAt rfl rfl rfl nd_X2_pieceAt ⟨Nat.le_of_ble_eq_true rfl, Nat.le_of_ble_eq_true rfl⟩ gc_g3 rfl rfl rfl hl.1 (Nat.zero_le _) dX2_tallyPieces_14 ⟨Nat.le_of_ble_eq_true rfl, Nat.le_of_ble_eq_true rfl⟩ rfl (fun w' H locs hw hI => ?_)
        subst hw
        refine gw_astore (lv' := [(4, va_rf (gw_rf b r4)), (0, .ref (a 3)), (1, .int v1), (2, .int v2), (3, .int v3)]) B dX2_tallyPieces_17 hl (by decide) rfl (fun ls hl => ?_)
        refine gw_aload B dX2_tallyPieces_19 (lv_at hl 0 rfl) ?_
        refine gw_ifnull (tgt := 33) B dX2_tallyPieces_21 (by decide) (fun c6 => ?_) (fun c6 => ?_)
        · replace h := gw_ifT c6 h
          exact hb33 (f_X2_tallyPieces_b4 S  n) ih v1 v2 v3 h _ _ _ hI (lv_sub hl [1, 2, 3, 4] rfl)
        · replace h := gw_ifF c6 h
          refine lv_iload_n hx hb dX2_tallyPieces_24 rfl (lv_at hl 3 rfl) ?_
          refine gw_aload B dX2_tallyPieces_25 (lv_at hl 0 rfl) ?_
          refine lv_iload_n hx hb dX2_tallyPieces_27 rfl (lv_at hl 2 rfl) ?_
          rw [gw_rfP c6]
          obtain ⟨g7, h⟩ := gw_gdE h
          obtain ⟨r8, e9, h⟩ := gw_bdE h
          refine gw_callV (As := [.int v1]) (n := 1) B hI (k_X4_tally r4 v1 S e9) gX2_tallyPieces_X4_tally rfl rfl rfl nd_X4_tally ⟨Nat.le_of_ble_eq_true rfl, Nat.le_of_ble_eq_true rfl⟩ (gc_gp g7) rfl rfl rfl hl.1 (by simp [gw_catq, gw_cI, gw_cR, gw_cL]) dX2_tallyPieces_28 ⟨Nat.le_of_ble_eq_true rfl, Nat.le_of_ble_eq_true rfl⟩ rfl (fun w' H locs hw hI => ?_)
          subst hw
          refine lv_iadd hx hb dX2_tallyPieces_31 ?_
          obtain ⟨y10, e11, h⟩ := gw_letE h
          rw [← e11]
          refine lv_istore_n (lv' := [(2, .int y10), (4, va_rf (gw_rf b r4)), (0, .ref (a 3)), (1, .int v1), (3, .int v3)]) hx hb dX2_tallyPieces_32 rfl hl (by decide) rfl (fun ls hl => ?_)
          exact hb33 (f_X2_tallyPieces_b4 S  n) ih v1 y10 v3 h _ _ _ hI (lv_sub hl [2, 3, 0, 4] rfl)
  unfold f_X2_tallyPieces at h
  refine lv_iconst (v := 0) hx hb dX2_tallyPieces_0 (by decide) ?_
  refine lv_istore_n (lv' := [(2, .int (0 : Int32)), (0, .ref (a 3)), (1, .int x1)]) hx hb dX2_tallyPieces_1 rfl hl (by decide) rfl (fun ls hl => ?_)
  refine lv_iconst (v := 0) hx hb dX2_tallyPieces_2 (by decide) ?_
  refine lv_istore_n (lv' := [(3, .int (0 : Int32)), (2, .int (0 : Int32)), (0, .ref (a 3)), (1, .int x1)]) hx hb dX2_tallyPieces_3 rfl hl (by decide) rfl (fun ls hl => ?_)
  exact hb4  gw_F x1 (0 : Int32) (0 : Int32) h _ _ _ hI (lv_sub hl [2, 3, 1, 0] rfl)
theorem m_X2_tallyBookings_49 : Cond.fieldLink RX2 49 "GownLet$House" "bookingCount" "I" ∈ wsX2_tallyBookings := by decide +kernel
theorem ly_X2_tallyBookings_2 : ∀ w ∈ wsX20, w ∈ wsX2_tallyBookings := fun w h => List.mem_cons_of_mem _ (List.mem_append_left _ (List.mem_append_right _ h))
set_option maxRecDepth 100000 in
set_option maxHeartbeats 4000000 in
theorem k_X2_tallyBookings (x1 : Int32) (S : gw_S) {zr : Int32} (h : f_X2_tallyBookings x1 S = some zr) : gw_M l yX2_tallyBookings wsX2_tallyBookings rm_X2_tallyBookings 0 0 D (gw_ty cc) t1 t2 [.ref (a 3), .int x1] (gw_cw cc a b d S) (fun w => w = gw_cw cc a b d S) (some (.int zr)) := by
  refine gw_enter (cc := cX2_tallyBookings) (maxL := 5) (ret := (some .int)) (own := RX2) rfl (by decide) rfl (Nat.le_of_ble_eq_true rfl) ?_
  intro p e s m below meth c A B hin hI ls hl
  have hl : lv_has ls 5 [(0, .ref (a 3)), (1, .int x1)] := hl
  generalize ([.ref (a 3), .int x1] : List Value).toArray = args at B ⊢
  have hx := B.1.1
  have hb := B.1.2.1
  have hown : s.vm.findClass RX2 = some m.cls := B.1.2.2.2.1
  have hts := B.1.2.2.2.2
  have hb33 : ∀ (K4 : Int32 → Int32 → Int32 → Option (Int32)) (_ : ∀ (v1 : Int32) (v2 : Int32) (v3 : Int32), K4 v1 v2 v3 = some zr → ∀ (H : Heap) (locs : List Loc) (ls : Array Slot), gw_I D A s.heap (gw_cw cc a b d S) H locs → lv_has ls 5 [(0, .ref (a 3)), (1, .int v1), (2, .int v2), (3, .int v3)] → W p l e rm_X2_tallyBookings s m args below meth c H locs 0 0 (MQ below (gw_Q (some (.int zr)) (gw_Pst D A (fun w => w = gw_cw cc a b d S)) A) args s 0 0 A) (F0 m 4 ls [])), ∀ (v1 : Int32) (v2 : Int32) (v3 : Int32), f_X2_tallyBookings_b33 S K4 v1 v2 v3 = some zr → ∀ (H : Heap) (locs : List Loc) (ls : Array Slot), gw_I D A s.heap (gw_cw cc a b d S) H locs → lv_has ls 5 [(0, .ref (a 3)), (1, .int v1), (2, .int v2), (3, .int v3)] → W p l e rm_X2_tallyBookings s m args below meth c H locs 0 0 (MQ below (gw_Q (some (.int zr)) (gw_Pst D A (fun w => w = gw_cw cc a b d S)) A) args s 0 0 A) (F0 m 33 ls []) := by
    intro K4 hK4
    intro v1 v2 v3 h H locs ls hI hl
    unfold f_X2_tallyBookings_b33 at h
    obtain ⟨y1, e2, h⟩ := gw_letE h
    refine lv_iinc (v := y1) (lv' := [(3, .int y1), (0, .ref (a 3)), (1, .int v1), (2, .int v2)]) hx hb dX2_tallyBookings_33 hl (k := 3) rfl (by rw [e2]; rfl) (by decide) rfl (fun ls hl => ?_)
    refine lv_goto (tgt := 4) hx hb dX2_tallyBookings_36 (by decide) ?_
    exact hK4 v1 v2 y1 h _ _ _ hI (lv_sub hl [1, 2, 3, 0] rfl)
  have hb4 :  ∀ (n : Nat), ∀ (v1 : Int32) (v2 : Int32) (v3 : Int32), f_X2_tallyBookings_b4 S  n v1 v2 v3 = some zr → ∀ (H : Heap) (locs : List Loc) (ls : Array Slot), gw_I D A s.heap (gw_cw cc a b d S) H locs → lv_has ls 5 [(0, .ref (a 3)), (1, .int v1), (2, .int v2), (3, .int v3)] → W p l e rm_X2_tallyBookings s m args below meth c H locs 0 0 (MQ below (gw_Q (some (.int zr)) (gw_Pst D A (fun w => w = gw_cw cc a b d S)) A) args s 0 0 A) (F0 m 4 ls []) := by
    intro n
    induction n with
    | zero =>
      intro v1 v2 v3 h
      cases h
    | succ n ih =>
      intro v1 v2 v3 h H locs ls hI hl
      unfold f_X2_tallyBookings_b4 at h
      refine lv_iload_n hx hb dX2_tallyBookings_4 rfl (lv_at hl 3 rfl) ?_
      refine lv_aload_n hx hb dX2_tallyBookings_5 rfl (lv_at hl 0 rfl) ?_
      refine gw_get (T := TX2) (k := 7) (v := .int (S 3 7)) B hI gc_g3 rfl ly_X2_tallyBookings_2 (by decide) m_X2_tallyBookings_49 rfl rfl dX2_tallyBookings_6 ?_
      refine lv_icmp_ge (tgt := 39) hx hb dX2_tallyBookings_9 (by decide) (fun c3 => ?_) (fun c3 => ?_)
      · replace h := gw_ifT c3 h
        refine lv_iload_n hx hb dX2_tallyBookings_39 rfl (lv_at hl 2 rfl) ?_
        rw [← Option.some.inj h]
        exact gw_iret (W' := (fun w => w = gw_cw cc a b d S)) B hI rfl (Nat.zero_le _) (Nat.zero_le _) dX2_tallyBookings_40
      · replace h := gw_ifF c3 h
        refine lv_aload_n hx hb dX2_tallyBookings_12 rfl (lv_at hl 0 rfl) ?_
        refine lv_iload_n hx hb dX2_tallyBookings_13 rfl (lv_at hl 3 rfl) ?_
        obtain ⟨r4, e5, h⟩ := gw_bdE h
        refine gw_callV (As := [.int v3]) (n := 1) B hI (k_X2_bookingAt v3 S e5) gX2_tallyBookings_X2_bookingAt rfl rfl rfl nd_X2_bookingAt ⟨Nat.le_of_ble_eq_true rfl, Nat.le_of_ble_eq_true rfl⟩ gc_g3 rfl rfl rfl hl.1 (Nat.zero_le _) dX2_tallyBookings_14 ⟨Nat.le_of_ble_eq_true rfl, Nat.le_of_ble_eq_true rfl⟩ rfl (fun w' H locs hw hI => ?_)
        subst hw
        refine gw_astore (lv' := [(4, va_rf (gw_rf d r4)), (0, .ref (a 3)), (1, .int v1), (2, .int v2), (3, .int v3)]) B dX2_tallyBookings_17 hl (by decide) rfl (fun ls hl => ?_)
        refine gw_aload B dX2_tallyBookings_19 (lv_at hl 0 rfl) ?_
        refine gw_ifnull (tgt := 33) B dX2_tallyBookings_21 (by decide) (fun c6 => ?_) (fun c6 => ?_)
        · replace h := gw_ifT c6 h
          exact hb33 (f_X2_tallyBookings_b4 S  n) ih v1 v2 v3 h _ _ _ hI (lv_sub hl [1, 2, 3, 4] rfl)
        · replace h := gw_ifF c6 h
          refine lv_iload_n hx hb dX2_tallyBookings_24 rfl (lv_at hl 3 rfl) ?_
          refine gw_aload B dX2_tallyBookings_25 (lv_at hl 0 rfl) ?_
          refine lv_iload_n hx hb dX2_tallyBookings_27 rfl (lv_at hl 2 rfl) ?_
          rw [gw_rfP c6]
          obtain ⟨g7, h⟩ := gw_gdE h
          obtain ⟨r8, e9, h⟩ := gw_bdE h
          refine gw_callV (As := [.int v1]) (n := 1) B hI (k_X0_tally r4 v1 S e9) gX2_tallyBookings_X0_tally rfl rfl rfl nd_X0_tally ⟨Nat.le_of_ble_eq_true rfl, Nat.le_of_ble_eq_true rfl⟩ (gc_gb g7) rfl rfl rfl hl.1 (by simp [gw_catq, gw_cI, gw_cR, gw_cL]) dX2_tallyBookings_28 ⟨Nat.le_of_ble_eq_true rfl, Nat.le_of_ble_eq_true rfl⟩ rfl (fun w' H locs hw hI => ?_)
          subst hw
          refine lv_iadd hx hb dX2_tallyBookings_31 ?_
          obtain ⟨y10, e11, h⟩ := gw_letE h
          rw [← e11]
          refine lv_istore_n (lv' := [(2, .int y10), (4, va_rf (gw_rf d r4)), (0, .ref (a 3)), (1, .int v1), (3, .int v3)]) hx hb dX2_tallyBookings_32 rfl hl (by decide) rfl (fun ls hl => ?_)
          exact hb33 (f_X2_tallyBookings_b4 S  n) ih v1 y10 v3 h _ _ _ hI (lv_sub hl [2, 3, 0, 4] rfl)
  unfold f_X2_tallyBookings at h
  refine lv_iconst (v := 0) hx hb dX2_tallyBookings_0 (by decide) ?_
  refine lv_istore_n (lv' := [(2, .int (0 : Int32)), (0, .ref (a 3)), (1, .int x1)]) hx hb dX2_tallyBookings_1 rfl hl (by decide) rfl (fun ls hl => ?_)
  refine lv_iconst (v := 0) hx hb dX2_tallyBookings_2 (by decide) ?_
  refine lv_istore_n (lv' := [(3, .int (0 : Int32)), (2, .int (0 : Int32)), (0, .ref (a 3)), (1, .int x1)]) hx hb dX2_tallyBookings_3 rfl hl (by decide) rfl (fun ls hl => ?_)
  exact hb4  gw_F x1 (0 : Int32) (0 : Int32) h _ _ _ hI (lv_sub hl [2, 3, 1, 0] rfl)
theorem m_X3_tighten_9 : Cond.fieldLink RX3 9 "GownLet$Lies" "span" "[I" ∈ wsX3_tighten := by decide +kernel
theorem ly_X3_tighten_3 : ∀ w ∈ wsX30, w ∈ wsX3_tighten := fun w h => List.mem_cons_of_mem _ (List.mem_append_right _ h)
set_option maxRecDepth 100000 in
set_option maxHeartbeats 4000000 in
theorem k_X3_tighten (x1 : Int32) (x2 : Int32) (x3 : Int32) (S : gw_S)  {zS : gw_S} (h : f_X3_tighten x1 x2 x3 S = some zS) : gw_M l yX3_tighten wsX3_tighten rm_X3_tighten 0 0 D (gw_ty cc) t1 t2 [.ref (a 7), .int x1, .int x2, .int x3] (gw_cw cc a b d S) (fun w => w = gw_cw cc a b d zS) none := by
  refine gw_enter (cc := cX3_tighten) (maxL := 5) (ret := none) (own := RX3) rfl (by decide) rfl (Nat.le_of_ble_eq_true rfl) ?_
  intro p e s m below meth c A B hin hI ls hl
  have hl : lv_has ls 5 [(0, .ref (a 7)), (1, .int x1), (2, .int x2), (3, .int x3)] := hl
  generalize ([.ref (a 7), .int x1, .int x2, .int x3] : List Value).toArray = args at B ⊢
  have hx := B.1.1
  have hb := B.1.2.1
  have hown : s.vm.findClass RX3 = some m.cls := B.1.2.2.2.1
  have hts := B.1.2.2.2.2
  unfold f_X3_tighten at h
  refine lv_iload_n hx hb dX3_tighten_0 rfl (lv_at hl 1 rfl) ?_
  refine lv_bipush (v := 6) hx hb dX3_tighten_1 (by decide) ?_
  refine lv_imul hx hb dX3_tighten_3 ?_
  refine lv_iload_n hx hb dX3_tighten_4 rfl (lv_at hl 2 rfl) ?_
  refine lv_iadd hx hb dX3_tighten_5 ?_
  obtain ⟨y1, e2, h⟩ := gw_letE h
  rw [← e2]
  refine lv_istore (lv' := [(4, .int y1), (0, .ref (a 7)), (1, .int x1), (2, .int x2), (3, .int x3)]) hx hb dX3_tighten_6 hl (by decide) rfl (fun ls hl => ?_)
  refine lv_iload hx hb dX3_tighten_8 (lv_at hl 0 rfl) ?_
  refine lv_if_lt (tgt := 42) hx hb dX3_tighten_10 (by decide) (fun c3 => ?_) (fun c3 => ?_)
  · replace h := gw_ifT c3 h
    rw [Option.some.inj h] at hI
    exact gw_vret (W' := (fun w => w = gw_cw cc a b d zS)) B hI rfl (Nat.zero_le _) (Nat.zero_le _) dX3_tighten_42
  · replace h := gw_ifF c3 h
    refine lv_iload hx hb dX3_tighten_13 (lv_at hl 0 rfl) ?_
    refine lv_aload_n hx hb dX3_tighten_15 rfl (lv_at hl 1 rfl) ?_
    refine gw_get (T := TX3) (k := 0) (v := .ref (a 8)) B hI gc_g7 rfl ly_X3_tighten_3 (by decide) m_X3_tighten_9 rfl rfl dX3_tighten_16 ?_
    refine gw_alen (t0 := 0) (v := 36) B hI gc_g8 rfl (by decide) dX3_tighten_19 ?_
    refine lv_icmp_ge (tgt := 42) hx hb dX3_tighten_20 (by decide) (fun c4 => ?_) (fun c4 => ?_)
    · replace h := gw_ifT c4 h
      rw [Option.some.inj h] at hI
      exact gw_vret (W' := (fun w => w = gw_cw cc a b d zS)) B hI rfl (Nat.zero_le _) (Nat.zero_le _) dX3_tighten_42
    · replace h := gw_ifF c4 h
      refine lv_iload_n hx hb dX3_tighten_23 rfl (lv_at hl 4 rfl) ?_
      refine lv_aload_n hx hb dX3_tighten_24 rfl (lv_at hl 1 rfl) ?_
      refine gw_get (T := TX3) (k := 0) (v := .ref (a 8)) B hI gc_g7 rfl ly_X3_tighten_3 (by decide) m_X3_tighten_9 rfl rfl dX3_tighten_25 ?_
      refine lv_iload hx hb dX3_tighten_28 (lv_at hl 0 rfl) ?_
      obtain ⟨g5, h⟩ := gw_gdE h
      refine gw_iald (t0 := 0) B hI gc_g8 rfl g5 dX3_tighten_30 ?_
      refine lv_icmp_ge (tgt := 42) hx hb dX3_tighten_31 (by decide) (fun c6 => ?_) (fun c6 => ?_)
      · replace h := gw_ifT c6 h
        rw [Option.some.inj h] at hI
        exact gw_vret (W' := (fun w => w = gw_cw cc a b d zS)) B hI rfl (Nat.zero_le _) (Nat.zero_le _) dX3_tighten_42
      · replace h := gw_ifF c6 h
        refine lv_aload_n hx hb dX3_tighten_34 rfl (lv_at hl 1 rfl) ?_
        refine gw_get (T := TX3) (k := 0) (v := .ref (a 8)) B hI gc_g7 rfl ly_X3_tighten_3 (by decide) m_X3_tighten_9 rfl rfl dX3_tighten_35 ?_
        refine lv_iload hx hb dX3_tighten_38 (lv_at hl 0 rfl) ?_
        refine lv_iload_n hx hb dX3_tighten_40 rfl (lv_at hl 4 rfl) ?_
        obtain ⟨S7, e8, h⟩ := gw_letE h
        refine gw_iast (t0 := 0) (w' := gw_cw cc a b d S7) B hI gc_g8 rfl g5 (gc_s8 e8) dX3_tighten_41 (fun H locs hI => ?_)
        rw [Option.some.inj h] at hI
        exact gw_vret (W' := (fun w => w = gw_cw cc a b d zS)) B hI rfl (Nat.zero_le _) (Nat.zero_le _) dX3_tighten_42
theorem m_X3_spanOf_9 : Cond.fieldLink RX3 9 "GownLet$Lies" "span" "[I" ∈ wsX3_spanOf := by decide +kernel
theorem ly_X3_spanOf_3 : ∀ w ∈ wsX30, w ∈ wsX3_spanOf := fun w h => List.mem_cons_of_mem _ (List.mem_append_right _ h)
set_option maxRecDepth 100000 in
set_option maxHeartbeats 4000000 in
theorem k_X3_spanOf (x1 : Int32) (x2 : Int32) (S : gw_S) {zr : Int32} (h : f_X3_spanOf x1 x2 S = some zr) : gw_M l yX3_spanOf wsX3_spanOf rm_X3_spanOf 0 0 D (gw_ty cc) t1 t2 [.ref (a 7), .int x1, .int x2] (gw_cw cc a b d S) (fun w => w = gw_cw cc a b d S) (some (.int zr)) := by
  refine gw_enter (cc := cX3_spanOf) (maxL := 4) (ret := (some .int)) (own := RX3) rfl (by decide) rfl (Nat.le_of_ble_eq_true rfl) ?_
  intro p e s m below meth c A B hin hI ls hl
  have hl : lv_has ls 4 [(0, .ref (a 7)), (1, .int x1), (2, .int x2)] := hl
  generalize ([.ref (a 7), .int x1, .int x2] : List Value).toArray = args at B ⊢
  have hx := B.1.1
  have hb := B.1.2.1
  have hown : s.vm.findClass RX3 = some m.cls := B.1.2.2.2.1
  have hts := B.1.2.2.2.2
  unfold f_X3_spanOf at h
  refine lv_iload_n hx hb dX3_spanOf_0 rfl (lv_at hl 1 rfl) ?_
  refine lv_bipush (v := 6) hx hb dX3_spanOf_1 (by decide) ?_
  refine lv_imul hx hb dX3_spanOf_3 ?_
  refine lv_iload_n hx hb dX3_spanOf_4 rfl (lv_at hl 2 rfl) ?_
  refine lv_iadd hx hb dX3_spanOf_5 ?_
  obtain ⟨y1, e2, h⟩ := gw_letE h
  rw [← e2]
  refine lv_istore_n (lv' := [(3, .int y1), (0, .ref (a 7)), (1, .int x1), (2, .int x2)]) hx hb dX3_spanOf_6 rfl hl (by decide) rfl (fun ls hl => ?_)
  refine lv_iload_n hx hb dX3_spanOf_7 rfl (lv_at hl 0 rfl) ?_
  refine lv_if_lt (tgt := 29) hx hb dX3_spanOf_8 (by decide) (fun c3 => ?_) (fun c3 => ?_)
  · replace h := gw_ifT c3 h
    refine lv_iconst (v := 0) hx hb dX3_spanOf_29 (by decide) ?_
    rw [← Option.some.inj h]
    exact gw_iret (W' := (fun w => w = gw_cw cc a b d S)) B hI rfl (Nat.zero_le _) (Nat.zero_le _) dX3_spanOf_30
  · replace h := gw_ifF c3 h
    refine lv_iload_n hx hb dX3_spanOf_11 rfl (lv_at hl 0 rfl) ?_
    refine lv_aload_n hx hb dX3_spanOf_12 rfl (lv_at hl 1 rfl) ?_
    refine gw_get (T := TX3) (k := 0) (v := .ref (a 8)) B hI gc_g7 rfl ly_X3_spanOf_3 (by decide) m_X3_spanOf_9 rfl rfl dX3_spanOf_13 ?_
    refine gw_alen (t0 := 0) (v := 36) B hI gc_g8 rfl (by decide) dX3_spanOf_16 ?_
    refine lv_icmp_ge (tgt := 29) hx hb dX3_spanOf_17 (by decide) (fun c4 => ?_) (fun c4 => ?_)
    · replace h := gw_ifT c4 h
      refine lv_iconst (v := 0) hx hb dX3_spanOf_29 (by decide) ?_
      rw [← Option.some.inj h]
      exact gw_iret (W' := (fun w => w = gw_cw cc a b d S)) B hI rfl (Nat.zero_le _) (Nat.zero_le _) dX3_spanOf_30
    · replace h := gw_ifF c4 h
      refine lv_aload_n hx hb dX3_spanOf_20 rfl (lv_at hl 1 rfl) ?_
      refine gw_get (T := TX3) (k := 0) (v := .ref (a 8)) B hI gc_g7 rfl ly_X3_spanOf_3 (by decide) m_X3_spanOf_9 rfl rfl dX3_spanOf_21 ?_
      refine lv_iload_n hx hb dX3_spanOf_24 rfl (lv_at hl 0 rfl) ?_
      obtain ⟨g5, h⟩ := gw_gdE h
      refine gw_iald (t0 := 0) B hI gc_g8 rfl g5 dX3_spanOf_25 ?_
      refine lv_goto (tgt := 30) hx hb dX3_spanOf_26 (by decide) ?_
      rw [← Option.some.inj h]
      exact gw_iret (W' := (fun w => w = gw_cw cc a b d S)) B hI rfl (Nat.zero_le _) (Nat.zero_le _) dX3_spanOf_30
theorem m_X3_close_26 : Cond.fieldLink RX3 26 "GownLet$Lies" "areAtOdds" "Z" ∈ wsX3_close := by decide +kernel
theorem ly_X3_close_3 : ∀ w ∈ wsX30, w ∈ wsX3_close := fun w h => List.mem_cons_of_mem _ (List.mem_append_right _ h)
set_option maxRecDepth 100000 in
set_option maxHeartbeats 4000000 in
theorem k_X3_close  (S : gw_S)  {zS : gw_S} (h : f_X3_close  S = some zS) : gw_M l yX3_close wsX3_close rm_X3_close 0 0 D (gw_ty cc) t1 t2 [.ref (a 7)] (gw_cw cc a b d S) (fun w => w = gw_cw cc a b d zS) none := by
  refine gw_enter (cc := cX3_close) (maxL := 4) (ret := none) (own := RX3) rfl (by decide) rfl (Nat.le_of_ble_eq_true rfl) ?_
  intro p e s m below meth c A B hin hI ls hl
  have hl : lv_has ls 4 [(0, .ref (a 7))] := hl
  generalize ([.ref (a 7)] : List Value).toArray = args at B ⊢
  have hx := B.1.1
  have hb := B.1.2.1
  have hown : s.vm.findClass RX3 = some m.cls := B.1.2.2.2.1
  have hts := B.1.2.2.2.2
  have hb83 : ∀ (K63 : Int32 → gw_S → Option (gw_S)) (_ : ∀ (v1 : Int32) (S : gw_S), K63 v1 S = some zS → ∀ (H : Heap) (locs : List Loc) (ls : Array Slot), gw_I D A s.heap (gw_cw cc a b d S) H locs → lv_has ls 4 [(0, .ref (a 7)), (1, .int v1)] → W p l e rm_X3_close s m args below meth c H locs 0 0 (MQ below (gw_Q none (gw_Pst D A (fun w => w = gw_cw cc a b d zS)) A) args s 0 0 A) (F0 m 63 ls [])), ∀ (v1 : Int32) (S : gw_S), f_X3_close_b83 K63 v1 S = some zS → ∀ (H : Heap) (locs : List Loc) (ls : Array Slot), gw_I D A s.heap (gw_cw cc a b d S) H locs → lv_has ls 4 [(0, .ref (a 7)), (1, .int v1)] → W p l e rm_X3_close s m args below meth c H locs 0 0 (MQ below (gw_Q none (gw_Pst D A (fun w => w = gw_cw cc a b d zS)) A) args s 0 0 A) (F0 m 83 ls []) := by
    intro K63 hK63
    intro v1 S h H locs ls hI hl
    unfold f_X3_close_b83 at h
    obtain ⟨y1, e2, h⟩ := gw_letE h
    refine lv_iinc (v := y1) (lv' := [(1, .int y1), (0, .ref (a 7))]) hx hb dX3_close_83 hl (k := 1) rfl (by rw [e2]; rfl) (by decide) rfl (fun ls hl => ?_)
    refine lv_goto (tgt := 63) hx hb dX3_close_86 (by decide) ?_
    exact hK63 y1 S h _ _ _ hI (lv_sub hl [1, 0] rfl)
  have hb63 :  ∀ (n : Nat), ∀ (v1 : Int32) (S : gw_S), f_X3_close_b63  n v1 S = some zS → ∀ (H : Heap) (locs : List Loc) (ls : Array Slot), gw_I D A s.heap (gw_cw cc a b d S) H locs → lv_has ls 4 [(0, .ref (a 7)), (1, .int v1)] → W p l e rm_X3_close s m args below meth c H locs 0 0 (MQ below (gw_Q none (gw_Pst D A (fun w => w = gw_cw cc a b d zS)) A) args s 0 0 A) (F0 m 63 ls []) := by
    intro n
    induction n with
    | zero =>
      intro v1 S h
      cases h
    | succ n ih =>
      intro v1 S h H locs ls hI hl
      unfold f_X3_close_b63 at h
      refine lv_iload_n hx hb dX3_close_63 rfl (lv_at hl 1 rfl) ?_
      refine lv_bipush (v := 6) hx hb dX3_close_64 (by decide) ?_
      refine lv_icmp_ge (tgt := 89) hx hb dX3_close_66 (by decide) (fun c3 => ?_) (fun c3 => ?_)
      · replace h := gw_ifT c3 h
        rw [Option.some.inj h] at hI
        exact gw_vret (W' := (fun w => w = gw_cw cc a b d zS)) B hI rfl (Nat.zero_le _) (Nat.zero_le _) dX3_close_89
      · replace h := gw_ifF c3 h
        refine lv_aload_n hx hb dX3_close_69 rfl (lv_at hl 0 rfl) ?_
        refine lv_iload_n hx hb dX3_close_70 rfl (lv_at hl 1 rfl) ?_
        refine lv_iload_n hx hb dX3_close_71 rfl (lv_at hl 1 rfl) ?_
        obtain ⟨r4, e5, h⟩ := gw_bdE h
        refine gw_callV (As := [.int v1, .int v1]) (n := 2) B hI (k_X3_spanOf v1 v1 S e5) gX3_close_X3_spanOf rfl rfl rfl nd_X3_spanOf ⟨Nat.le_of_ble_eq_true rfl, Nat.le_of_ble_eq_true rfl⟩ gc_g7 rfl rfl rfl hl.1 (Nat.zero_le _) dX3_close_72 ⟨Nat.le_of_ble_eq_true rfl, Nat.le_of_ble_eq_true rfl⟩ rfl (fun w' H locs hw hI => ?_)
        subst hw
        refine lv_if_ge (tgt := 83) hx hb dX3_close_75 (by decide) (fun c6 => ?_) (fun c6 => ?_)
        · replace h := gw_ifT c6 h
          exact hb83 (f_X3_close_b63  n) ih v1 S h _ _ _ hI (lv_sub hl [0, 1] rfl)
        · replace h := gw_ifF c6 h
          refine lv_aload_n hx hb dX3_close_78 rfl (lv_at hl 0 rfl) ?_
          refine lv_iconst (v := 1) hx hb dX3_close_79 (by decide) ?_
          obtain ⟨S7, e8, h⟩ := gw_letE h
          refine gw_put (T := TX3) (k := 4) (w' := gw_cw cc a b d S7) B hI gc_g7 rfl ly_X3_close_3 tyX3 tyX3_ok nmX3 (by decide) m_X3_close_26 rfl rfl rfl rfl (Nat.le_of_ble_eq_true rfl) (gc_s7_4 e8) dX3_close_80 (fun H locs hI => ?_)
          exact hb83 (f_X3_close_b63  n) ih v1 S7 h _ _ _ hI (lv_sub hl [0, 1] rfl)
  have hb18 : ∀ (K2 : Int32 → gw_S → Option (gw_S)) (_ : ∀ (v1 : Int32) (S : gw_S), K2 v1 S = some zS → ∀ (H : Heap) (locs : List Loc) (ls : Array Slot), gw_I D A s.heap (gw_cw cc a b d S) H locs → lv_has ls 4 [(0, .ref (a 7)), (1, .int v1)] → W p l e rm_X3_close s m args below meth c H locs 0 0 (MQ below (gw_Q none (gw_Pst D A (fun w => w = gw_cw cc a b d zS)) A) args s 0 0 A) (F0 m 2 ls [])), ∀ (K10 : Int32 → Int32 → gw_S → Option (gw_S)) (_ : ∀ (v1 : Int32) (v2 : Int32) (S : gw_S), K10 v1 v2 S = some zS → ∀ (H : Heap) (locs : List Loc) (ls : Array Slot), gw_I D A s.heap (gw_cw cc a b d S) H locs → lv_has ls 4 [(0, .ref (a 7)), (1, .int v1), (2, .int v2)] → W p l e rm_X3_close s m args below meth c H locs 0 0 (MQ below (gw_Q none (gw_Pst D A (fun w => w = gw_cw cc a b d zS)) A) args s 0 0 A) (F0 m 10 ls [])), ∀ (n : Nat), ∀ (v1 : Int32) (v2 : Int32) (v3 : Int32) (S : gw_S), f_X3_close_b18 K2 K10 n v1 v2 v3 S = some zS → ∀ (H : Heap) (locs : List Loc) (ls : Array Slot), gw_I D A s.heap (gw_cw cc a b d S) H locs → lv_has ls 4 [(0, .ref (a 7)), (1, .int v1), (2, .int v2), (3, .int v3)] → W p l e rm_X3_close s m args below meth c H locs 0 0 (MQ below (gw_Q none (gw_Pst D A (fun w => w = gw_cw cc a b d zS)) A) args s 0 0 A) (F0 m 18 ls []) := by
    intro K2 hK2 K10 hK10
    intro n
    induction n with
    | zero =>
      intro v1 v2 v3 S h
      cases h
    | succ n ih =>
      intro v1 v2 v3 S h H locs ls hI hl
      unfold f_X3_close_b18 at h
      refine lv_iload_n hx hb dX3_close_18 rfl (lv_at hl 3 rfl) ?_
      refine lv_bipush (v := 6) hx hb dX3_close_19 (by decide) ?_
      refine lv_icmp_ge (tgt := 49) hx hb dX3_close_21 (by decide) (fun c9 => ?_) (fun c9 => ?_)
      · replace h := gw_ifT c9 h
        obtain ⟨y10, e11, h⟩ := gw_letE h
        refine lv_iinc (v := y10) (lv' := [(2, .int y10), (0, .ref (a 7)), (1, .int v1), (3, .int v3)]) hx hb dX3_close_49 hl (k := 2) rfl (by rw [e11]; rfl) (by decide) rfl (fun ls hl => ?_)
        refine lv_goto (tgt := 10) hx hb dX3_close_52 (by decide) ?_
        exact hK10 v1 y10 S h _ _ _ hI (lv_sub hl [1, 2, 0] rfl)
      · replace h := gw_ifF c9 h
        refine lv_aload_n hx hb dX3_close_24 rfl (lv_at hl 0 rfl) ?_
        refine lv_iload_n hx hb dX3_close_25 rfl (lv_at hl 2 rfl) ?_
        refine lv_iload_n hx hb dX3_close_26 rfl (lv_at hl 3 rfl) ?_
        refine lv_aload_n hx hb dX3_close_27 rfl (lv_at hl 0 rfl) ?_
        refine lv_iload_n hx hb dX3_close_28 rfl (lv_at hl 2 rfl) ?_
        refine lv_iload_n hx hb dX3_close_29 rfl (lv_at hl 1 rfl) ?_
        obtain ⟨r12, e13, h⟩ := gw_bdE h
        refine gw_callV (As := [.int v2, .int v1]) (n := 2) B hI (k_X3_spanOf v2 v1 S e13) gX3_close_X3_spanOf rfl rfl rfl nd_X3_spanOf ⟨Nat.le_of_ble_eq_true rfl, Nat.le_of_ble_eq_true rfl⟩ gc_g7 rfl rfl rfl hl.1 (by simp [gw_catq, gw_cI, gw_cR, gw_cL]) dX3_close_30 ⟨Nat.le_of_ble_eq_true rfl, Nat.le_of_ble_eq_true rfl⟩ rfl (fun w' H locs hw hI => ?_)
        subst hw
        refine lv_aload_n hx hb dX3_close_33 rfl (lv_at hl 0 rfl) ?_
        refine lv_iload_n hx hb dX3_close_34 rfl (lv_at hl 1 rfl) ?_
        refine lv_iload_n hx hb dX3_close_35 rfl (lv_at hl 3 rfl) ?_
        obtain ⟨r14, e15, h⟩ := gw_bdE h
        refine gw_callV (As := [.int v1, .int v3]) (n := 2) B hI (k_X3_spanOf v1 v3 S e15) gX3_close_X3_spanOf rfl rfl rfl nd_X3_spanOf ⟨Nat.le_of_ble_eq_true rfl, Nat.le_of_ble_eq_true rfl⟩ gc_g7 rfl rfl rfl hl.1 (by simp [gw_catq, gw_cI, gw_cR, gw_cL]) dX3_close_36 ⟨Nat.le_of_ble_eq_true rfl, Nat.le_of_ble_eq_true rfl⟩ rfl (fun w' H locs hw hI => ?_)
        subst hw
        refine lv_iadd hx hb dX3_close_39 ?_
        obtain ⟨S16, e17, h⟩ := gw_bdE h
        refine gw_callVv (As := [.int v2, .int v3, .int (r12 + r14)]) (n := 3) B hI (k_X3_tighten v2 v3 (r12 + r14) S e17) gX3_close_X3_tighten rfl rfl rfl nd_X3_tighten ⟨Nat.le_of_ble_eq_true rfl, Nat.le_of_ble_eq_true rfl⟩ gc_g7 rfl rfl rfl hl.1 (Nat.zero_le _) dX3_close_40 ⟨Nat.le_of_ble_eq_true rfl, Nat.le_of_ble_eq_true rfl⟩ rfl (fun w' H locs hw hI => ?_)
        subst hw
        obtain ⟨y18, e19, h⟩ := gw_letE h
        refine lv_iinc (v := y18) (lv' := [(3, .int y18), (0, .ref (a 7)), (1, .int v1), (2, .int v2)]) hx hb dX3_close_43 hl (k := 3) rfl (by rw [e19]; rfl) (by decide) rfl (fun ls hl => ?_)
        refine lv_goto (tgt := 18) hx hb dX3_close_46 (by decide) ?_
        exact ih v1 v2 y18 S16 h _ _ _ hI (lv_sub hl [1, 2, 3, 0] rfl)
  have hb10 : ∀ (K2 : Int32 → gw_S → Option (gw_S)) (_ : ∀ (v1 : Int32) (S : gw_S), K2 v1 S = some zS → ∀ (H : Heap) (locs : List Loc) (ls : Array Slot), gw_I D A s.heap (gw_cw cc a b d S) H locs → lv_has ls 4 [(0, .ref (a 7)), (1, .int v1)] → W p l e rm_X3_close s m args below meth c H locs 0 0 (MQ below (gw_Q none (gw_Pst D A (fun w => w = gw_cw cc a b d zS)) A) args s 0 0 A) (F0 m 2 ls [])), ∀ (n : Nat), ∀ (v1 : Int32) (v2 : Int32) (S : gw_S), f_X3_close_b10 K2 n v1 v2 S = some zS → ∀ (H : Heap) (locs : List Loc) (ls : Array Slot), gw_I D A s.heap (gw_cw cc a b d S) H locs → lv_has ls 4 [(0, .ref (a 7)), (1, .int v1), (2, .int v2)] → W p l e rm_X3_close s m args below meth c H locs 0 0 (MQ below (gw_Q none (gw_Pst D A (fun w => w = gw_cw cc a b d zS)) A) args s 0 0 A) (F0 m 10 ls []) := by
    intro K2 hK2
    intro n
    induction n with
    | zero =>
      intro v1 v2 S h
      cases h
    | succ n ih =>
      intro v1 v2 S h H locs ls hI hl
      unfold f_X3_close_b10 at h
      refine lv_iload_n hx hb dX3_close_10 rfl (lv_at hl 2 rfl) ?_
      refine lv_bipush (v := 6) hx hb dX3_close_11 (by decide) ?_
      refine lv_icmp_ge (tgt := 55) hx hb dX3_close_13 (by decide) (fun c20 => ?_) (fun c20 => ?_)
      · replace h := gw_ifT c20 h
        obtain ⟨y21, e22, h⟩ := gw_letE h
        refine lv_iinc (v := y21) (lv' := [(1, .int y21), (0, .ref (a 7)), (2, .int v2)]) hx hb dX3_close_55 hl (k := 1) rfl (by rw [e22]; rfl) (by decide) rfl (fun ls hl => ?_)
        refine lv_goto (tgt := 2) hx hb dX3_close_58 (by decide) ?_
        exact hK2 y21 S h _ _ _ hI (lv_sub hl [1, 0] rfl)
      · replace h := gw_ifF c20 h
        refine lv_iconst (v := 0) hx hb dX3_close_16 (by decide) ?_
        refine lv_istore_n (lv' := [(3, .int (0 : Int32)), (0, .ref (a 7)), (1, .int v1), (2, .int v2)]) hx hb dX3_close_17 rfl hl (by decide) rfl (fun ls hl => ?_)
        exact hb18 K2 hK2 (f_X3_close_b10 K2 n) ih gw_F v1 v2 (0 : Int32) S h _ _ _ hI (lv_sub hl [1, 2, 3, 0] rfl)
  have hb2 :  ∀ (n : Nat), ∀ (v1 : Int32) (S : gw_S), f_X3_close_b2  n v1 S = some zS → ∀ (H : Heap) (locs : List Loc) (ls : Array Slot), gw_I D A s.heap (gw_cw cc a b d S) H locs → lv_has ls 4 [(0, .ref (a 7)), (1, .int v1)] → W p l e rm_X3_close s m args below meth c H locs 0 0 (MQ below (gw_Q none (gw_Pst D A (fun w => w = gw_cw cc a b d zS)) A) args s 0 0 A) (F0 m 2 ls []) := by
    intro n
    induction n with
    | zero =>
      intro v1 S h
      cases h
    | succ n ih =>
      intro v1 S h H locs ls hI hl
      unfold f_X3_close_b2 at h
      refine lv_iload_n hx hb dX3_close_2 rfl (lv_at hl 1 rfl) ?_
      refine lv_bipush (v := 6) hx hb dX3_close_3 (by decide) ?_
      refine lv_icmp_ge (tgt := 61) hx hb dX3_close_5 (by decide) (fun c23 => ?_) (fun c23 => ?_)
      · replace h := gw_ifT c23 h
        refine lv_iconst (v := 0) hx hb dX3_close_61 (by decide) ?_
        refine lv_istore_n (lv' := [(1, .int (0 : Int32)), (0, .ref (a 7))]) hx hb dX3_close_62 rfl hl (by decide) rfl (fun ls hl => ?_)
        exact hb63  gw_F (0 : Int32) S h _ _ _ hI (lv_sub hl [1, 0] rfl)
      · replace h := gw_ifF c23 h
        refine lv_iconst (v := 0) hx hb dX3_close_8 (by decide) ?_
        refine lv_istore_n (lv' := [(2, .int (0 : Int32)), (0, .ref (a 7)), (1, .int v1)]) hx hb dX3_close_9 rfl hl (by decide) rfl (fun ls hl => ?_)
        exact hb10 (f_X3_close_b2  n) ih gw_F v1 (0 : Int32) S h _ _ _ hI (lv_sub hl [1, 2, 0] rfl)
  unfold f_X3_close at h
  refine lv_iconst (v := 0) hx hb dX3_close_0 (by decide) ?_
  refine lv_istore_n (lv' := [(1, .int (0 : Int32)), (0, .ref (a 7))]) hx hb dX3_close_1 rfl hl (by decide) rfl (fun ls hl => ?_)
  exact hb2  gw_F (0 : Int32) S h _ _ _ hI (lv_sub hl [1, 0] rfl)
theorem m_X3_readEnds_13 : Cond.fieldLink RX3 13 "GownLet$Lies" "lows" "[I" ∈ wsX3_readEnds := by decide +kernel
theorem m_X3_readEnds_16 : Cond.fieldLink RX3 16 "GownLet$Lies" "highs" "[I" ∈ wsX3_readEnds := by decide +kernel
theorem m_X3_readEnds_26 : Cond.fieldLink RX3 26 "GownLet$Lies" "areAtOdds" "Z" ∈ wsX3_readEnds := by decide +kernel
theorem ly_X3_readEnds_3 : ∀ w ∈ wsX30, w ∈ wsX3_readEnds := fun w h => List.mem_cons_of_mem _ (List.mem_append_right _ h)
set_option maxRecDepth 100000 in
set_option maxHeartbeats 4000000 in
theorem k_X3_readEnds  (S : gw_S)  {zS : gw_S} (h : f_X3_readEnds  S = some zS) : gw_M l yX3_readEnds wsX3_readEnds rm_X3_readEnds 0 0 D (gw_ty cc) t1 t2 [.ref (a 7)] (gw_cw cc a b d S) (fun w => w = gw_cw cc a b d zS) none := by
  refine gw_enter (cc := cX3_readEnds) (maxL := 2) (ret := none) (own := RX3) rfl (by decide) rfl (Nat.le_of_ble_eq_true rfl) ?_
  intro p e s m below meth c A B hin hI ls hl
  have hl : lv_has ls 2 [(0, .ref (a 7))] := hl
  generalize ([.ref (a 7)] : List Value).toArray = args at B ⊢
  have hx := B.1.1
  have hb := B.1.2.1
  have hown : s.vm.findClass RX3 = some m.cls := B.1.2.2.2.1
  have hts := B.1.2.2.2.2
  have hb56 : ∀ (K2 : Int32 → gw_S → Option (gw_S)) (_ : ∀ (v1 : Int32) (S : gw_S), K2 v1 S = some zS → ∀ (H : Heap) (locs : List Loc) (ls : Array Slot), gw_I D A s.heap (gw_cw cc a b d S) H locs → lv_has ls 2 [(0, .ref (a 7)), (1, .int v1)] → W p l e rm_X3_readEnds s m args below meth c H locs 0 0 (MQ below (gw_Q none (gw_Pst D A (fun w => w = gw_cw cc a b d zS)) A) args s 0 0 A) (F0 m 2 ls [])), ∀ (v1 : Int32) (t0_ : Int32) (t1_ : Int32) (S : gw_S), f_X3_readEnds_b56 K2 v1 t0_ t1_ S = some zS → ∀ (H : Heap) (locs : List Loc) (ls : Array Slot), gw_I D A s.heap (gw_cw cc a b d S) H locs → lv_has ls 2 [(0, .ref (a 7)), (1, .int v1)] → W p l e rm_X3_readEnds s m args below meth c H locs 0 0 (MQ below (gw_Q none (gw_Pst D A (fun w => w = gw_cw cc a b d zS)) A) args s 0 0 A) (F0 m 56 ls [.int t0_, .int t1_, .ref (a 10)]) := by
    intro K2 hK2
    intro v1 t0_ t1_ S h H locs ls hI hl
    unfold f_X3_readEnds_b56 at h
    obtain ⟨g1, h⟩ := gw_gdE h
    obtain ⟨S2, e3, h⟩ := gw_letE h
    refine gw_iast (t0 := 0) (w' := gw_cw cc a b d S2) B hI gc_g10 rfl g1 (gc_s10 e3) dX3_readEnds_56 (fun H locs hI => ?_)
    obtain ⟨y4, e5, h⟩ := gw_letE h
    refine lv_iinc (v := y4) (lv' := [(1, .int y4), (0, .ref (a 7))]) hx hb dX3_readEnds_57 hl (k := 1) rfl (by rw [e5]; rfl) (by decide) rfl (fun ls hl => ?_)
    refine lv_goto (tgt := 2) hx hb dX3_readEnds_60 (by decide) ?_
    exact hK2 y4 S2 h _ _ _ hI (lv_sub hl [1, 0] rfl)
  have hb32 : ∀ (K2 : Int32 → gw_S → Option (gw_S)) (_ : ∀ (v1 : Int32) (S : gw_S), K2 v1 S = some zS → ∀ (H : Heap) (locs : List Loc) (ls : Array Slot), gw_I D A s.heap (gw_cw cc a b d S) H locs → lv_has ls 2 [(0, .ref (a 7)), (1, .int v1)] → W p l e rm_X3_readEnds s m args below meth c H locs 0 0 (MQ below (gw_Q none (gw_Pst D A (fun w => w = gw_cw cc a b d zS)) A) args s 0 0 A) (F0 m 2 ls [])), ∀ (v1 : Int32) (t0_ : Int32) (t1_ : Int32) (S : gw_S), f_X3_readEnds_b32 K2 v1 t0_ t1_ S = some zS → ∀ (H : Heap) (locs : List Loc) (ls : Array Slot), gw_I D A s.heap (gw_cw cc a b d S) H locs → lv_has ls 2 [(0, .ref (a 7)), (1, .int v1)] → W p l e rm_X3_readEnds s m args below meth c H locs 0 0 (MQ below (gw_Q none (gw_Pst D A (fun w => w = gw_cw cc a b d zS)) A) args s 0 0 A) (F0 m 32 ls [.int t0_, .int t1_, .ref (a 9)]) := by
    intro K2 hK2
    intro v1 t0_ t1_ S h H locs ls hI hl
    unfold f_X3_readEnds_b32 at h
    obtain ⟨g6, h⟩ := gw_gdE h
    obtain ⟨S7, e8, h⟩ := gw_letE h
    refine gw_iast (t0 := 0) (w' := gw_cw cc a b d S7) B hI gc_g9 rfl g6 (gc_s9 e8) dX3_readEnds_32 (fun H locs hI => ?_)
    refine lv_aload_n hx hb dX3_readEnds_33 rfl (lv_at hl 0 rfl) ?_
    refine gw_get (T := TX3) (k := 2) (v := .ref (a 10)) B hI gc_g7 rfl ly_X3_readEnds_3 (by decide) m_X3_readEnds_16 rfl rfl dX3_readEnds_34 ?_
    refine lv_iload_n hx hb dX3_readEnds_37 rfl (lv_at hl 1 rfl) ?_
    refine lv_aload_n hx hb dX3_readEnds_38 rfl (lv_at hl 0 rfl) ?_
    refine gw_get (T := TX3) (k := 4) (v := .int (S7 7 4)) B hI gc_g7 rfl ly_X3_readEnds_3 (by decide) m_X3_readEnds_26 rfl rfl dX3_readEnds_39 ?_
    refine lv_if_eq (tgt := 50) hx hb dX3_readEnds_42 (by decide) (fun c9 => ?_) (fun c9 => ?_)
    · replace h := gw_ifT c9 h
      refine lv_aload_n hx hb dX3_readEnds_50 rfl (lv_at hl 0 rfl) ?_
      refine lv_iconst (v := 0) hx hb dX3_readEnds_51 (by decide) ?_
      refine lv_iload_n hx hb dX3_readEnds_52 rfl (lv_at hl 1 rfl) ?_
      obtain ⟨r10, e11, h⟩ := gw_bdE h
      refine gw_callV (As := [.int (0 : Int32), .int v1]) (n := 2) B hI (k_X3_spanOf (0 : Int32) v1 S7 e11) gX3_readEnds_X3_spanOf rfl rfl rfl nd_X3_spanOf ⟨Nat.le_of_ble_eq_true rfl, Nat.le_of_ble_eq_true rfl⟩ gc_g7 rfl rfl rfl hl.1 (by simp [gw_catq, gw_cI, gw_cR, gw_cL]) dX3_readEnds_53 ⟨Nat.le_of_ble_eq_true rfl, Nat.le_of_ble_eq_true rfl⟩ rfl (fun w' H locs hw hI => ?_)
      subst hw
      exact hb56 K2 hK2 v1 r10 v1 S7 h _ _ _ hI (lv_sub hl [0, 1] rfl)
    · replace h := gw_ifF c9 h
      refine lv_bipush (v := 9) hx hb dX3_readEnds_45 (by decide) ?_
      refine lv_goto (tgt := 56) hx hb dX3_readEnds_47 (by decide) ?_
      exact hb56 K2 hK2 v1 (9 : Int32) v1 S7 h _ _ _ hI (lv_sub hl [0, 1] rfl)
  have hb2 :  ∀ (n : Nat), ∀ (v1 : Int32) (S : gw_S), f_X3_readEnds_b2  n v1 S = some zS → ∀ (H : Heap) (locs : List Loc) (ls : Array Slot), gw_I D A s.heap (gw_cw cc a b d S) H locs → lv_has ls 2 [(0, .ref (a 7)), (1, .int v1)] → W p l e rm_X3_readEnds s m args below meth c H locs 0 0 (MQ below (gw_Q none (gw_Pst D A (fun w => w = gw_cw cc a b d zS)) A) args s 0 0 A) (F0 m 2 ls []) := by
    intro n
    induction n with
    | zero =>
      intro v1 S h
      cases h
    | succ n ih =>
      intro v1 S h H locs ls hI hl
      unfold f_X3_readEnds_b2 at h
      refine lv_iload_n hx hb dX3_readEnds_2 rfl (lv_at hl 1 rfl) ?_
      refine lv_bipush (v := 6) hx hb dX3_readEnds_3 (by decide) ?_
      refine lv_icmp_ge (tgt := 63) hx hb dX3_readEnds_5 (by decide) (fun c12 => ?_) (fun c12 => ?_)
      · replace h := gw_ifT c12 h
        rw [Option.some.inj h] at hI
        exact gw_vret (W' := (fun w => w = gw_cw cc a b d zS)) B hI rfl (Nat.zero_le _) (Nat.zero_le _) dX3_readEnds_63
      · replace h := gw_ifF c12 h
        refine lv_aload_n hx hb dX3_readEnds_8 rfl (lv_at hl 0 rfl) ?_
        refine gw_get (T := TX3) (k := 1) (v := .ref (a 9)) B hI gc_g7 rfl ly_X3_readEnds_3 (by decide) m_X3_readEnds_13 rfl rfl dX3_readEnds_9 ?_
        refine lv_iload_n hx hb dX3_readEnds_12 rfl (lv_at hl 1 rfl) ?_
        refine lv_aload_n hx hb dX3_readEnds_13 rfl (lv_at hl 0 rfl) ?_
        refine gw_get (T := TX3) (k := 4) (v := .int (S 7 4)) B hI gc_g7 rfl ly_X3_readEnds_3 (by decide) m_X3_readEnds_26 rfl rfl dX3_readEnds_14 ?_
        refine lv_if_eq (tgt := 25) hx hb dX3_readEnds_17 (by decide) (fun c13 => ?_) (fun c13 => ?_)
        · replace h := gw_ifT c13 h
          refine lv_aload_n hx hb dX3_readEnds_25 rfl (lv_at hl 0 rfl) ?_
          refine lv_iload_n hx hb dX3_readEnds_26 rfl (lv_at hl 1 rfl) ?_
          refine lv_iconst (v := 0) hx hb dX3_readEnds_27 (by decide) ?_
          obtain ⟨r14, e15, h⟩ := gw_bdE h
          refine gw_callV (As := [.int v1, .int (0 : Int32)]) (n := 2) B hI (k_X3_spanOf v1 (0 : Int32) S e15) gX3_readEnds_X3_spanOf rfl rfl rfl nd_X3_spanOf ⟨Nat.le_of_ble_eq_true rfl, Nat.le_of_ble_eq_true rfl⟩ gc_g7 rfl rfl rfl hl.1 (by simp [gw_catq, gw_cI, gw_cR, gw_cL]) dX3_readEnds_28 ⟨Nat.le_of_ble_eq_true rfl, Nat.le_of_ble_eq_true rfl⟩ rfl (fun w' H locs hw hI => ?_)
          subst hw
          refine lv_ineg hx hb dX3_readEnds_31 ?_
          exact hb32 (f_X3_readEnds_b2  n) ih v1 (-r14) v1 S h _ _ _ hI (lv_sub hl [0, 1] rfl)
        · replace h := gw_ifF c13 h
          refine lv_bipush (v := -9) hx hb dX3_readEnds_20 (by decide) ?_
          refine lv_goto (tgt := 32) hx hb dX3_readEnds_22 (by decide) ?_
          exact hb32 (f_X3_readEnds_b2  n) ih v1 (-9 : Int32) v1 S h _ _ _ hI (lv_sub hl [0, 1] rfl)
  unfold f_X3_readEnds at h
  refine lv_iconst (v := 1) hx hb dX3_readEnds_0 (by decide) ?_
  refine lv_istore_n (lv' := [(1, .int (1 : Int32)), (0, .ref (a 7))]) hx hb dX3_readEnds_1 rfl hl (by decide) rfl (fun ls hl => ?_)
  exact hb2  gw_F (1 : Int32) S h _ _ _ hI (lv_sub hl [1, 0] rfl)
theorem m_X3_learn_22 : Cond.fieldLink RX3 22 "GownLet$Lies" "doubles" "I" ∈ wsX3_learn := by decide +kernel
theorem m_X3_learn_26 : Cond.fieldLink RX3 26 "GownLet$Lies" "areAtOdds" "Z" ∈ wsX3_learn := by decide +kernel
theorem ly_X3_learn_3 : ∀ w ∈ wsX30, w ∈ wsX3_learn := fun w h => List.mem_cons_of_mem _ (List.mem_append_right _ h)
set_option maxRecDepth 100000 in
set_option maxHeartbeats 4000000 in
theorem k_X3_learn (x1 : Int32) (x2 : Int32) (x3 : Int32) (x4 : Int32) (S : gw_S)  {zS : gw_S} (h : f_X3_learn x1 x2 x3 x4 S = some zS) : gw_M l yX3_learn wsX3_learn rm_X3_learn 0 0 D (gw_ty cc) t1 t2 [.ref (a 7), .int x1, .int x2, .int x3, .int x4] (gw_cw cc a b d S) (fun w => w = gw_cw cc a b d zS) none := by
  refine gw_enter (cc := cX3_learn) (maxL := 5) (ret := none) (own := RX3) rfl (by decide) rfl (Nat.le_of_ble_eq_true rfl) ?_
  intro p e s m below meth c A B hin hI ls hl
  have hl : lv_has ls 5 [(0, .ref (a 7)), (1, .int x1), (2, .int x2), (3, .int x3), (4, .int x4)] := hl
  generalize ([.ref (a 7), .int x1, .int x2, .int x3, .int x4] : List Value).toArray = args at B ⊢
  have hx := B.1.1
  have hb := B.1.2.1
  have hown : s.vm.findClass RX3 = some m.cls := B.1.2.2.2.1
  have hts := B.1.2.2.2.2
  unfold f_X3_learn at h
  refine lv_aload_n hx hb dX3_learn_0 rfl (lv_at hl 0 rfl) ?_
  refine lv_dup hx hb dX3_learn_1 rfl ?_
  refine gw_get (T := TX3) (k := 3) (v := .int (S 7 3)) B hI gc_g7 rfl ly_X3_learn_3 (by decide) m_X3_learn_22 rfl rfl dX3_learn_2 ?_
  refine lv_iconst (v := 1) hx hb dX3_learn_5 (by decide) ?_
  refine lv_iadd hx hb dX3_learn_6 ?_
  obtain ⟨S1, e2, h⟩ := gw_letE h
  refine gw_put (T := TX3) (k := 3) (w' := gw_cw cc a b d S1) B hI gc_g7 rfl ly_X3_learn_3 tyX3 tyX3_ok nmX3 (by decide) m_X3_learn_22 rfl rfl rfl rfl (Nat.le_of_ble_eq_true rfl) (gc_s7_3 e2) dX3_learn_7 (fun H locs hI => ?_)
  refine lv_aload_n hx hb dX3_learn_10 rfl (lv_at hl 0 rfl) ?_
  refine gw_get (T := TX3) (k := 4) (v := .int (S1 7 4)) B hI gc_g7 rfl ly_X3_learn_3 (by decide) m_X3_learn_26 rfl rfl dX3_learn_11 ?_
  refine lv_if_eq (tgt := 18) hx hb dX3_learn_14 (by decide) (fun c3 => ?_) (fun c3 => ?_)
  · replace h := gw_ifT c3 h
    refine lv_aload_n hx hb dX3_learn_18 rfl (lv_at hl 0 rfl) ?_
    refine lv_iload_n hx hb dX3_learn_19 rfl (lv_at hl 1 rfl) ?_
    refine lv_iload_n hx hb dX3_learn_20 rfl (lv_at hl 3 rfl) ?_
    refine lv_iconst (v := 1) hx hb dX3_learn_21 (by decide) ?_
    refine lv_iload_n hx hb dX3_learn_22 rfl (lv_at hl 2 rfl) ?_
    refine lv_iadd hx hb dX3_learn_23 ?_
    refine lv_iload hx hb dX3_learn_24 (lv_at hl 4 rfl) ?_
    refine lv_isub hx hb dX3_learn_26 ?_
    obtain ⟨S4, e5, h⟩ := gw_bdE h
    refine gw_callVv (As := [.int x1, .int x3, .int (((1 : Int32) + x2) - x4)]) (n := 3) B hI (k_X3_tighten x1 x3 (((1 : Int32) + x2) - x4) S1 e5) gX3_learn_X3_tighten rfl rfl rfl nd_X3_tighten ⟨Nat.le_of_ble_eq_true rfl, Nat.le_of_ble_eq_true rfl⟩ gc_g7 rfl rfl rfl hl.1 (Nat.zero_le _) dX3_learn_27 ⟨Nat.le_of_ble_eq_true rfl, Nat.le_of_ble_eq_true rfl⟩ rfl (fun w' H locs hw hI => ?_)
    subst hw
    refine lv_aload_n hx hb dX3_learn_30 rfl (lv_at hl 0 rfl) ?_
    refine lv_iload_n hx hb dX3_learn_31 rfl (lv_at hl 3 rfl) ?_
    refine lv_iload_n hx hb dX3_learn_32 rfl (lv_at hl 1 rfl) ?_
    refine lv_iconst (v := 1) hx hb dX3_learn_33 (by decide) ?_
    refine lv_iload hx hb dX3_learn_34 (lv_at hl 4 rfl) ?_
    refine lv_iadd hx hb dX3_learn_36 ?_
    refine lv_iload_n hx hb dX3_learn_37 rfl (lv_at hl 2 rfl) ?_
    refine lv_isub hx hb dX3_learn_38 ?_
    obtain ⟨S6, e7, h⟩ := gw_bdE h
    refine gw_callVv (As := [.int x3, .int x1, .int (((1 : Int32) + x4) - x2)]) (n := 3) B hI (k_X3_tighten x3 x1 (((1 : Int32) + x4) - x2) S4 e7) gX3_learn_X3_tighten rfl rfl rfl nd_X3_tighten ⟨Nat.le_of_ble_eq_true rfl, Nat.le_of_ble_eq_true rfl⟩ gc_g7 rfl rfl rfl hl.1 (Nat.zero_le _) dX3_learn_39 ⟨Nat.le_of_ble_eq_true rfl, Nat.le_of_ble_eq_true rfl⟩ rfl (fun w' H locs hw hI => ?_)
    subst hw
    refine lv_aload_n hx hb dX3_learn_42 rfl (lv_at hl 0 rfl) ?_
    obtain ⟨S8, e9, h⟩ := gw_bdE h
    refine gw_callVv (As := []) (n := 0) B hI (k_X3_close  S6 e9) gX3_learn_X3_close rfl rfl rfl nd_X3_close ⟨Nat.le_of_ble_eq_true rfl, Nat.le_of_ble_eq_true rfl⟩ gc_g7 rfl rfl rfl hl.1 (Nat.zero_le _) dX3_learn_43 ⟨Nat.le_of_ble_eq_true rfl, Nat.le_of_ble_eq_true rfl⟩ rfl (fun w' H locs hw hI => ?_)
    subst hw
    refine lv_aload_n hx hb dX3_learn_46 rfl (lv_at hl 0 rfl) ?_
    obtain ⟨S10, e11, h⟩ := gw_bdE h
    refine gw_callVv (As := []) (n := 0) B hI (k_X3_readEnds  S8 e11) gX3_learn_X3_readEnds rfl rfl rfl nd_X3_readEnds ⟨Nat.le_of_ble_eq_true rfl, Nat.le_of_ble_eq_true rfl⟩ gc_g7 rfl rfl rfl hl.1 (Nat.zero_le _) dX3_learn_47 ⟨Nat.le_of_ble_eq_true rfl, Nat.le_of_ble_eq_true rfl⟩ rfl (fun w' H locs hw hI => ?_)
    subst hw
    rw [Option.some.inj h] at hI
    exact gw_vret (W' := (fun w => w = gw_cw cc a b d zS)) B hI rfl (Nat.zero_le _) (Nat.zero_le _) dX3_learn_50
  · replace h := gw_ifF c3 h
    rw [Option.some.inj h] at hI
    exact gw_vret (W' := (fun w => w = gw_cw cc a b d zS)) B hI rfl (Nat.zero_le _) (Nat.zero_le _) dX3_learn_17
theorem m_X4_worth_30 : Cond.fieldLink RX4 30 "GownLet$Piece" "price" "I" ∈ wsX4_worth := by decide +kernel
theorem m_X4_worth_33 : Cond.fieldLink RX4 33 "GownLet$Piece" "life" "I" ∈ wsX4_worth := by decide +kernel
theorem m_X4_worth_40 : Cond.fieldLink RX4 40 "GownLet$Piece" "worn" "I" ∈ wsX4_worth := by decide +kernel
theorem ly_X4_worth_4 : ∀ w ∈ wsX40, w ∈ wsX4_worth := fun w h => List.mem_cons_of_mem _ (List.mem_append_right _ h)
set_option maxRecDepth 100000 in
set_option maxHeartbeats 4000000 in
theorem k_X4_worth (x0 : Int32) (S : gw_S) {zr : Int32} (h : f_X4_worth x0 S = some zr) : gw_M l yX4_worth wsX4_worth rm_X4_worth 0 0 D (gw_ty cc) t1 t2 [.ref (b x0.toNatClampNeg)] (gw_cw cc a b d S) (fun w => w = gw_cw cc a b d S) (some (.int zr)) := by
  refine gw_enter (cc := cX4_worth) (maxL := 1) (ret := (some .int)) (own := RX4) rfl (by decide) rfl (Nat.le_of_ble_eq_true rfl) ?_
  intro p e s m below meth c A B hin hI ls hl
  have hl : lv_has ls 1 [(0, .ref (b x0.toNatClampNeg))] := hl
  generalize ([.ref (b x0.toNatClampNeg)] : List Value).toArray = args at B ⊢
  have hx := B.1.1
  have hb := B.1.2.1
  have hown : s.vm.findClass RX4 = some m.cls := B.1.2.2.2.1
  have hts := B.1.2.2.2.2
  unfold f_X4_worth at h
  refine lv_aload_n hx hb dX4_worth_0 rfl (lv_at hl 0 rfl) ?_
  obtain ⟨g1, h⟩ := gw_gdE h
  refine gw_get (T := TX4) (k := 6) (v := .int (S (2 * x0.toNatClampNeg + 30) 6)) B hI (gc_gp g1) rfl ly_X4_worth_4 (by decide) m_X4_worth_33 rfl rfl dX4_worth_1 ?_
  refine lv_iconst (v := 1) hx hb dX4_worth_4 (by decide) ?_
  refine lv_icmp_ge (tgt := 12) hx hb dX4_worth_5 (by decide) (fun c2 => ?_) (fun c2 => ?_)
  · replace h := gw_ifT c2 h
    refine lv_aload_n hx hb dX4_worth_12 rfl (lv_at hl 0 rfl) ?_
    refine gw_get (T := TX4) (k := 5) (v := .int (S (2 * x0.toNatClampNeg + 30) 5)) B hI (gc_gp g1) rfl ly_X4_worth_4 (by decide) m_X4_worth_30 rfl rfl dX4_worth_13 ?_
    refine lv_iconst (v := 0) hx hb dX4_worth_16 (by decide) ?_
    refine lv_aload_n hx hb dX4_worth_17 rfl (lv_at hl 0 rfl) ?_
    refine gw_get (T := TX4) (k := 6) (v := .int (S (2 * x0.toNatClampNeg + 30) 6)) B hI (gc_gp g1) rfl ly_X4_worth_4 (by decide) m_X4_worth_33 rfl rfl dX4_worth_18 ?_
    refine lv_aload_n hx hb dX4_worth_21 rfl (lv_at hl 0 rfl) ?_
    refine gw_get (T := TX4) (k := 9) (v := .int (S (2 * x0.toNatClampNeg + 30) 9)) B hI (gc_gp g1) rfl ly_X4_worth_4 (by decide) m_X4_worth_40 rfl rfl dX4_worth_22 ?_
    refine lv_isub hx hb dX4_worth_25 ?_
    refine gw_mmax B hl.1 (hown := hown) (by decide +kernel) (by decide +kernel) (by decide +kernel) (by decide +kernel) (by decide) (by simp [gw_catq, gw_cI, gw_cR, gw_cL]) (Nat.zero_le _) (Nat.zero_le _) dX4_worth_26 ?_
    refine lv_imul hx hb dX4_worth_29 ?_
    refine lv_aload_n hx hb dX4_worth_30 rfl (lv_at hl 0 rfl) ?_
    refine gw_get (T := TX4) (k := 6) (v := .int (S (2 * x0.toNatClampNeg + 30) 6)) B hI (gc_gp g1) rfl ly_X4_worth_4 (by decide) m_X4_worth_33 rfl rfl dX4_worth_31 ?_
    obtain ⟨g3, h⟩ := gw_gdE h
    refine lv_idiv hx hb dX4_worth_34 g3 ?_
    rw [← Option.some.inj h]
    exact gw_iret (W' := (fun w => w = gw_cw cc a b d S)) B hI rfl (Nat.zero_le _) (Nat.zero_le _) dX4_worth_35
  · replace h := gw_ifF c2 h
    refine lv_iconst (v := 0) hx hb dX4_worth_8 (by decide) ?_
    refine lv_goto (tgt := 35) hx hb dX4_worth_9 (by decide) ?_
    rw [← Option.some.inj h]
    exact gw_iret (W' := (fun w => w = gw_cw cc a b d S)) B hI rfl (Nat.zero_le _) (Nat.zero_le _) dX4_worth_35
theorem m_X4_detail_15 : Cond.fieldLink RX4 15 "GownLet$Piece" "kind" "I" ∈ wsX4_detail := by decide +kernel
theorem m_X4_detail_18 : Cond.fieldLink RX4 18 "GownLet$Piece" "maker" "I" ∈ wsX4_detail := by decide +kernel
theorem m_X4_detail_21 : Cond.fieldLink RX4 21 "GownLet$Piece" "label" "I" ∈ wsX4_detail := by decide +kernel
theorem m_X4_detail_24 : Cond.fieldLink RX4 24 "GownLet$Piece" "lot" "I" ∈ wsX4_detail := by decide +kernel
theorem m_X4_detail_27 : Cond.fieldLink RX4 27 "GownLet$Piece" "town" "I" ∈ wsX4_detail := by decide +kernel
theorem m_X4_detail_30 : Cond.fieldLink RX4 30 "GownLet$Piece" "price" "I" ∈ wsX4_detail := by decide +kernel
theorem m_X4_detail_40 : Cond.fieldLink RX4 40 "GownLet$Piece" "worn" "I" ∈ wsX4_detail := by decide +kernel
theorem m_X4_detail_9 : Cond.fieldLink RX4 9 "GownLet$Piece" "tornFrom" "I" ∈ wsX4_detail := by decide +kernel
theorem ly_X4_detail_4 : ∀ w ∈ wsX40, w ∈ wsX4_detail := fun w h => List.mem_cons_of_mem _ (List.mem_append_right _ h)
set_option maxRecDepth 100000 in
set_option maxHeartbeats 4000000 in
theorem k_X4_detail (x0 : Int32) (x1 : Int32) (S : gw_S) {zr : Int32} (h : f_X4_detail x0 x1 S = some zr) : gw_M l yX4_detail wsX4_detail rm_X4_detail 0 0 D (gw_ty cc) t1 t2 [.ref (b x0.toNatClampNeg), .int x1] (gw_cw cc a b d S) (fun w => w = gw_cw cc a b d S) (some (.int zr)) := by
  refine gw_enter (cc := cX4_detail) (maxL := 2) (ret := (some .int)) (own := RX4) rfl (by decide) rfl (Nat.le_of_ble_eq_true rfl) ?_
  intro p e s m below meth c A B hin hI ls hl
  have hl : lv_has ls 2 [(0, .ref (b x0.toNatClampNeg)), (1, .int x1)] := hl
  generalize ([.ref (b x0.toNatClampNeg), .int x1] : List Value).toArray = args at B ⊢
  have hx := B.1.1
  have hb := B.1.2.1
  have hown : s.vm.findClass RX4 = some m.cls := B.1.2.2.2.1
  have hts := B.1.2.2.2.2
  unfold f_X4_detail at h
  refine lv_iload_n hx hb dX4_detail_0 rfl (lv_at hl 1 rfl) ?_
  by_cases c1 : x1 = 0
  · replace h := gw_ifT c1 h
    refine gw_tabIn (k := 0) (off := 55) (tgt := 56) B c1 dX4_detail_1 (by decide) (by decide) ?_
    refine lv_aload_n hx hb dX4_detail_56 rfl (lv_at hl 0 rfl) ?_
    obtain ⟨g2, h⟩ := gw_gdE h
    refine gw_get (T := TX4) (k := 0) (v := .int (S (2 * x0.toNatClampNeg + 30) 0)) B hI (gc_gp g2) rfl ly_X4_detail_4 (by decide) m_X4_detail_15 rfl rfl dX4_detail_57 ?_
    rw [← Option.some.inj h]
    exact gw_iret (W' := (fun w => w = gw_cw cc a b d S)) B hI rfl (Nat.zero_le _) (Nat.zero_le _) dX4_detail_60
  · replace h := gw_ifF c1 h
    by_cases c3 : x1 = 1
    · replace h := gw_ifT c3 h
      refine gw_tabIn (k := 1) (off := 60) (tgt := 61) B c3 dX4_detail_1 (by decide) (by decide) ?_
      refine lv_aload_n hx hb dX4_detail_61 rfl (lv_at hl 0 rfl) ?_
      obtain ⟨g4, h⟩ := gw_gdE h
      refine gw_get (T := TX4) (k := 1) (v := .int (S (2 * x0.toNatClampNeg + 30) 1)) B hI (gc_gp g4) rfl ly_X4_detail_4 (by decide) m_X4_detail_18 rfl rfl dX4_detail_62 ?_
      rw [← Option.some.inj h]
      exact gw_iret (W' := (fun w => w = gw_cw cc a b d S)) B hI rfl (Nat.zero_le _) (Nat.zero_le _) dX4_detail_65
    · replace h := gw_ifF c3 h
      by_cases c5 : x1 = 2
      · replace h := gw_ifT c5 h
        refine gw_tabIn (k := 2) (off := 65) (tgt := 66) B c5 dX4_detail_1 (by decide) (by decide) ?_
        refine lv_aload_n hx hb dX4_detail_66 rfl (lv_at hl 0 rfl) ?_
        obtain ⟨g6, h⟩ := gw_gdE h
        refine gw_get (T := TX4) (k := 2) (v := .int (S (2 * x0.toNatClampNeg + 30) 2)) B hI (gc_gp g6) rfl ly_X4_detail_4 (by decide) m_X4_detail_21 rfl rfl dX4_detail_67 ?_
        rw [← Option.some.inj h]
        exact gw_iret (W' := (fun w => w = gw_cw cc a b d S)) B hI rfl (Nat.zero_le _) (Nat.zero_le _) dX4_detail_70
      · replace h := gw_ifF c5 h
        by_cases c7 : x1 = 3
        · replace h := gw_ifT c7 h
          refine gw_tabIn (k := 3) (off := 70) (tgt := 71) B c7 dX4_detail_1 (by decide) (by decide) ?_
          refine lv_aload_n hx hb dX4_detail_71 rfl (lv_at hl 0 rfl) ?_
          obtain ⟨g8, h⟩ := gw_gdE h
          refine gw_get (T := TX4) (k := 3) (v := .int (S (2 * x0.toNatClampNeg + 30) 3)) B hI (gc_gp g8) rfl ly_X4_detail_4 (by decide) m_X4_detail_24 rfl rfl dX4_detail_72 ?_
          rw [← Option.some.inj h]
          exact gw_iret (W' := (fun w => w = gw_cw cc a b d S)) B hI rfl (Nat.zero_le _) (Nat.zero_le _) dX4_detail_75
        · replace h := gw_ifF c7 h
          by_cases c9 : x1 = 4
          · replace h := gw_ifT c9 h
            refine gw_tabIn (k := 4) (off := 75) (tgt := 76) B c9 dX4_detail_1 (by decide) (by decide) ?_
            refine lv_aload_n hx hb dX4_detail_76 rfl (lv_at hl 0 rfl) ?_
            obtain ⟨g10, h⟩ := gw_gdE h
            refine gw_get (T := TX4) (k := 4) (v := .int (S (2 * x0.toNatClampNeg + 30) 4)) B hI (gc_gp g10) rfl ly_X4_detail_4 (by decide) m_X4_detail_27 rfl rfl dX4_detail_77 ?_
            rw [← Option.some.inj h]
            exact gw_iret (W' := (fun w => w = gw_cw cc a b d S)) B hI rfl (Nat.zero_le _) (Nat.zero_le _) dX4_detail_80
          · replace h := gw_ifF c9 h
            by_cases c11 : x1 = 5
            · replace h := gw_ifT c11 h
              refine gw_tabIn (k := 5) (off := 80) (tgt := 81) B c11 dX4_detail_1 (by decide) (by decide) ?_
              refine lv_aload_n hx hb dX4_detail_81 rfl (lv_at hl 0 rfl) ?_
              obtain ⟨g12, h⟩ := gw_gdE h
              refine gw_get (T := TX4) (k := 5) (v := .int (S (2 * x0.toNatClampNeg + 30) 5)) B hI (gc_gp g12) rfl ly_X4_detail_4 (by decide) m_X4_detail_30 rfl rfl dX4_detail_82 ?_
              rw [← Option.some.inj h]
              exact gw_iret (W' := (fun w => w = gw_cw cc a b d S)) B hI rfl (Nat.zero_le _) (Nat.zero_le _) dX4_detail_85
            · replace h := gw_ifF c11 h
              by_cases c13 : x1 = 6
              · replace h := gw_ifT c13 h
                refine gw_tabIn (k := 6) (off := 85) (tgt := 86) B c13 dX4_detail_1 (by decide) (by decide) ?_
                refine lv_aload_n hx hb dX4_detail_86 rfl (lv_at hl 0 rfl) ?_
                obtain ⟨g14, h⟩ := gw_gdE h
                refine gw_get (T := TX4) (k := 9) (v := .int (S (2 * x0.toNatClampNeg + 30) 9)) B hI (gc_gp g14) rfl ly_X4_detail_4 (by decide) m_X4_detail_40 rfl rfl dX4_detail_87 ?_
                rw [← Option.some.inj h]
                exact gw_iret (W' := (fun w => w = gw_cw cc a b d S)) B hI rfl (Nat.zero_le _) (Nat.zero_le _) dX4_detail_90
              · replace h := gw_ifF c13 h
                by_cases c15 : x1 = 7
                · replace h := gw_ifT c15 h
                  refine gw_tabIn (k := 7) (off := 90) (tgt := 91) B c15 dX4_detail_1 (by decide) (by decide) ?_
                  refine lv_aload_n hx hb dX4_detail_91 rfl (lv_at hl 0 rfl) ?_
                  obtain ⟨g16, h⟩ := gw_gdE h
                  obtain ⟨r17, e18, h⟩ := gw_bdE h
                  refine gw_callV (As := []) (n := 0) B hI (k_X4_worth x0 S e18) gX4_detail_X4_worth rfl rfl rfl nd_X4_worth ⟨Nat.le_of_ble_eq_true rfl, Nat.le_of_ble_eq_true rfl⟩ (gc_gp g16) rfl rfl rfl hl.1 (Nat.zero_le _) dX4_detail_92 ⟨Nat.le_of_ble_eq_true rfl, Nat.le_of_ble_eq_true rfl⟩ rfl (fun w' H locs hw hI => ?_)
                  subst hw
                  rw [← Option.some.inj h]
                  exact gw_iret (W' := (fun w => w = gw_cw cc a b d S)) B hI rfl (Nat.zero_le _) (Nat.zero_le _) dX4_detail_95
                · replace h := gw_ifF c15 h
                  by_cases c19 : x1 = 8
                  · replace h := gw_ifT c19 h
                    refine gw_tabIn (k := 8) (off := 95) (tgt := 96) B c19 dX4_detail_1 (by decide) (by decide) ?_
                    refine lv_aload_n hx hb dX4_detail_96 rfl (lv_at hl 0 rfl) ?_
                    obtain ⟨g20, h⟩ := gw_gdE h
                    obtain ⟨r21, e22, h⟩ := gw_bdE h
                    refine gw_callV (As := []) (n := 0) B hI (k_X4_isRetired x0 S e22) gX4_detail_X4_isRetired rfl rfl rfl nd_X4_isRetired ⟨Nat.le_of_ble_eq_true rfl, Nat.le_of_ble_eq_true rfl⟩ (gc_gp g20) rfl rfl rfl hl.1 (Nat.zero_le _) dX4_detail_97 ⟨Nat.le_of_ble_eq_true rfl, Nat.le_of_ble_eq_true rfl⟩ rfl (fun w' H locs hw hI => ?_)
                    subst hw
                    refine lv_if_eq (tgt := 107) hx hb dX4_detail_100 (by decide) (fun c23 => ?_) (fun c23 => ?_)
                    · replace h := gw_ifT c23 h
                      refine lv_iconst (v := 0) hx hb dX4_detail_107 (by decide) ?_
                      rw [← Option.some.inj h]
                      exact gw_iret (W' := (fun w => w = gw_cw cc a b d S)) B hI rfl (Nat.zero_le _) (Nat.zero_le _) dX4_detail_108
                    · replace h := gw_ifF c23 h
                      refine lv_iconst (v := 1) hx hb dX4_detail_103 (by decide) ?_
                      refine lv_goto (tgt := 108) hx hb dX4_detail_104 (by decide) ?_
                      rw [← Option.some.inj h]
                      exact gw_iret (W' := (fun w => w = gw_cw cc a b d S)) B hI rfl (Nat.zero_le _) (Nat.zero_le _) dX4_detail_108
                  · replace h := gw_ifF c19 h
                    by_cases c24 : x1 = 9
                    · replace h := gw_ifT c24 h
                      refine gw_tabIn (k := 9) (off := 108) (tgt := 109) B c24 dX4_detail_1 (by decide) (by decide) ?_
                      refine lv_aload_n hx hb dX4_detail_109 rfl (lv_at hl 0 rfl) ?_
                      obtain ⟨g25, h⟩ := gw_gdE h
                      refine gw_get (T := TX4) (k := 10) (v := .int (S (2 * x0.toNatClampNeg + 30) 10)) B hI (gc_gp g25) rfl ly_X4_detail_4 (by decide) m_X4_detail_9 rfl rfl dX4_detail_110 ?_
                      rw [← Option.some.inj h]
                      exact gw_iret (W' := (fun w => w = gw_cw cc a b d S)) B hI rfl (Nat.zero_le _) (Nat.zero_le _) dX4_detail_113
                    · replace h := gw_ifF c24 h
                      refine lv_tableOut (tgt := 114) hx hb dX4_detail_1 (gw_out10 c1 c3 c5 c7 c9 c11 c13 c15 c19 c24) (by decide) ?_
                      refine lv_iconst (v := -1) hx hb dX4_detail_114 (by decide) ?_
                      rw [← Option.some.inj h]
                      exact gw_iret (W' := (fun w => w = gw_cw cc a b d S)) B hI rfl (Nat.zero_le _) (Nat.zero_le _) dX4_detail_115
theorem m_X5_begin_11 : Cond.fieldLink RX5 11 "GownLet$Sheet" "items" "[I" ∈ wsX5_begin := by decide +kernel
theorem m_X5_begin_15 : Cond.fieldLink RX5 15 "GownLet$Sheet" "isThere" "Z" ∈ wsX5_begin := by decide +kernel
theorem m_X5_begin_19 : Cond.fieldLink RX5 19 "GownLet$Sheet" "lane" "I" ∈ wsX5_begin := by decide +kernel
theorem m_X5_begin_23 : Cond.fieldLink RX5 23 "GownLet$Sheet" "length" "I" ∈ wsX5_begin := by decide +kernel
theorem ly_X5_begin_5 : ∀ w ∈ wsX50, w ∈ wsX5_begin := fun w h => List.mem_cons_of_mem _ (List.mem_append_right _ h)
set_option maxRecDepth 100000 in
set_option maxHeartbeats 4000000 in
theorem k_X5_begin (x0 : Int32) (x1 : Int32) (x2 : Int32) (S : gw_S)  {zS : gw_S} (h : f_X5_begin x0 x1 x2 S = some zS) : gw_M l yX5_begin wsX5_begin rm_X5_begin 0 0 D (gw_ty cc) t1 t2 [.ref (a (21 + x0.toNatClampNeg)), .int x1, .int x2] (gw_cw cc a b d S) (fun w => w = gw_cw cc a b d zS) none := by
  refine gw_enter (cc := cX5_begin) (maxL := 4) (ret := none) (own := RX5) rfl (by decide) rfl (Nat.le_of_ble_eq_true rfl) ?_
  intro p e s m below meth c A B hin hI ls hl
  have hl : lv_has ls 4 [(0, .ref (a (21 + x0.toNatClampNeg))), (1, .int x1), (2, .int x2)] := hl
  generalize ([.ref (a (21 + x0.toNatClampNeg)), .int x1, .int x2] : List Value).toArray = args at B ⊢
  have hx := B.1.1
  have hb := B.1.2.1
  have hown : s.vm.findClass RX5 = some m.cls := B.1.2.2.2.1
  have hts := B.1.2.2.2.2
  have hb2 :  ∀ (n : Nat), ∀ (v0 : Int32) (v1 : Int32) (v2 : Int32) (v3 : Int32) (S : gw_S), f_X5_begin_b2  n v0 v1 v2 v3 S = some zS → ∀ (H : Heap) (locs : List Loc) (ls : Array Slot), gw_I D A s.heap (gw_cw cc a b d S) H locs → lv_has ls 4 [(0, .ref (a (21 + v0.toNatClampNeg))), (1, .int v1), (2, .int v2), (3, .int v3)] → W p l e rm_X5_begin s m args below meth c H locs 0 0 (MQ below (gw_Q none (gw_Pst D A (fun w => w = gw_cw cc a b d zS)) A) args s 0 0 A) (F0 m 2 ls []) := by
    intro n
    induction n with
    | zero =>
      intro v0 v1 v2 v3 S h
      cases h
    | succ n ih =>
      intro v0 v1 v2 v3 S h H locs ls hI hl
      unfold f_X5_begin_b2 at h
      refine lv_iload_n hx hb dX5_begin_2 rfl (lv_at hl 3 rfl) ?_
      refine lv_bipush (v := 36) hx hb dX5_begin_3 (by decide) ?_
      refine lv_icmp_ge (tgt := 21) hx hb dX5_begin_5 (by decide) (fun c1 => ?_) (fun c1 => ?_)
      · replace h := gw_ifT c1 h
        refine lv_aload_n hx hb dX5_begin_21 rfl (lv_at hl 0 rfl) ?_
        refine lv_iconst (v := 1) hx hb dX5_begin_22 (by decide) ?_
        obtain ⟨g2, h⟩ := gw_gdE h
        obtain ⟨S3, e4, h⟩ := gw_letE h
        refine gw_put (T := TX5) (k := 1) (w' := gw_cw cc a b d S3) B hI (gc_gsh g2) rfl ly_X5_begin_5 tyX5 tyX5_ok nmX5 (by decide) m_X5_begin_15 rfl rfl rfl rfl (Nat.le_of_ble_eq_true rfl) (gc_ssh_1 g2 e4) dX5_begin_23 (fun H locs hI => ?_)
        refine lv_aload_n hx hb dX5_begin_26 rfl (lv_at hl 0 rfl) ?_
        refine lv_iload_n hx hb dX5_begin_27 rfl (lv_at hl 1 rfl) ?_
        obtain ⟨S5, e6, h⟩ := gw_letE h
        refine gw_put (T := TX5) (k := 2) (w' := gw_cw cc a b d S5) B hI (gc_gsh g2) rfl ly_X5_begin_5 tyX5 tyX5_ok nmX5 (by decide) m_X5_begin_19 rfl rfl rfl rfl (Nat.le_of_ble_eq_true rfl) (gc_ssh_2 g2 e6) dX5_begin_28 (fun H locs hI => ?_)
        refine lv_aload_n hx hb dX5_begin_31 rfl (lv_at hl 0 rfl) ?_
        refine lv_iload_n hx hb dX5_begin_32 rfl (lv_at hl 2 rfl) ?_
        obtain ⟨S7, e8, h⟩ := gw_letE h
        refine gw_put (T := TX5) (k := 3) (w' := gw_cw cc a b d S7) B hI (gc_gsh g2) rfl ly_X5_begin_5 tyX5 tyX5_ok nmX5 (by decide) m_X5_begin_23 rfl rfl rfl rfl (Nat.le_of_ble_eq_true rfl) (gc_ssh_3 g2 e8) dX5_begin_33 (fun H locs hI => ?_)
        rw [Option.some.inj h] at hI
        exact gw_vret (W' := (fun w => w = gw_cw cc a b d zS)) B hI rfl (Nat.zero_le _) (Nat.zero_le _) dX5_begin_36
      · replace h := gw_ifF c1 h
        refine lv_aload_n hx hb dX5_begin_8 rfl (lv_at hl 0 rfl) ?_
        obtain ⟨g9, h⟩ := gw_gdE h
        refine gw_get (T := TX5) (k := 0) (v := .ref (a (25 + v0.toNatClampNeg))) B hI (gc_gsh g9) rfl ly_X5_begin_5 (by decide) m_X5_begin_11 rfl rfl dX5_begin_9 ?_
        refine lv_iload_n hx hb dX5_begin_12 rfl (lv_at hl 3 rfl) ?_
        refine lv_iconst (v := 0) hx hb dX5_begin_13 (by decide) ?_
        obtain ⟨g10, h⟩ := gw_gdE h
        obtain ⟨S11, e12, h⟩ := gw_letE h
        refine gw_iast (t0 := 0) (w' := gw_cw cc a b d S11) B hI (gc_git g9) rfl g10 (gc_sit g9 e12) dX5_begin_14 (fun H locs hI => ?_)
        obtain ⟨y13, e14, h⟩ := gw_letE h
        refine lv_iinc (v := y13) (lv' := [(3, .int y13), (0, .ref (a (21 + v0.toNatClampNeg))), (1, .int v1), (2, .int v2)]) hx hb dX5_begin_15 hl (k := 3) rfl (by rw [e14]; rfl) (by decide) rfl (fun ls hl => ?_)
        refine lv_goto (tgt := 2) hx hb dX5_begin_18 (by decide) ?_
        exact ih v0 v1 v2 y13 S11 h _ _ _ hI (lv_sub hl [1, 2, 3, 0] rfl)
  unfold f_X5_begin at h
  refine lv_iconst (v := 0) hx hb dX5_begin_0 (by decide) ?_
  refine lv_istore_n (lv' := [(3, .int (0 : Int32)), (0, .ref (a (21 + x0.toNatClampNeg))), (1, .int x1), (2, .int x2)]) hx hb dX5_begin_1 rfl hl (by decide) rfl (fun ls hl => ?_)
  exact hb2  gw_F x0 x1 x2 (0 : Int32) S h _ _ _ hI (lv_sub hl [1, 2, 3, 0] rfl)
theorem m_X5_refusalAs_15 : Cond.fieldLink RX5 15 "GownLet$Sheet" "isThere" "Z" ∈ wsX5_refusalAs := by decide +kernel
theorem m_X5_refusalAs_19 : Cond.fieldLink RX5 19 "GownLet$Sheet" "lane" "I" ∈ wsX5_refusalAs := by decide +kernel
theorem ly_X5_refusalAs_5 : ∀ w ∈ wsX50, w ∈ wsX5_refusalAs := fun w h => List.mem_cons_of_mem _ (List.mem_append_right _ h)
set_option maxRecDepth 100000 in
set_option maxHeartbeats 4000000 in
theorem k_X5_refusalAs (x0 : Int32) (x1 : Int32) (S : gw_S) {zr : Int32} (h : f_X5_refusalAs x0 x1 S = some zr) : gw_M l yX5_refusalAs wsX5_refusalAs rm_X5_refusalAs 0 0 D (gw_ty cc) t1 t2 [.ref (a (21 + x0.toNatClampNeg)), .int x1] (gw_cw cc a b d S) (fun w => w = gw_cw cc a b d S) (some (.int zr)) := by
  refine gw_enter (cc := cX5_refusalAs) (maxL := 2) (ret := (some .int)) (own := RX5) rfl (by decide) rfl (Nat.le_of_ble_eq_true rfl) ?_
  intro p e s m below meth c A B hin hI ls hl
  have hl : lv_has ls 2 [(0, .ref (a (21 + x0.toNatClampNeg))), (1, .int x1)] := hl
  generalize ([.ref (a (21 + x0.toNatClampNeg)), .int x1] : List Value).toArray = args at B ⊢
  have hx := B.1.1
  have hb := B.1.2.1
  have hown : s.vm.findClass RX5 = some m.cls := B.1.2.2.2.1
  have hts := B.1.2.2.2.2
  unfold f_X5_refusalAs at h
  refine lv_aload_n hx hb dX5_refusalAs_0 rfl (lv_at hl 0 rfl) ?_
  obtain ⟨g1, h⟩ := gw_gdE h
  refine gw_get (T := TX5) (k := 1) (v := .int (S (21 + x0.toNatClampNeg) 1)) B hI (gc_gsh g1) rfl ly_X5_refusalAs_5 (by decide) m_X5_refusalAs_15 rfl rfl dX5_refusalAs_1 ?_
  refine lv_if_ne (tgt := 10) hx hb dX5_refusalAs_4 (by decide) (fun c2 => ?_) (fun c2 => ?_)
  · replace h := gw_ifF c2 h
    refine lv_aload_n hx hb dX5_refusalAs_10 rfl (lv_at hl 0 rfl) ?_
    refine gw_get (T := TX5) (k := 2) (v := .int (S (21 + x0.toNatClampNeg) 2)) B hI (gc_gsh g1) rfl ly_X5_refusalAs_5 (by decide) m_X5_refusalAs_19 rfl rfl dX5_refusalAs_11 ?_
    refine lv_iload_n hx hb dX5_refusalAs_14 rfl (lv_at hl 1 rfl) ?_
    refine lv_icmp_ne (tgt := 22) hx hb dX5_refusalAs_15 (by decide) (fun c3 => ?_) (fun c3 => ?_)
    · replace h := gw_ifF c3 h
      refine lv_bipush (v := -12) hx hb dX5_refusalAs_22 (by decide) ?_
      rw [← Option.some.inj h]
      exact gw_iret (W' := (fun w => w = gw_cw cc a b d S)) B hI rfl (Nat.zero_le _) (Nat.zero_le _) dX5_refusalAs_24
    · replace h := gw_ifT c3 h
      refine lv_iconst (v := 0) hx hb dX5_refusalAs_18 (by decide) ?_
      refine lv_goto (tgt := 24) hx hb dX5_refusalAs_19 (by decide) ?_
      rw [← Option.some.inj h]
      exact gw_iret (W' := (fun w => w = gw_cw cc a b d S)) B hI rfl (Nat.zero_le _) (Nat.zero_le _) dX5_refusalAs_24
  · replace h := gw_ifT c2 h
    refine lv_bipush (v := -11) hx hb dX5_refusalAs_7 (by decide) ?_
    rw [← Option.some.inj h]
    exact gw_iret (W' := (fun w => w = gw_cw cc a b d S)) B hI rfl (Nat.zero_le _) (Nat.zero_le _) dX5_refusalAs_9
theorem m_X5_hasItems_23 : Cond.fieldLink RX5 23 "GownLet$Sheet" "length" "I" ∈ wsX5_hasItems := by decide +kernel
theorem ly_X5_hasItems_5 : ∀ w ∈ wsX50, w ∈ wsX5_hasItems := fun w h => List.mem_cons_of_mem _ (List.mem_append_right _ h)
set_option maxRecDepth 100000 in
set_option maxHeartbeats 4000000 in
theorem k_X5_hasItems (x0 : Int32) (x1 : Int32) (x2 : Int32) (S : gw_S) {zr : Int32} (h : f_X5_hasItems x0 x1 x2 S = some zr) : gw_M l yX5_hasItems wsX5_hasItems rm_X5_hasItems 0 0 D (gw_ty cc) t1 t2 [.ref (a (21 + x0.toNatClampNeg)), .int x1, .int x2] (gw_cw cc a b d S) (fun w => w = gw_cw cc a b d S) (some (.int zr)) := by
  refine gw_enter (cc := cX5_hasItems) (maxL := 3) (ret := (some .boolean)) (own := RX5) rfl (by decide) rfl (Nat.le_of_ble_eq_true rfl) ?_
  intro p e s m below meth c A B hin hI ls hl
  have hl : lv_has ls 3 [(0, .ref (a (21 + x0.toNatClampNeg))), (1, .int x1), (2, .int x2)] := hl
  generalize ([.ref (a (21 + x0.toNatClampNeg)), .int x1, .int x2] : List Value).toArray = args at B ⊢
  have hx := B.1.1
  have hb := B.1.2.1
  have hown : s.vm.findClass RX5 = some m.cls := B.1.2.2.2.1
  have hts := B.1.2.2.2.2
  unfold f_X5_hasItems at h
  refine lv_iload_n hx hb dX5_hasItems_0 rfl (lv_at hl 1 rfl) ?_
  refine lv_if_lt (tgt := 18) hx hb dX5_hasItems_1 (by decide) (fun c1 => ?_) (fun c1 => ?_)
  · replace h := gw_ifT c1 h
    refine lv_iconst (v := 0) hx hb dX5_hasItems_18 (by decide) ?_
    rw [← Option.some.inj h]
    exact gw_zret (W' := (fun w => w = gw_cw cc a b d S)) B hI rfl (Or.inl rfl) (Nat.zero_le _) (Nat.zero_le _) dX5_hasItems_19
  · replace h := gw_ifF c1 h
    refine lv_iload_n hx hb dX5_hasItems_4 rfl (lv_at hl 1 rfl) ?_
    refine lv_aload_n hx hb dX5_hasItems_5 rfl (lv_at hl 0 rfl) ?_
    obtain ⟨g2, h⟩ := gw_gdE h
    refine gw_get (T := TX5) (k := 3) (v := .int (S (21 + x0.toNatClampNeg) 3)) B hI (gc_gsh g2) rfl ly_X5_hasItems_5 (by decide) m_X5_hasItems_23 rfl rfl dX5_hasItems_6 ?_
    refine lv_iload_n hx hb dX5_hasItems_9 rfl (lv_at hl 2 rfl) ?_
    refine lv_isub hx hb dX5_hasItems_10 ?_
    refine lv_icmp_gt (tgt := 18) hx hb dX5_hasItems_11 (by decide) (fun c3 => ?_) (fun c3 => ?_)
    · replace h := gw_ifT c3 h
      refine lv_iconst (v := 0) hx hb dX5_hasItems_18 (by decide) ?_
      rw [← Option.some.inj h]
      exact gw_zret (W' := (fun w => w = gw_cw cc a b d S)) B hI rfl (Or.inl rfl) (Nat.zero_le _) (Nat.zero_le _) dX5_hasItems_19
    · replace h := gw_ifF c3 h
      refine lv_iconst (v := 1) hx hb dX5_hasItems_14 (by decide) ?_
      refine lv_goto (tgt := 19) hx hb dX5_hasItems_15 (by decide) ?_
      rw [← Option.some.inj h]
      exact gw_zret (W' := (fun w => w = gw_cw cc a b d S)) B hI rfl (Or.inr rfl) (Nat.zero_le _) (Nat.zero_le _) dX5_hasItems_19
theorem m_X5_get_11 : Cond.fieldLink RX5 11 "GownLet$Sheet" "items" "[I" ∈ wsX5_get := by decide +kernel
theorem ly_X5_get_5 : ∀ w ∈ wsX50, w ∈ wsX5_get := fun w h => List.mem_cons_of_mem _ (List.mem_append_right _ h)
set_option maxRecDepth 100000 in
set_option maxHeartbeats 4000000 in
theorem k_X5_get (x0 : Int32) (x1 : Int32) (S : gw_S) {zr : Int32} (h : f_X5_get x0 x1 S = some zr) : gw_M l yX5_get wsX5_get rm_X5_get 0 0 D (gw_ty cc) t1 t2 [.ref (a (21 + x0.toNatClampNeg)), .int x1] (gw_cw cc a b d S) (fun w => w = gw_cw cc a b d S) (some (.int zr)) := by
  refine gw_enter (cc := cX5_get) (maxL := 2) (ret := (some .int)) (own := RX5) rfl (by decide) rfl (Nat.le_of_ble_eq_true rfl) ?_
  intro p e s m below meth c A B hin hI ls hl
  have hl : lv_has ls 2 [(0, .ref (a (21 + x0.toNatClampNeg))), (1, .int x1)] := hl
  generalize ([.ref (a (21 + x0.toNatClampNeg)), .int x1] : List Value).toArray = args at B ⊢
  have hx := B.1.1
  have hb := B.1.2.1
  have hown : s.vm.findClass RX5 = some m.cls := B.1.2.2.2.1
  have hts := B.1.2.2.2.2
  unfold f_X5_get at h
  refine lv_iload_n hx hb dX5_get_0 rfl (lv_at hl 1 rfl) ?_
  refine lv_if_lt (tgt := 19) hx hb dX5_get_1 (by decide) (fun c1 => ?_) (fun c1 => ?_)
  · replace h := gw_ifT c1 h
    refine lv_iconst (v := 0) hx hb dX5_get_19 (by decide) ?_
    rw [← Option.some.inj h]
    exact gw_iret (W' := (fun w => w = gw_cw cc a b d S)) B hI rfl (Nat.zero_le _) (Nat.zero_le _) dX5_get_20
  · replace h := gw_ifF c1 h
    refine lv_iload_n hx hb dX5_get_4 rfl (lv_at hl 1 rfl) ?_
    refine lv_bipush (v := 36) hx hb dX5_get_5 (by decide) ?_
    refine lv_icmp_ge (tgt := 19) hx hb dX5_get_7 (by decide) (fun c2 => ?_) (fun c2 => ?_)
    · replace h := gw_ifT c2 h
      refine lv_iconst (v := 0) hx hb dX5_get_19 (by decide) ?_
      rw [← Option.some.inj h]
      exact gw_iret (W' := (fun w => w = gw_cw cc a b d S)) B hI rfl (Nat.zero_le _) (Nat.zero_le _) dX5_get_20
    · replace h := gw_ifF c2 h
      refine lv_aload_n hx hb dX5_get_10 rfl (lv_at hl 0 rfl) ?_
      obtain ⟨g3, h⟩ := gw_gdE h
      refine gw_get (T := TX5) (k := 0) (v := .ref (a (25 + x0.toNatClampNeg))) B hI (gc_gsh g3) rfl ly_X5_get_5 (by decide) m_X5_get_11 rfl rfl dX5_get_11 ?_
      refine lv_iload_n hx hb dX5_get_14 rfl (lv_at hl 1 rfl) ?_
      obtain ⟨g4, h⟩ := gw_gdE h
      refine gw_iald (t0 := 0) B hI (gc_git g3) rfl g4 dX5_get_15 ?_
      refine lv_goto (tgt := 20) hx hb dX5_get_16 (by decide) ?_
      rw [← Option.some.inj h]
      exact gw_iret (W' := (fun w => w = gw_cw cc a b d S)) B hI rfl (Nat.zero_le _) (Nat.zero_le _) dX5_get_20
theorem m_X5_put_11 : Cond.fieldLink RX5 11 "GownLet$Sheet" "items" "[I" ∈ wsX5_put := by decide +kernel
theorem m_X5_put_19 : Cond.fieldLink RX5 19 "GownLet$Sheet" "lane" "I" ∈ wsX5_put := by decide +kernel
theorem ly_X5_put_5 : ∀ w ∈ wsX50, w ∈ wsX5_put := fun w h => List.mem_cons_of_mem _ (List.mem_append_right _ h)
set_option maxRecDepth 100000 in
set_option maxHeartbeats 4000000 in
theorem k_X5_put (x0 : Int32) (x1 : Int32) (x2 : Int32) (S : gw_S)  {zS : gw_S} (h : f_X5_put x0 x1 x2 S = some zS) : gw_M l yX5_put wsX5_put rm_X5_put 0 0 D (gw_ty cc) t1 t2 [.ref (a (21 + x0.toNatClampNeg)), .int x1, .int x2] (gw_cw cc a b d S) (fun w => w = gw_cw cc a b d zS) none := by
  refine gw_enter (cc := cX5_put) (maxL := 3) (ret := none) (own := RX5) rfl (by decide) rfl (Nat.le_of_ble_eq_true rfl) ?_
  intro p e s m below meth c A B hin hI ls hl
  have hl : lv_has ls 3 [(0, .ref (a (21 + x0.toNatClampNeg))), (1, .int x1), (2, .int x2)] := hl
  generalize ([.ref (a (21 + x0.toNatClampNeg)), .int x1, .int x2] : List Value).toArray = args at B ⊢
  have hx := B.1.1
  have hb := B.1.2.1
  have hown : s.vm.findClass RX5 = some m.cls := B.1.2.2.2.1
  have hts := B.1.2.2.2.2
  have hb41 :  ∀ (t0_ : Int32) (t1_ : Int32) (t2_ : Int32) (S : gw_S), f_X5_put_b41  t0_ t1_ t2_ S = some zS → ∀ (H : Heap) (locs : List Loc) (ls : Array Slot), gw_I D A s.heap (gw_cw cc a b d S) H locs → lv_has ls 3 [] → W p l e rm_X5_put s m args below meth c H locs 0 0 (MQ below (gw_Q none (gw_Pst D A (fun w => w = gw_cw cc a b d zS)) A) args s 0 0 A) (F0 m 41 ls [.int t0_, .int t1_, .ref (a (25 + t2_.toNatClampNeg))]) := by
    intro t0_ t1_ t2_ S h H locs ls hI hl
    unfold f_X5_put_b41 at h
    obtain ⟨g1, h⟩ := gw_gdE h
    obtain ⟨g2, h⟩ := gw_gdE h
    obtain ⟨S3, e4, h⟩ := gw_letE h
    refine gw_iast (t0 := 0) (w' := gw_cw cc a b d S3) B hI (gc_git g1) rfl g2 (gc_sit g1 e4) dX5_put_41 (fun H locs hI => ?_)
    rw [Option.some.inj h] at hI
    exact gw_vret (W' := (fun w => w = gw_cw cc a b d zS)) B hI rfl (Nat.zero_le _) (Nat.zero_le _) dX5_put_42
  unfold f_X5_put at h
  refine lv_iload_n hx hb dX5_put_0 rfl (lv_at hl 1 rfl) ?_
  refine lv_if_lt (tgt := 42) hx hb dX5_put_1 (by decide) (fun c5 => ?_) (fun c5 => ?_)
  · replace h := gw_ifT c5 h
    rw [Option.some.inj h] at hI
    exact gw_vret (W' := (fun w => w = gw_cw cc a b d zS)) B hI rfl (Nat.zero_le _) (Nat.zero_le _) dX5_put_42
  · replace h := gw_ifF c5 h
    refine lv_iload_n hx hb dX5_put_4 rfl (lv_at hl 1 rfl) ?_
    refine lv_bipush (v := 36) hx hb dX5_put_5 (by decide) ?_
    refine lv_icmp_ge (tgt := 42) hx hb dX5_put_7 (by decide) (fun c6 => ?_) (fun c6 => ?_)
    · replace h := gw_ifT c6 h
      rw [Option.some.inj h] at hI
      exact gw_vret (W' := (fun w => w = gw_cw cc a b d zS)) B hI rfl (Nat.zero_le _) (Nat.zero_le _) dX5_put_42
    · replace h := gw_ifF c6 h
      refine lv_aload_n hx hb dX5_put_10 rfl (lv_at hl 0 rfl) ?_
      obtain ⟨g7, h⟩ := gw_gdE h
      refine gw_get (T := TX5) (k := 0) (v := .ref (a (25 + x0.toNatClampNeg))) B hI (gc_gsh g7) rfl ly_X5_put_5 (by decide) m_X5_put_11 rfl rfl dX5_put_11 ?_
      refine lv_iload_n hx hb dX5_put_14 rfl (lv_at hl 1 rfl) ?_
      refine lv_aload_n hx hb dX5_put_15 rfl (lv_at hl 0 rfl) ?_
      refine gw_get (T := TX5) (k := 2) (v := .int (S (21 + x0.toNatClampNeg) 2)) B hI (gc_gsh g7) rfl ly_X5_put_5 (by decide) m_X5_put_19 rfl rfl dX5_put_16 ?_
      refine lv_if_ne (tgt := 27) hx hb dX5_put_19 (by decide) (fun c8 => ?_) (fun c8 => ?_)
      · replace h := gw_ifF c8 h
        refine lv_aload_n hx hb dX5_put_27 rfl (lv_at hl 0 rfl) ?_
        refine gw_get (T := TX5) (k := 2) (v := .int (S (21 + x0.toNatClampNeg) 2)) B hI (gc_gsh g7) rfl ly_X5_put_5 (by decide) m_X5_put_19 rfl rfl dX5_put_28 ?_
        refine lv_iconst (v := 1) hx hb dX5_put_31 (by decide) ?_
        refine lv_icmp_ne (tgt := 40) hx hb dX5_put_32 (by decide) (fun c9 => ?_) (fun c9 => ?_)
        · replace h := gw_ifF c9 h
          refine lv_iload_n hx hb dX5_put_40 rfl (lv_at hl 2 rfl) ?_
          exact hb41  x2 x1 x0 S h _ _ _ hI (lv_sub hl [] rfl)
        · replace h := gw_ifT c9 h
          refine lv_iload_n hx hb dX5_put_35 rfl (lv_at hl 2 rfl) ?_
          refine lv_i2s hx hb dX5_put_36 rfl ?_
          refine lv_goto (tgt := 41) hx hb dX5_put_37 (by decide) ?_
          exact hb41  (x2.toInt16.toInt32) x1 x0 S h _ _ _ hI (lv_sub hl [] rfl)
      · replace h := gw_ifT c8 h
        refine lv_iload_n hx hb dX5_put_22 rfl (lv_at hl 2 rfl) ?_
        refine lv_i2b hx hb dX5_put_23 rfl ?_
        refine lv_goto (tgt := 41) hx hb dX5_put_24 (by decide) ?_
        exact hb41  (x2.toInt8.toInt32) x1 x0 S h _ _ _ hI (lv_sub hl [] rfl)
end
end
section
/-! contracts: printed by wip/gen -/
section
variable {l : Launch} {D : va_G} {t1 t2 : Nat} {cc : Nat → ClassId} {a b d : Nat → Nat}
theorem m_X6_hasRoomFor_13 : Cond.fieldLink RX6 13 "GownLet$Tape" "length" "I" ∈ wsX6_hasRoomFor := by decide +kernel
theorem ly_X6_hasRoomFor_6 : ∀ w ∈ wsX60, w ∈ wsX6_hasRoomFor := fun w h => List.mem_cons_of_mem _ (List.mem_append_right _ h)
set_option maxRecDepth 100000 in
set_option maxHeartbeats 4000000 in
theorem k_X6_hasRoomFor (x1 : Int32) (S : gw_S) {zr : Int32} (h : f_X6_hasRoomFor x1 S = some zr) : gw_M l yX6_hasRoomFor wsX6_hasRoomFor rm_X6_hasRoomFor 0 0 D (gw_ty cc) t1 t2 [.ref (a 1), .int x1] (gw_cw cc a b d S) (fun w => w = gw_cw cc a b d S) (some (.int zr)) := by
  refine gw_enter (cc := cX6_hasRoomFor) (maxL := 2) (ret := (some .boolean)) (own := RX6) rfl (by decide) rfl (Nat.le_of_ble_eq_true rfl) ?_
  intro p e s m below meth c A B hin hI ls hl
  have hl : lv_has ls 2 [(0, .ref (a 1)), (1, .int x1)] := hl
  generalize ([.ref (a 1), .int x1] : List Value).toArray = args at B ⊢
  have hx := B.1.1
  have hb := B.1.2.1
  have hown : s.vm.findClass RX6 = some m.cls := B.1.2.2.2.1
  have hts := B.1.2.2.2.2
  unfold f_X6_hasRoomFor at h
  refine lv_iload_n hx hb dX6_hasRoomFor_0 rfl (lv_at hl 1 rfl) ?_
  refine lv_bipush (v := 60) hx hb dX6_hasRoomFor_1 (by decide) ?_
  refine lv_aload_n hx hb dX6_hasRoomFor_3 rfl (lv_at hl 0 rfl) ?_
  refine gw_get (T := TX6) (k := 1) (v := .int (S 1 1)) B hI gc_g1 rfl ly_X6_hasRoomFor_6 (by decide) m_X6_hasRoomFor_13 rfl rfl dX6_hasRoomFor_4 ?_
  refine lv_isub hx hb dX6_hasRoomFor_7 ?_
  refine lv_icmp_gt (tgt := 15) hx hb dX6_hasRoomFor_8 (by decide) (fun c1 => ?_) (fun c1 => ?_)
  · replace h := gw_ifT c1 h
    refine lv_iconst (v := 0) hx hb dX6_hasRoomFor_15 (by decide) ?_
    rw [← Option.some.inj h]
    exact gw_zret (W' := (fun w => w = gw_cw cc a b d S)) B hI rfl (Or.inl rfl) (Nat.zero_le _) (Nat.zero_le _) dX6_hasRoomFor_16
  · replace h := gw_ifF c1 h
    refine lv_iconst (v := 1) hx hb dX6_hasRoomFor_11 (by decide) ?_
    refine lv_goto (tgt := 16) hx hb dX6_hasRoomFor_12 (by decide) ?_
    rw [← Option.some.inj h]
    exact gw_zret (W' := (fun w => w = gw_cw cc a b d S)) B hI rfl (Or.inr rfl) (Nat.zero_le _) (Nat.zero_le _) dX6_hasRoomFor_16
theorem m_X6_append_13 : Cond.fieldLink RX6 13 "GownLet$Tape" "length" "I" ∈ wsX6_append := by decide +kernel
theorem m_X6_append_9 : Cond.fieldLink RX6 9 "GownLet$Tape" "bytes" "[B" ∈ wsX6_append := by decide +kernel
theorem ly_X6_append_6 : ∀ w ∈ wsX60, w ∈ wsX6_append := fun w h => List.mem_cons_of_mem _ (List.mem_append_right _ h)
set_option maxRecDepth 100000 in
set_option maxHeartbeats 4000000 in
theorem k_X6_append (x1 : Int32) (S : gw_S)  {zS : gw_S} (h : f_X6_append x1 S = some zS) : gw_M l yX6_append wsX6_append rm_X6_append 0 0 D (gw_ty cc) t1 t2 [.ref (a 1), .int x1] (gw_cw cc a b d S) (fun w => w = gw_cw cc a b d zS) none := by
  refine gw_enter (cc := cX6_append) (maxL := 2) (ret := none) (own := RX6) rfl (by decide) rfl (Nat.le_of_ble_eq_true rfl) ?_
  intro p e s m below meth c A B hin hI ls hl
  have hl : lv_has ls 2 [(0, .ref (a 1)), (1, .int x1)] := hl
  generalize ([.ref (a 1), .int x1] : List Value).toArray = args at B ⊢
  have hx := B.1.1
  have hb := B.1.2.1
  have hown : s.vm.findClass RX6 = some m.cls := B.1.2.2.2.1
  have hts := B.1.2.2.2.2
  unfold f_X6_append at h
  refine lv_aload_n hx hb dX6_append_0 rfl (lv_at hl 0 rfl) ?_
  refine gw_get (T := TX6) (k := 1) (v := .int (S 1 1)) B hI gc_g1 rfl ly_X6_append_6 (by decide) m_X6_append_13 rfl rfl dX6_append_1 ?_
  refine lv_bipush (v := 60) hx hb dX6_append_4 (by decide) ?_
  refine lv_icmp_ge (tgt := 30) hx hb dX6_append_6 (by decide) (fun c1 => ?_) (fun c1 => ?_)
  · replace h := gw_ifT c1 h
    rw [Option.some.inj h] at hI
    exact gw_vret (W' := (fun w => w = gw_cw cc a b d zS)) B hI rfl (Nat.zero_le _) (Nat.zero_le _) dX6_append_30
  · replace h := gw_ifF c1 h
    refine lv_aload_n hx hb dX6_append_9 rfl (lv_at hl 0 rfl) ?_
    refine gw_get (T := TX6) (k := 0) (v := .ref (a 2)) B hI gc_g1 rfl ly_X6_append_6 (by decide) m_X6_append_9 rfl rfl dX6_append_10 ?_
    refine lv_aload_n hx hb dX6_append_13 rfl (lv_at hl 0 rfl) ?_
    refine gw_get (T := TX6) (k := 1) (v := .int (S 1 1)) B hI gc_g1 rfl ly_X6_append_6 (by decide) m_X6_append_13 rfl rfl dX6_append_14 ?_
    refine lv_iload_n hx hb dX6_append_17 rfl (lv_at hl 1 rfl) ?_
    refine lv_i2b hx hb dX6_append_18 rfl ?_
    obtain ⟨g2, h⟩ := gw_gdE h
    obtain ⟨S3, e4, h⟩ := gw_letE h
    refine gw_bast (t0 := 1) (w' := gw_cw cc a b d S3) B hI gc_g2 rfl g2 (gc_s2 e4) dX6_append_19 (fun H locs hI => ?_)
    refine lv_aload_n hx hb dX6_append_20 rfl (lv_at hl 0 rfl) ?_
    refine lv_dup hx hb dX6_append_21 rfl ?_
    refine gw_get (T := TX6) (k := 1) (v := .int (S3 1 1)) B hI gc_g1 rfl ly_X6_append_6 (by decide) m_X6_append_13 rfl rfl dX6_append_22 ?_
    refine lv_iconst (v := 1) hx hb dX6_append_25 (by decide) ?_
    refine lv_iadd hx hb dX6_append_26 ?_
    obtain ⟨S5, e6, h⟩ := gw_letE h
    refine gw_put (T := TX6) (k := 1) (w' := gw_cw cc a b d S5) B hI gc_g1 rfl ly_X6_append_6 tyX6 tyX6_ok nmX6 (by decide) m_X6_append_13 rfl rfl rfl rfl (Nat.le_of_ble_eq_true rfl) (gc_s1_1 e6) dX6_append_27 (fun H locs hI => ?_)
    rw [Option.some.inj h] at hI
    exact gw_vret (W' := (fun w => w = gw_cw cc a b d zS)) B hI rfl (Nat.zero_le _) (Nat.zero_le _) dX6_append_30
theorem m_X6_clear_13 : Cond.fieldLink RX6 13 "GownLet$Tape" "length" "I" ∈ wsX6_clear := by decide +kernel
theorem ly_X6_clear_6 : ∀ w ∈ wsX60, w ∈ wsX6_clear := fun w h => List.mem_cons_of_mem _ (List.mem_append_right _ h)
set_option maxRecDepth 100000 in
set_option maxHeartbeats 4000000 in
theorem k_X6_clear  (S : gw_S)  {zS : gw_S} (h : f_X6_clear  S = some zS) : gw_M l yX6_clear wsX6_clear rm_X6_clear 0 0 D (gw_ty cc) t1 t2 [.ref (a 1)] (gw_cw cc a b d S) (fun w => w = gw_cw cc a b d zS) none := by
  refine gw_enter (cc := cX6_clear) (maxL := 1) (ret := none) (own := RX6) rfl (by decide) rfl (Nat.le_of_ble_eq_true rfl) ?_
  intro p e s m below meth c A B hin hI ls hl
  have hl : lv_has ls 1 [(0, .ref (a 1))] := hl
  generalize ([.ref (a 1)] : List Value).toArray = args at B ⊢
  have hx := B.1.1
  have hb := B.1.2.1
  have hown : s.vm.findClass RX6 = some m.cls := B.1.2.2.2.1
  have hts := B.1.2.2.2.2
  unfold f_X6_clear at h
  refine lv_aload_n hx hb dX6_clear_0 rfl (lv_at hl 0 rfl) ?_
  refine lv_iconst (v := 0) hx hb dX6_clear_1 (by decide) ?_
  obtain ⟨S1, e2, h⟩ := gw_letE h
  refine gw_put (T := TX6) (k := 1) (w' := gw_cw cc a b d S1) B hI gc_g1 rfl ly_X6_clear_6 tyX6 tyX6_ok nmX6 (by decide) m_X6_clear_13 rfl rfl rfl rfl (Nat.le_of_ble_eq_true rfl) (gc_s1_1 e2) dX6_clear_2 (fun H locs hI => ?_)
  rw [Option.some.inj h] at hI
  exact gw_vret (W' := (fun w => w = gw_cw cc a b d zS)) B hI rfl (Nat.zero_le _) (Nat.zero_le _) dX6_clear_5
theorem m_X6_signAt_13 : Cond.fieldLink RX6 13 "GownLet$Tape" "length" "I" ∈ wsX6_signAt := by decide +kernel
theorem m_X6_signAt_9 : Cond.fieldLink RX6 9 "GownLet$Tape" "bytes" "[B" ∈ wsX6_signAt := by decide +kernel
theorem ly_X6_signAt_6 : ∀ w ∈ wsX60, w ∈ wsX6_signAt := fun w h => List.mem_cons_of_mem _ (List.mem_append_right _ h)
set_option maxRecDepth 100000 in
set_option maxHeartbeats 4000000 in
theorem k_X6_signAt (x1 : Int32) (S : gw_S) {zr : Int32} (h : f_X6_signAt x1 S = some zr) : gw_M l yX6_signAt wsX6_signAt rm_X6_signAt 0 0 D (gw_ty cc) t1 t2 [.ref (a 1), .int x1] (gw_cw cc a b d S) (fun w => w = gw_cw cc a b d S) (some (.int zr)) := by
  refine gw_enter (cc := cX6_signAt) (maxL := 2) (ret := (some .int)) (own := RX6) rfl (by decide) rfl (Nat.le_of_ble_eq_true rfl) ?_
  intro p e s m below meth c A B hin hI ls hl
  have hl : lv_has ls 2 [(0, .ref (a 1)), (1, .int x1)] := hl
  generalize ([.ref (a 1), .int x1] : List Value).toArray = args at B ⊢
  have hx := B.1.1
  have hb := B.1.2.1
  have hown : s.vm.findClass RX6 = some m.cls := B.1.2.2.2.1
  have hts := B.1.2.2.2.2
  unfold f_X6_signAt at h
  refine lv_iload_n hx hb dX6_signAt_0 rfl (lv_at hl 1 rfl) ?_
  refine lv_if_lt (tgt := 21) hx hb dX6_signAt_1 (by decide) (fun c1 => ?_) (fun c1 => ?_)
  · replace h := gw_ifT c1 h
    refine lv_iconst (v := -1) hx hb dX6_signAt_21 (by decide) ?_
    rw [← Option.some.inj h]
    exact gw_iret (W' := (fun w => w = gw_cw cc a b d S)) B hI rfl (Nat.zero_le _) (Nat.zero_le _) dX6_signAt_22
  · replace h := gw_ifF c1 h
    refine lv_iload_n hx hb dX6_signAt_4 rfl (lv_at hl 1 rfl) ?_
    refine lv_aload_n hx hb dX6_signAt_5 rfl (lv_at hl 0 rfl) ?_
    refine gw_get (T := TX6) (k := 1) (v := .int (S 1 1)) B hI gc_g1 rfl ly_X6_signAt_6 (by decide) m_X6_signAt_13 rfl rfl dX6_signAt_6 ?_
    refine lv_icmp_ge (tgt := 21) hx hb dX6_signAt_9 (by decide) (fun c2 => ?_) (fun c2 => ?_)
    · replace h := gw_ifT c2 h
      refine lv_iconst (v := -1) hx hb dX6_signAt_21 (by decide) ?_
      rw [← Option.some.inj h]
      exact gw_iret (W' := (fun w => w = gw_cw cc a b d S)) B hI rfl (Nat.zero_le _) (Nat.zero_le _) dX6_signAt_22
    · replace h := gw_ifF c2 h
      refine lv_aload_n hx hb dX6_signAt_12 rfl (lv_at hl 0 rfl) ?_
      refine gw_get (T := TX6) (k := 0) (v := .ref (a 2)) B hI gc_g1 rfl ly_X6_signAt_6 (by decide) m_X6_signAt_9 rfl rfl dX6_signAt_13 ?_
      refine lv_iload_n hx hb dX6_signAt_16 rfl (lv_at hl 1 rfl) ?_
      obtain ⟨g3, h⟩ := gw_gdE h
      refine gw_bald (t0 := 1) B hI gc_g2 rfl g3 dX6_signAt_17 ?_
      refine lv_goto (tgt := 22) hx hb dX6_signAt_18 (by decide) ?_
      rw [← Option.some.inj h]
      exact gw_iret (W' := (fun w => w = gw_cw cc a b d S)) B hI rfl (Nat.zero_le _) (Nat.zero_le _) dX6_signAt_22
set_option maxRecDepth 100000 in
set_option maxHeartbeats 4000000 in
theorem k_X6_isDigitAt (x1 : Int32) (S : gw_S) {zr : Int32} (h : f_X6_isDigitAt x1 S = some zr) : gw_M l yX6_isDigitAt wsX6_isDigitAt rm_X6_isDigitAt 0 0 D (gw_ty cc) t1 t2 [.ref (a 1), .int x1] (gw_cw cc a b d S) (fun w => w = gw_cw cc a b d S) (some (.int zr)) := by
  refine gw_enter (cc := cX6_isDigitAt) (maxL := 3) (ret := (some .boolean)) (own := RX6) rfl (by decide) rfl (Nat.le_of_ble_eq_true rfl) ?_
  intro p e s m below meth c A B hin hI ls hl
  have hl : lv_has ls 3 [(0, .ref (a 1)), (1, .int x1)] := hl
  generalize ([.ref (a 1), .int x1] : List Value).toArray = args at B ⊢
  have hx := B.1.1
  have hb := B.1.2.1
  have hown : s.vm.findClass RX6 = some m.cls := B.1.2.2.2.1
  have hts := B.1.2.2.2.2
  unfold f_X6_isDigitAt at h
  refine lv_aload_n hx hb dX6_isDigitAt_0 rfl (lv_at hl 0 rfl) ?_
  refine lv_iload_n hx hb dX6_isDigitAt_1 rfl (lv_at hl 1 rfl) ?_
  obtain ⟨r1, e2, h⟩ := gw_bdE h
  refine gw_callV (As := [.int x1]) (n := 1) B hI (k_X6_signAt x1 S e2) gX6_isDigitAt_X6_signAt rfl rfl rfl nd_X6_signAt ⟨Nat.le_of_ble_eq_true rfl, Nat.le_of_ble_eq_true rfl⟩ gc_g1 rfl rfl rfl hl.1 (Nat.zero_le _) dX6_isDigitAt_2 ⟨Nat.le_of_ble_eq_true rfl, Nat.le_of_ble_eq_true rfl⟩ rfl (fun w' H locs hw hI => ?_)
  subst hw
  refine lv_istore_n (lv' := [(2, .int r1), (0, .ref (a 1)), (1, .int x1)]) hx hb dX6_isDigitAt_5 rfl hl (by decide) rfl (fun ls hl => ?_)
  refine lv_iload_n hx hb dX6_isDigitAt_6 rfl (lv_at hl 0 rfl) ?_
  refine lv_bipush (v := 48) hx hb dX6_isDigitAt_7 (by decide) ?_
  refine lv_icmp_lt (tgt := 22) hx hb dX6_isDigitAt_9 (by decide) (fun c3 => ?_) (fun c3 => ?_)
  · replace h := gw_ifT c3 h
    refine lv_iconst (v := 0) hx hb dX6_isDigitAt_22 (by decide) ?_
    rw [← Option.some.inj h]
    exact gw_zret (W' := (fun w => w = gw_cw cc a b d S)) B hI rfl (Or.inl rfl) (Nat.zero_le _) (Nat.zero_le _) dX6_isDigitAt_23
  · replace h := gw_ifF c3 h
    refine lv_iload_n hx hb dX6_isDigitAt_12 rfl (lv_at hl 0 rfl) ?_
    refine lv_bipush (v := 57) hx hb dX6_isDigitAt_13 (by decide) ?_
    refine lv_icmp_gt (tgt := 22) hx hb dX6_isDigitAt_15 (by decide) (fun c4 => ?_) (fun c4 => ?_)
    · replace h := gw_ifT c4 h
      refine lv_iconst (v := 0) hx hb dX6_isDigitAt_22 (by decide) ?_
      rw [← Option.some.inj h]
      exact gw_zret (W' := (fun w => w = gw_cw cc a b d S)) B hI rfl (Or.inl rfl) (Nat.zero_le _) (Nat.zero_le _) dX6_isDigitAt_23
    · replace h := gw_ifF c4 h
      refine lv_iconst (v := 1) hx hb dX6_isDigitAt_18 (by decide) ?_
      refine lv_goto (tgt := 23) hx hb dX6_isDigitAt_19 (by decide) ?_
      rw [← Option.some.inj h]
      exact gw_zret (W' := (fun w => w = gw_cw cc a b d S)) B hI rfl (Or.inr rfl) (Nat.zero_le _) (Nat.zero_le _) dX6_isDigitAt_23
theorem m_X6_behindBlanks_13 : Cond.fieldLink RX6 13 "GownLet$Tape" "length" "I" ∈ wsX6_behindBlanks := by decide +kernel
theorem ly_X6_behindBlanks_6 : ∀ w ∈ wsX60, w ∈ wsX6_behindBlanks := fun w h => List.mem_cons_of_mem _ (List.mem_append_right _ h)
set_option maxRecDepth 100000 in
set_option maxHeartbeats 4000000 in
theorem k_X6_behindBlanks (x1 : Int32) (S : gw_S) {zr : Int32} (h : f_X6_behindBlanks x1 S = some zr) : gw_M l yX6_behindBlanks wsX6_behindBlanks rm_X6_behindBlanks 0 0 D (gw_ty cc) t1 t2 [.ref (a 1), .int x1] (gw_cw cc a b d S) (fun w => w = gw_cw cc a b d S) (some (.int zr)) := by
  refine gw_enter (cc := cX6_behindBlanks) (maxL := 3) (ret := (some .int)) (own := RX6) rfl (by decide) rfl (Nat.le_of_ble_eq_true rfl) ?_
  intro p e s m below meth c A B hin hI ls hl
  have hl : lv_has ls 3 [(0, .ref (a 1)), (1, .int x1)] := hl
  generalize ([.ref (a 1), .int x1] : List Value).toArray = args at B ⊢
  have hx := B.1.1
  have hb := B.1.2.1
  have hown : s.vm.findClass RX6 = some m.cls := B.1.2.2.2.1
  have hts := B.1.2.2.2.2
  have hb2 :  ∀ (n : Nat), ∀ (v2 : Int32), f_X6_behindBlanks_b2 S  n v2 = some zr → ∀ (H : Heap) (locs : List Loc) (ls : Array Slot), gw_I D A s.heap (gw_cw cc a b d S) H locs → lv_has ls 3 [(0, .ref (a 1)), (2, .int v2)] → W p l e rm_X6_behindBlanks s m args below meth c H locs 0 0 (MQ below (gw_Q (some (.int zr)) (gw_Pst D A (fun w => w = gw_cw cc a b d S)) A) args s 0 0 A) (F0 m 2 ls []) := by
    intro n
    induction n with
    | zero =>
      intro v2 h
      cases h
    | succ n ih =>
      intro v2 h H locs ls hI hl
      unfold f_X6_behindBlanks_b2 at h
      refine lv_iload_n hx hb dX6_behindBlanks_2 rfl (lv_at hl 1 rfl) ?_
      refine lv_aload_n hx hb dX6_behindBlanks_3 rfl (lv_at hl 0 rfl) ?_
      refine gw_get (T := TX6) (k := 1) (v := .int (S 1 1)) B hI gc_g1 rfl ly_X6_behindBlanks_6 (by decide) m_X6_behindBlanks_13 rfl rfl dX6_behindBlanks_4 ?_
      refine lv_icmp_ge (tgt := 26) hx hb dX6_behindBlanks_7 (by decide) (fun c1 => ?_) (fun c1 => ?_)
      · replace h := gw_ifT c1 h
        refine lv_iload_n hx hb dX6_behindBlanks_26 rfl (lv_at hl 1 rfl) ?_
        rw [← Option.some.inj h]
        exact gw_iret (W' := (fun w => w = gw_cw cc a b d S)) B hI rfl (Nat.zero_le _) (Nat.zero_le _) dX6_behindBlanks_27
      · replace h := gw_ifF c1 h
        refine lv_aload_n hx hb dX6_behindBlanks_10 rfl (lv_at hl 0 rfl) ?_
        refine lv_iload_n hx hb dX6_behindBlanks_11 rfl (lv_at hl 1 rfl) ?_
        obtain ⟨r2, e3, h⟩ := gw_bdE h
        refine gw_callV (As := [.int v2]) (n := 1) B hI (k_X6_signAt v2 S e3) gX6_behindBlanks_X6_signAt rfl rfl rfl nd_X6_signAt ⟨Nat.le_of_ble_eq_true rfl, Nat.le_of_ble_eq_true rfl⟩ gc_g1 rfl rfl rfl hl.1 (Nat.zero_le _) dX6_behindBlanks_12 ⟨Nat.le_of_ble_eq_true rfl, Nat.le_of_ble_eq_true rfl⟩ rfl (fun w' H locs hw hI => ?_)
        subst hw
        refine lv_bipush (v := 32) hx hb dX6_behindBlanks_15 (by decide) ?_
        refine lv_icmp_ne (tgt := 26) hx hb dX6_behindBlanks_17 (by decide) (fun c4 => ?_) (fun c4 => ?_)
        · replace h := gw_ifF c4 h
          refine lv_iload_n hx hb dX6_behindBlanks_26 rfl (lv_at hl 1 rfl) ?_
          rw [← Option.some.inj h]
          exact gw_iret (W' := (fun w => w = gw_cw cc a b d S)) B hI rfl (Nat.zero_le _) (Nat.zero_le _) dX6_behindBlanks_27
        · replace h := gw_ifT c4 h
          obtain ⟨y5, e6, h⟩ := gw_letE h
          refine lv_iinc (v := y5) (lv' := [(2, .int y5), (0, .ref (a 1))]) hx hb dX6_behindBlanks_20 hl (k := 1) rfl (by rw [e6]; rfl) (by decide) rfl (fun ls hl => ?_)
          refine lv_goto (tgt := 2) hx hb dX6_behindBlanks_23 (by decide) ?_
          exact ih y5 h _ _ _ hI (lv_sub hl [1, 0] rfl)
  unfold f_X6_behindBlanks at h
  refine lv_iload_n hx hb dX6_behindBlanks_0 rfl (lv_at hl 1 rfl) ?_
  refine lv_istore_n (lv' := [(2, .int x1), (0, .ref (a 1)), (1, .int x1)]) hx hb dX6_behindBlanks_1 rfl hl (by decide) rfl (fun ls hl => ?_)
  exact hb2  gw_F x1 h _ _ _ hI (lv_sub hl [1, 0] rfl)
theorem m_X6_behindDigits_13 : Cond.fieldLink RX6 13 "GownLet$Tape" "length" "I" ∈ wsX6_behindDigits := by decide +kernel
theorem ly_X6_behindDigits_6 : ∀ w ∈ wsX60, w ∈ wsX6_behindDigits := fun w h => List.mem_cons_of_mem _ (List.mem_append_right _ h)
set_option maxRecDepth 100000 in
set_option maxHeartbeats 4000000 in
theorem k_X6_behindDigits (x1 : Int32) (S : gw_S) {zr : Int32} (h : f_X6_behindDigits x1 S = some zr) : gw_M l yX6_behindDigits wsX6_behindDigits rm_X6_behindDigits 0 0 D (gw_ty cc) t1 t2 [.ref (a 1), .int x1] (gw_cw cc a b d S) (fun w => w = gw_cw cc a b d S) (some (.int zr)) := by
  refine gw_enter (cc := cX6_behindDigits) (maxL := 3) (ret := (some .int)) (own := RX6) rfl (by decide) rfl (Nat.le_of_ble_eq_true rfl) ?_
  intro p e s m below meth c A B hin hI ls hl
  have hl : lv_has ls 3 [(0, .ref (a 1)), (1, .int x1)] := hl
  generalize ([.ref (a 1), .int x1] : List Value).toArray = args at B ⊢
  have hx := B.1.1
  have hb := B.1.2.1
  have hown : s.vm.findClass RX6 = some m.cls := B.1.2.2.2.1
  have hts := B.1.2.2.2.2
  have hb2 :  ∀ (n : Nat), ∀ (v2 : Int32), f_X6_behindDigits_b2 S  n v2 = some zr → ∀ (H : Heap) (locs : List Loc) (ls : Array Slot), gw_I D A s.heap (gw_cw cc a b d S) H locs → lv_has ls 3 [(0, .ref (a 1)), (2, .int v2)] → W p l e rm_X6_behindDigits s m args below meth c H locs 0 0 (MQ below (gw_Q (some (.int zr)) (gw_Pst D A (fun w => w = gw_cw cc a b d S)) A) args s 0 0 A) (F0 m 2 ls []) := by
    intro n
    induction n with
    | zero =>
      intro v2 h
      cases h
    | succ n ih =>
      intro v2 h H locs ls hI hl
      unfold f_X6_behindDigits_b2 at h
      refine lv_iload_n hx hb dX6_behindDigits_2 rfl (lv_at hl 1 rfl) ?_
      refine lv_aload_n hx hb dX6_behindDigits_3 rfl (lv_at hl 0 rfl) ?_
      refine gw_get (T := TX6) (k := 1) (v := .int (S 1 1)) B hI gc_g1 rfl ly_X6_behindDigits_6 (by decide) m_X6_behindDigits_13 rfl rfl dX6_behindDigits_4 ?_
      refine lv_icmp_ge (tgt := 24) hx hb dX6_behindDigits_7 (by decide) (fun c1 => ?_) (fun c1 => ?_)
      · replace h := gw_ifT c1 h
        refine lv_iload_n hx hb dX6_behindDigits_24 rfl (lv_at hl 1 rfl) ?_
        rw [← Option.some.inj h]
        exact gw_iret (W' := (fun w => w = gw_cw cc a b d S)) B hI rfl (Nat.zero_le _) (Nat.zero_le _) dX6_behindDigits_25
      · replace h := gw_ifF c1 h
        refine lv_aload_n hx hb dX6_behindDigits_10 rfl (lv_at hl 0 rfl) ?_
        refine lv_iload_n hx hb dX6_behindDigits_11 rfl (lv_at hl 1 rfl) ?_
        obtain ⟨r2, e3, h⟩ := gw_bdE h
        refine gw_callV (As := [.int v2]) (n := 1) B hI (k_X6_isDigitAt v2 S e3) gX6_behindDigits_X6_isDigitAt rfl rfl rfl nd_X6_isDigitAt ⟨Nat.le_of_ble_eq_true rfl, Nat.le_of_ble_eq_true rfl⟩ gc_g1 rfl rfl rfl hl.1 (Nat.zero_le _) dX6_behindDigits_12 ⟨Nat.le_of_ble_eq_true rfl, Nat.le_of_ble_eq_true rfl⟩ rfl (fun w' H locs hw hI => ?_)
        subst hw
        refine lv_if_eq (tgt := 24) hx hb dX6_behindDigits_15 (by decide) (fun c4 => ?_) (fun c4 => ?_)
        · replace h := gw_ifT c4 h
          refine lv_iload_n hx hb dX6_behindDigits_24 rfl (lv_at hl 1 rfl) ?_
          rw [← Option.some.inj h]
          exact gw_iret (W' := (fun w => w = gw_cw cc a b d S)) B hI rfl (Nat.zero_le _) (Nat.zero_le _) dX6_behindDigits_25
        · replace h := gw_ifF c4 h
          obtain ⟨y5, e6, h⟩ := gw_letE h
          refine lv_iinc (v := y5) (lv' := [(2, .int y5), (0, .ref (a 1))]) hx hb dX6_behindDigits_18 hl (k := 1) rfl (by rw [e6]; rfl) (by decide) rfl (fun ls hl => ?_)
          refine lv_goto (tgt := 2) hx hb dX6_behindDigits_21 (by decide) ?_
          exact ih y5 h _ _ _ hI (lv_sub hl [1, 0] rfl)
  unfold f_X6_behindDigits at h
  refine lv_iload_n hx hb dX6_behindDigits_0 rfl (lv_at hl 1 rfl) ?_
  refine lv_istore_n (lv' := [(2, .int x1), (0, .ref (a 1)), (1, .int x1)]) hx hb dX6_behindDigits_1 rfl hl (by decide) rfl (fun ls hl => ?_)
  exact hb2  gw_F x1 h _ _ _ hI (lv_sub hl [1, 0] rfl)
set_option maxRecDepth 100000 in
set_option maxHeartbeats 4000000 in
theorem k_X6_numberIn (x1 : Int32) (x2 : Int32) (x3 : Int32) (S : gw_S) {zr : Int32} (h : f_X6_numberIn x1 x2 x3 S = some zr) : gw_M l yX6_numberIn wsX6_numberIn rm_X6_numberIn 0 0 D (gw_ty cc) t1 t2 [.ref (a 1), .int x1, .int x2, .int x3] (gw_cw cc a b d S) (fun w => w = gw_cw cc a b d S) (some (.int zr)) := by
  refine gw_enter (cc := cX6_numberIn) (maxL := 6) (ret := (some .int)) (own := RX6) rfl (by decide) rfl (Nat.le_of_ble_eq_true rfl) ?_
  intro p e s m below meth c A B hin hI ls hl
  have hl : lv_has ls 6 [(0, .ref (a 1)), (1, .int x1), (2, .int x2), (3, .int x3)] := hl
  generalize ([.ref (a 1), .int x1, .int x2, .int x3] : List Value).toArray = args at B ⊢
  have hx := B.1.1
  have hb := B.1.2.1
  have hown : s.vm.findClass RX6 = some m.cls := B.1.2.2.2.1
  have hts := B.1.2.2.2.2
  have hb6 :  ∀ (n : Nat), ∀ (v2 : Int32) (v3 : Int32) (v4 : Int32) (v5 : Int32), f_X6_numberIn_b6 S  n v2 v3 v4 v5 = some zr → ∀ (H : Heap) (locs : List Loc) (ls : Array Slot), gw_I D A s.heap (gw_cw cc a b d S) H locs → lv_has ls 6 [(0, .ref (a 1)), (2, .int v2), (3, .int v3), (4, .int v4), (5, .int v5)] → W p l e rm_X6_numberIn s m args below meth c H locs 0 0 (MQ below (gw_Q (some (.int zr)) (gw_Pst D A (fun w => w = gw_cw cc a b d S)) A) args s 0 0 A) (F0 m 6 ls []) := by
    intro n
    induction n with
    | zero =>
      intro v2 v3 v4 v5 h
      cases h
    | succ n ih =>
      intro v2 v3 v4 v5 h H locs ls hI hl
      unfold f_X6_numberIn_b6 at h
      refine lv_iload hx hb dX6_numberIn_6 (lv_at hl 4 rfl) ?_
      refine lv_iload_n hx hb dX6_numberIn_8 rfl (lv_at hl 1 rfl) ?_
      refine lv_icmp_ge (tgt := 41) hx hb dX6_numberIn_9 (by decide) (fun c1 => ?_) (fun c1 => ?_)
      · replace h := gw_ifT c1 h
        refine lv_iload hx hb dX6_numberIn_41 (lv_at hl 3 rfl) ?_
        rw [← Option.some.inj h]
        exact gw_iret (W' := (fun w => w = gw_cw cc a b d S)) B hI rfl (Nat.zero_le _) (Nat.zero_le _) dX6_numberIn_43
      · replace h := gw_ifF c1 h
        refine lv_iload_n hx hb dX6_numberIn_12 rfl (lv_at hl 2 rfl) ?_
        refine lv_iconst (v := 1) hx hb dX6_numberIn_13 (by decide) ?_
        refine lv_iadd hx hb dX6_numberIn_14 ?_
        refine lv_iload hx hb dX6_numberIn_15 (lv_at hl 3 rfl) ?_
        refine lv_bipush (v := 10) hx hb dX6_numberIn_17 (by decide) ?_
        refine lv_imul hx hb dX6_numberIn_19 ?_
        refine lv_aload_n hx hb dX6_numberIn_20 rfl (lv_at hl 0 rfl) ?_
        refine lv_iload hx hb dX6_numberIn_21 (lv_at hl 4 rfl) ?_
        obtain ⟨r2, e3, h⟩ := gw_bdE h
        refine gw_callV (As := [.int v5]) (n := 1) B hI (k_X6_signAt v5 S e3) gX6_numberIn_X6_signAt rfl rfl rfl nd_X6_signAt ⟨Nat.le_of_ble_eq_true rfl, Nat.le_of_ble_eq_true rfl⟩ gc_g1 rfl rfl rfl hl.1 (by simp [gw_catq, gw_cI, gw_cR, gw_cL]) dX6_numberIn_23 ⟨Nat.le_of_ble_eq_true rfl, Nat.le_of_ble_eq_true rfl⟩ rfl (fun w' H locs hw hI => ?_)
        subst hw
        refine lv_iadd hx hb dX6_numberIn_26 ?_
        refine lv_bipush (v := 48) hx hb dX6_numberIn_27 (by decide) ?_
        refine lv_isub hx hb dX6_numberIn_29 ?_
        refine gw_mmin B hl.1 (hown := hown) (by decide +kernel) (by decide +kernel) (by decide +kernel) (by decide +kernel) (by decide) (by simp [gw_catq, gw_cI, gw_cR, gw_cL]) (Nat.zero_le _) (Nat.zero_le _) dX6_numberIn_30 ?_
        obtain ⟨y4, e5, h⟩ := gw_letE h
        rw [← e5]
        refine lv_istore (lv' := [(4, .int y4), (0, .ref (a 1)), (2, .int v2), (3, .int v3), (5, .int v5)]) hx hb dX6_numberIn_33 hl (by decide) rfl (fun ls hl => ?_)
        obtain ⟨y6, e7, h⟩ := gw_letE h
        refine lv_iinc (v := y6) (lv' := [(5, .int y6), (4, .int y4), (0, .ref (a 1)), (2, .int v2), (3, .int v3)]) hx hb dX6_numberIn_35 hl (k := 4) rfl (by rw [e7]; rfl) (by decide) rfl (fun ls hl => ?_)
        refine lv_goto (tgt := 6) hx hb dX6_numberIn_38 (by decide) ?_
        exact ih v2 v3 y4 y6 h _ _ _ hI (lv_sub hl [2, 3, 4, 1, 0] rfl)
  unfold f_X6_numberIn at h
  refine lv_iconst (v := 0) hx hb dX6_numberIn_0 (by decide) ?_
  refine lv_istore (lv' := [(4, .int (0 : Int32)), (0, .ref (a 1)), (1, .int x1), (2, .int x2), (3, .int x3)]) hx hb dX6_numberIn_1 hl (by decide) rfl (fun ls hl => ?_)
  refine lv_iload_n hx hb dX6_numberIn_3 rfl (lv_at hl 2 rfl) ?_
  refine lv_istore (lv' := [(5, .int x1), (4, .int (0 : Int32)), (0, .ref (a 1)), (1, .int x1), (2, .int x2), (3, .int x3)]) hx hb dX6_numberIn_4 hl (by decide) rfl (fun ls hl => ?_)
  exact hb6  gw_F x2 x3 (0 : Int32) x1 h _ _ _ hI (lv_sub hl [2, 4, 5, 1, 0] rfl)
theorem m_X7_placeOf_16 : Cond.fieldLink RX7 16 "GownLet$Terms" "LETTER" "[C" ∈ wsX7_placeOf := by decide +kernel
set_option maxRecDepth 100000 in
set_option maxHeartbeats 4000000 in
theorem k_X7_placeOf (x0 : Int32) (S : gw_S) {zr : Int32} (h : f_X7_placeOf x0 S = some zr) : gw_M l yX7_placeOf wsX7_placeOf rm_X7_placeOf 0 0 D (gw_ty cc) t1 t2 [.int x0] (gw_cw cc a b d S) (fun w => w = gw_cw cc a b d S) (some (.int zr)) := by
  refine gw_enter (cc := cX7_placeOf) (maxL := 2) (ret := (some .int)) (own := RX7) rfl (by decide) rfl (Nat.le_of_ble_eq_true rfl) ?_
  intro p e s m below meth c A B hin hI ls hl
  have hl : lv_has ls 2 [(0, .int x0)] := hl
  generalize ([.int x0] : List Value).toArray = args at B ⊢
  have hx := B.1.1
  have hb := B.1.2.1
  have hown : s.vm.findClass RX7 = some m.cls := B.1.2.2.2.1
  have hts := B.1.2.2.2.2
  have hb2 :  ∀ (n : Nat), ∀ (v0 : Int32) (v1 : Int32), f_X7_placeOf_b2 S  n v0 v1 = some zr → ∀ (H : Heap) (locs : List Loc) (ls : Array Slot), gw_I D A s.heap (gw_cw cc a b d S) H locs → lv_has ls 2 [(0, .int v0), (1, .int v1)] → W p l e rm_X7_placeOf s m args below meth c H locs 0 0 (MQ below (gw_Q (some (.int zr)) (gw_Pst D A (fun w => w = gw_cw cc a b d S)) A) args s 0 0 A) (F0 m 2 ls []) := by
    intro n
    induction n with
    | zero =>
      intro v0 v1 h
      cases h
    | succ n ih =>
      intro v0 v1 h H locs ls hI hl
      unfold f_X7_placeOf_b2 at h
      refine lv_iload_n hx hb dX7_placeOf_2 rfl (lv_at hl 1 rfl) ?_
      refine lv_bipush (v := 8) hx hb dX7_placeOf_3 (by decide) ?_
      refine lv_icmp_ge (tgt := 25) hx hb dX7_placeOf_5 (by decide) (fun c1 => ?_) (fun c1 => ?_)
      · replace h := gw_ifT c1 h
        refine lv_iconst (v := -1) hx hb dX7_placeOf_25 (by decide) ?_
        rw [← Option.some.inj h]
        exact gw_iret (W' := (fun w => w = gw_cw cc a b d S)) B hI rfl (Nat.zero_le _) (Nat.zero_le _) dX7_placeOf_26
      · replace h := gw_ifF c1 h
        refine gw_gets1 B hI m_X7_placeOf_16 dX7_placeOf_8 ?_
        refine lv_iload_n hx hb dX7_placeOf_11 rfl (lv_at hl 1 rfl) ?_
        obtain ⟨g2, h⟩ := gw_gdE h
        refine gw_t1 B hI g2 dX7_placeOf_12 ?_
        refine lv_iload_n hx hb dX7_placeOf_13 rfl (lv_at hl 0 rfl) ?_
        refine lv_icmp_ne (tgt := 19) hx hb dX7_placeOf_14 (by decide) (fun c3 => ?_) (fun c3 => ?_)
        · replace h := gw_ifF c3 h
          obtain ⟨y4, e5, h⟩ := gw_letE h
          refine lv_iinc (v := y4) (lv' := [(1, .int y4), (0, .int v0)]) hx hb dX7_placeOf_19 hl (k := 1) rfl (by rw [e5]; rfl) (by decide) rfl (fun ls hl => ?_)
          refine lv_goto (tgt := 2) hx hb dX7_placeOf_22 (by decide) ?_
          exact ih v0 y4 h _ _ _ hI (lv_sub hl [1, 0] rfl)
        · replace h := gw_ifT c3 h
          refine lv_iload_n hx hb dX7_placeOf_17 rfl (lv_at hl 1 rfl) ?_
          rw [← Option.some.inj h]
          exact gw_iret (W' := (fun w => w = gw_cw cc a b d S)) B hI rfl (Nat.zero_le _) (Nat.zero_le _) dX7_placeOf_18
  unfold f_X7_placeOf at h
  refine lv_iconst (v := 0) hx hb dX7_placeOf_0 (by decide) ?_
  refine lv_istore_n (lv' := [(1, .int (0 : Int32)), (0, .int x0)]) hx hb dX7_placeOf_1 rfl hl (by decide) rfl (fun ls hl => ?_)
  exact hb2  gw_F x0 (0 : Int32) h _ _ _ hI (lv_sub hl [1, 0] rfl)
set_option maxRecDepth 100000 in
set_option maxHeartbeats 4000000 in
theorem k_X7_copy_5_6  (S : gw_S)  {zS : gw_S} (h : f_X7_copy_5_6  S = some zS) : gw_M l yX7_copy wsX7_copy rm_X7_copy_5_6 0 0 D (gw_ty cc) t1 t2 [.ref (a 5), .ref (a 6)] (gw_cw cc a b d S) (fun w => w = gw_cw cc a b d zS) none := by
  refine gw_enter (cc := cX7_copy) (maxL := 3) (ret := none) (own := RX7) rfl (by decide) rfl (Nat.le_of_ble_eq_true rfl) ?_
  intro p e s m below meth c A B hin hI ls hl
  have hl : lv_has ls 3 [(0, .ref (a 5)), (1, .ref (a 6))] := hl
  generalize ([.ref (a 5), .ref (a 6)] : List Value).toArray = args at B ⊢
  have hx := B.1.1
  have hb := B.1.2.1
  have hown : s.vm.findClass RX7 = some m.cls := B.1.2.2.2.1
  have hts := B.1.2.2.2.2
  have hb2 :  ∀ (n : Nat), ∀ (v2 : Int32) (S : gw_S), f_X7_copy_5_6_b2  n v2 S = some zS → ∀ (H : Heap) (locs : List Loc) (ls : Array Slot), gw_I D A s.heap (gw_cw cc a b d S) H locs → lv_has ls 3 [(0, .ref (a 5)), (1, .ref (a 6)), (2, .int v2)] → W p l e rm_X7_copy_5_6 s m args below meth c H locs 0 0 (MQ below (gw_Q none (gw_Pst D A (fun w => w = gw_cw cc a b d zS)) A) args s 0 0 A) (F0 m 2 ls []) := by
    intro n
    induction n with
    | zero =>
      intro v2 S h
      cases h
    | succ n ih =>
      intro v2 S h H locs ls hI hl
      unfold f_X7_copy_5_6_b2 at h
      refine lv_iload_n hx hb dX7_copy_2 rfl (lv_at hl 2 rfl) ?_
      refine lv_bipush (v := 8) hx hb dX7_copy_3 (by decide) ?_
      refine lv_icmp_ge (tgt := 20) hx hb dX7_copy_5 (by decide) (fun c1 => ?_) (fun c1 => ?_)
      · replace h := gw_ifT c1 h
        rw [Option.some.inj h] at hI
        exact gw_vret (W' := (fun w => w = gw_cw cc a b d zS)) B hI rfl (Nat.zero_le _) (Nat.zero_le _) dX7_copy_20
      · replace h := gw_ifF c1 h
        refine lv_aload_n hx hb dX7_copy_8 rfl (lv_at hl 1 rfl) ?_
        refine lv_iload_n hx hb dX7_copy_9 rfl (lv_at hl 2 rfl) ?_
        refine lv_aload_n hx hb dX7_copy_10 rfl (lv_at hl 0 rfl) ?_
        refine lv_iload_n hx hb dX7_copy_11 rfl (lv_at hl 2 rfl) ?_
        obtain ⟨g2, h⟩ := gw_gdE h
        refine gw_iald (t0 := 0) B hI gc_g5 rfl g2 dX7_copy_12 ?_
        obtain ⟨S3, e4, h⟩ := gw_letE h
        refine gw_iast (t0 := 0) (w' := gw_cw cc a b d S3) B hI gc_g6 rfl g2 (gc_s6 e4) dX7_copy_13 (fun H locs hI => ?_)
        obtain ⟨y5, e6, h⟩ := gw_letE h
        refine lv_iinc (v := y5) (lv' := [(2, .int y5), (0, .ref (a 5)), (1, .ref (a 6))]) hx hb dX7_copy_14 hl (k := 2) rfl (by rw [e6]; rfl) (by decide) rfl (fun ls hl => ?_)
        refine lv_goto (tgt := 2) hx hb dX7_copy_17 (by decide) ?_
        exact ih y5 S3 h _ _ _ hI (lv_sub hl [1, 2, 0] rfl)
  unfold f_X7_copy_5_6 at h
  refine lv_iconst (v := 0) hx hb dX7_copy_0 (by decide) ?_
  refine lv_istore_n (lv' := [(2, .int (0 : Int32)), (0, .ref (a 5)), (1, .ref (a 6))]) hx hb dX7_copy_1 rfl hl (by decide) rfl (fun ls hl => ?_)
  exact hb2  gw_F (0 : Int32) S h _ _ _ hI (lv_sub hl [1, 2, 0] rfl)
theorem m_X7_readClause_13 : Cond.fieldLink RX7 13 "GownLet$Terms" "coming" "[I" ∈ wsX7_readClause := by decide +kernel
theorem m_X7_readClause_47 : Cond.fieldLink RX7 47 "GownLet$Terms" "MOST" "[I" ∈ wsX7_readClause := by decide +kernel
theorem ly_X7_readClause_7 : ∀ w ∈ wsX70, w ∈ wsX7_readClause := fun w h => List.mem_cons_of_mem _ (List.mem_append_left _ (List.mem_append_right _ h))
set_option maxRecDepth 100000 in
set_option maxHeartbeats 4000000 in
theorem k_X7_readClause (x2 : Int32) (S : gw_S) {zr : Int32} {zS : gw_S} (h : f_X7_readClause x2 S = some (zr, zS)) : gw_M l yX7_readClause wsX7_readClause rm_X7_readClause 0 0 D (gw_ty cc) t1 t2 [.ref (a 4), .ref (a 1), .int x2] (gw_cw cc a b d S) (fun w => w = gw_cw cc a b d zS) (some (.int zr)) := by
  refine gw_enter (cc := cX7_readClause) (maxL := 8) (ret := (some .int)) (own := RX7) rfl (by decide) rfl (Nat.le_of_ble_eq_true rfl) ?_
  intro p e s m below meth c A B hin hI ls hl
  have hl : lv_has ls 8 [(0, .ref (a 4)), (1, .ref (a 1)), (2, .int x2)] := hl
  generalize ([.ref (a 4), .ref (a 1), .int x2] : List Value).toArray = args at B ⊢
  have hx := B.1.1
  have hb := B.1.2.1
  have hown : s.vm.findClass RX7 = some m.cls := B.1.2.2.2.1
  have hts := B.1.2.2.2.2
  unfold f_X7_readClause at h
  refine lv_aload_n hx hb dX7_readClause_0 rfl (lv_at hl 1 rfl) ?_
  refine lv_iload_n hx hb dX7_readClause_1 rfl (lv_at hl 2 rfl) ?_
  obtain ⟨r1, e2, h⟩ := gw_bdE h
  refine gw_callV (As := [.int x2]) (n := 1) B hI (k_X6_behindBlanks x2 S e2) gX7_readClause_X6_behindBlanks rfl rfl rfl nd_X6_behindBlanks ⟨Nat.le_of_ble_eq_true rfl, Nat.le_of_ble_eq_true rfl⟩ gc_g1 rfl rfl rfl hl.1 (Nat.zero_le _) dX7_readClause_2 ⟨Nat.le_of_ble_eq_true rfl, Nat.le_of_ble_eq_true rfl⟩ rfl (fun w' H locs hw hI => ?_)
  subst hw
  refine lv_istore_n (lv' := [(3, .int r1), (0, .ref (a 4)), (1, .ref (a 1)), (2, .int x2)]) hx hb dX7_readClause_5 rfl hl (by decide) rfl (fun ls hl => ?_)
  refine lv_aload_n hx hb dX7_readClause_6 rfl (lv_at hl 2 rfl) ?_
  refine lv_iload_n hx hb dX7_readClause_7 rfl (lv_at hl 0 rfl) ?_
  obtain ⟨r3, e4, h⟩ := gw_bdE h
  refine gw_callV (As := [.int r1]) (n := 1) B hI (k_X6_signAt r1 S e4) gX7_readClause_X6_signAt rfl rfl rfl nd_X6_signAt ⟨Nat.le_of_ble_eq_true rfl, Nat.le_of_ble_eq_true rfl⟩ gc_g1 rfl rfl rfl hl.1 (Nat.zero_le _) dX7_readClause_8 ⟨Nat.le_of_ble_eq_true rfl, Nat.le_of_ble_eq_true rfl⟩ rfl (fun w' H locs hw hI => ?_)
  subst hw
  obtain ⟨r5, e6, h⟩ := gw_bdE h
  refine gw_callS (As := [.int r3]) (n := 1) B hI (k_X7_placeOf r3 S e6) gX7_readClause_X7_placeOf rfl rfl rfl nds_X7_placeOf ⟨Nat.le_of_ble_eq_true rfl, Nat.le_of_ble_eq_true rfl⟩ rfl hl.1 (Nat.zero_le _) dX7_readClause_11 ⟨Nat.le_of_ble_eq_true rfl, Nat.le_of_ble_eq_true rfl⟩ rfl (fun w' H locs hw hI => ?_)
  subst hw
  refine lv_istore (lv' := [(4, .int r5), (3, .int r1), (0, .ref (a 4)), (1, .ref (a 1)), (2, .int x2)]) hx hb dX7_readClause_14 hl (by decide) rfl (fun ls hl => ?_)
  refine lv_iload hx hb dX7_readClause_16 (lv_at hl 0 rfl) ?_
  refine lv_if_ge (tgt := 26) hx hb dX7_readClause_18 (by decide) (fun c7 => ?_) (fun c7 => ?_)
  · replace h := gw_ifT c7 h
    refine lv_aload_n hx hb dX7_readClause_26 rfl (lv_at hl 3 rfl) ?_
    refine lv_iload_n hx hb dX7_readClause_27 rfl (lv_at hl 1 rfl) ?_
    refine lv_iconst (v := 1) hx hb dX7_readClause_28 (by decide) ?_
    refine lv_iadd hx hb dX7_readClause_29 ?_
    obtain ⟨r8, e9, h⟩ := gw_bdE h
    refine gw_callV (As := [.int (r1 + (1 : Int32))]) (n := 1) B hI (k_X6_behindBlanks (r1 + (1 : Int32)) S e9) gX7_readClause_X6_behindBlanks rfl rfl rfl nd_X6_behindBlanks ⟨Nat.le_of_ble_eq_true rfl, Nat.le_of_ble_eq_true rfl⟩ gc_g1 rfl rfl rfl hl.1 (Nat.zero_le _) dX7_readClause_30 ⟨Nat.le_of_ble_eq_true rfl, Nat.le_of_ble_eq_true rfl⟩ rfl (fun w' H locs hw hI => ?_)
    subst hw
    refine lv_istore (lv' := [(5, .int r8), (4, .int r5), (3, .int r1), (0, .ref (a 4)), (1, .ref (a 1)), (2, .int x2)]) hx hb dX7_readClause_33 hl (by decide) rfl (fun ls hl => ?_)
    refine lv_aload_n hx hb dX7_readClause_35 rfl (lv_at hl 4 rfl) ?_
    refine lv_iload hx hb dX7_readClause_36 (lv_at hl 0 rfl) ?_
    obtain ⟨r10, e11, h⟩ := gw_bdE h
    refine gw_callV (As := [.int r8]) (n := 1) B hI (k_X6_behindDigits r8 S e11) gX7_readClause_X6_behindDigits rfl rfl rfl nd_X6_behindDigits ⟨Nat.le_of_ble_eq_true rfl, Nat.le_of_ble_eq_true rfl⟩ gc_g1 rfl rfl rfl hl.1 (Nat.zero_le _) dX7_readClause_38 ⟨Nat.le_of_ble_eq_true rfl, Nat.le_of_ble_eq_true rfl⟩ rfl (fun w' H locs hw hI => ?_)
    subst hw
    refine lv_istore (lv' := [(6, .int r10), (5, .int r8), (4, .int r5), (3, .int r1), (0, .ref (a 4)), (1, .ref (a 1)), (2, .int x2)]) hx hb dX7_readClause_41 hl (by decide) rfl (fun ls hl => ?_)
    refine lv_iload hx hb dX7_readClause_43 (lv_at hl 0 rfl) ?_
    refine lv_iload hx hb dX7_readClause_45 (lv_at hl 1 rfl) ?_
    refine lv_icmp_ne (tgt := 56) hx hb dX7_readClause_47 (by decide) (fun c12 => ?_) (fun c12 => ?_)
    · replace h := gw_ifF c12 h
      refine lv_aload_n hx hb dX7_readClause_56 rfl (lv_at hl 5 rfl) ?_
      refine lv_iload hx hb dX7_readClause_57 (lv_at hl 1 rfl) ?_
      refine lv_iload hx hb dX7_readClause_59 (lv_at hl 0 rfl) ?_
      refine gw_gets2 B hI m_X7_readClause_47 dX7_readClause_61 ?_
      refine lv_iload hx hb dX7_readClause_64 (lv_at hl 2 rfl) ?_
      obtain ⟨g13, h⟩ := gw_gdE h
      refine gw_t2 B hI g13 dX7_readClause_66 ?_
      obtain ⟨r14, e15, h⟩ := gw_bdE h
      refine gw_callV (As := [.int r8, .int r10, .int (gw_MST r5.toNatClampNeg)]) (n := 3) B hI (k_X6_numberIn r8 r10 (gw_MST r5.toNatClampNeg) S e15) gX7_readClause_X6_numberIn rfl rfl rfl nd_X6_numberIn ⟨Nat.le_of_ble_eq_true rfl, Nat.le_of_ble_eq_true rfl⟩ gc_g1 rfl rfl rfl hl.1 (Nat.zero_le _) dX7_readClause_67 ⟨Nat.le_of_ble_eq_true rfl, Nat.le_of_ble_eq_true rfl⟩ rfl (fun w' H locs hw hI => ?_)
      subst hw
      refine lv_istore (lv' := [(7, .int r14), (6, .int r10), (5, .int r8), (4, .int r5), (3, .int r1), (0, .ref (a 4)), (1, .ref (a 1)), (2, .int x2)]) hx hb dX7_readClause_70 hl (by decide) rfl (fun ls hl => ?_)
      refine lv_iload hx hb dX7_readClause_72 (lv_at hl 0 rfl) ?_
      refine gw_gets2 B hI m_X7_readClause_47 dX7_readClause_74 ?_
      refine lv_iload hx hb dX7_readClause_77 (lv_at hl 3 rfl) ?_
      refine gw_t2 B hI g13 dX7_readClause_79 ?_
      refine lv_icmp_le (tgt := 89) hx hb dX7_readClause_80 (by decide) (fun c16 => ?_) (fun c16 => ?_)
      · replace h := gw_ifT c16 h
        refine lv_aload_n hx hb dX7_readClause_89 rfl (lv_at hl 5 rfl) ?_
        refine gw_get (T := TX7) (k := 1) (v := .ref (a 6)) B hI gc_g4 rfl ly_X7_readClause_7 (by decide) m_X7_readClause_13 rfl rfl dX7_readClause_90 ?_
        refine lv_iload hx hb dX7_readClause_93 (lv_at hl 3 rfl) ?_
        refine lv_iload hx hb dX7_readClause_95 (lv_at hl 0 rfl) ?_
        obtain ⟨S17, e18, h⟩ := gw_letE h
        refine gw_iast (t0 := 0) (w' := gw_cw cc a b d S17) B hI gc_g6 rfl g13 (gc_s6 e18) dX7_readClause_97 (fun H locs hI => ?_)
        refine lv_aload_n hx hb dX7_readClause_98 rfl (lv_at hl 6 rfl) ?_
        refine lv_iload hx hb dX7_readClause_99 (lv_at hl 1 rfl) ?_
        obtain ⟨r19, e20, h⟩ := gw_bdE h
        refine gw_callV (As := [.int r10]) (n := 1) B hI (k_X6_behindBlanks r10 S17 e20) gX7_readClause_X6_behindBlanks rfl rfl rfl nd_X6_behindBlanks ⟨Nat.le_of_ble_eq_true rfl, Nat.le_of_ble_eq_true rfl⟩ gc_g1 rfl rfl rfl hl.1 (Nat.zero_le _) dX7_readClause_101 ⟨Nat.le_of_ble_eq_true rfl, Nat.le_of_ble_eq_true rfl⟩ rfl (fun w' H locs hw hI => ?_)
        subst hw
        obtain ⟨h1, h2⟩ := Prod.mk.inj (Option.some.inj h)
        rw [h2] at hI
        rw [← h1]
        exact gw_iret (W' := (fun w => w = gw_cw cc a b d zS)) B hI rfl (Nat.zero_le _) (Nat.zero_le _) dX7_readClause_104
      · replace h := gw_ifF c16 h
        refine lv_bipush (v := -20) hx hb dX7_readClause_83 (by decide) ?_
        refine lv_iload hx hb dX7_readClause_85 (lv_at hl 2 rfl) ?_
        refine lv_isub hx hb dX7_readClause_87 ?_
        obtain ⟨h1, h2⟩ := Prod.mk.inj (Option.some.inj h)
        rw [h2] at hI
        rw [← h1]
        exact gw_iret (W' := (fun w => w = gw_cw cc a b d zS)) B hI rfl (Nat.zero_le _) (Nat.zero_le _) dX7_readClause_88
    · replace h := gw_ifT c12 h
      refine lv_bipush (v := -20) hx hb dX7_readClause_50 (by decide) ?_
      refine lv_iload hx hb dX7_readClause_52 (lv_at hl 1 rfl) ?_
      refine lv_isub hx hb dX7_readClause_54 ?_
      obtain ⟨h1, h2⟩ := Prod.mk.inj (Option.some.inj h)
      rw [h2] at hI
      rw [← h1]
      exact gw_iret (W' := (fun w => w = gw_cw cc a b d zS)) B hI rfl (Nat.zero_le _) (Nat.zero_le _) dX7_readClause_55
  · replace h := gw_ifF c7 h
    refine lv_bipush (v := -20) hx hb dX7_readClause_21 (by decide) ?_
    refine lv_iload_n hx hb dX7_readClause_23 rfl (lv_at hl 1 rfl) ?_
    refine lv_isub hx hb dX7_readClause_24 ?_
    obtain ⟨h1, h2⟩ := Prod.mk.inj (Option.some.inj h)
    rw [h2] at hI
    rw [← h1]
    exact gw_iret (W' := (fun w => w = gw_cw cc a b d zS)) B hI rfl (Nat.zero_le _) (Nat.zero_le _) dX7_readClause_25
set_option maxRecDepth 100000 in
set_option maxHeartbeats 4000000 in
theorem k_X7_copy_6_5  (S : gw_S)  {zS : gw_S} (h : f_X7_copy_6_5  S = some zS) : gw_M l yX7_copy wsX7_copy rm_X7_copy_6_5 0 0 D (gw_ty cc) t1 t2 [.ref (a 6), .ref (a 5)] (gw_cw cc a b d S) (fun w => w = gw_cw cc a b d zS) none := by
  refine gw_enter (cc := cX7_copy) (maxL := 3) (ret := none) (own := RX7) rfl (by decide) rfl (Nat.le_of_ble_eq_true rfl) ?_
  intro p e s m below meth c A B hin hI ls hl
  have hl : lv_has ls 3 [(0, .ref (a 6)), (1, .ref (a 5))] := hl
  generalize ([.ref (a 6), .ref (a 5)] : List Value).toArray = args at B ⊢
  have hx := B.1.1
  have hb := B.1.2.1
  have hown : s.vm.findClass RX7 = some m.cls := B.1.2.2.2.1
  have hts := B.1.2.2.2.2
  have hb2 :  ∀ (n : Nat), ∀ (v2 : Int32) (S : gw_S), f_X7_copy_6_5_b2  n v2 S = some zS → ∀ (H : Heap) (locs : List Loc) (ls : Array Slot), gw_I D A s.heap (gw_cw cc a b d S) H locs → lv_has ls 3 [(0, .ref (a 6)), (1, .ref (a 5)), (2, .int v2)] → W p l e rm_X7_copy_6_5 s m args below meth c H locs 0 0 (MQ below (gw_Q none (gw_Pst D A (fun w => w = gw_cw cc a b d zS)) A) args s 0 0 A) (F0 m 2 ls []) := by
    intro n
    induction n with
    | zero =>
      intro v2 S h
      cases h
    | succ n ih =>
      intro v2 S h H locs ls hI hl
      unfold f_X7_copy_6_5_b2 at h
      refine lv_iload_n hx hb dX7_copy_2 rfl (lv_at hl 2 rfl) ?_
      refine lv_bipush (v := 8) hx hb dX7_copy_3 (by decide) ?_
      refine lv_icmp_ge (tgt := 20) hx hb dX7_copy_5 (by decide) (fun c1 => ?_) (fun c1 => ?_)
      · replace h := gw_ifT c1 h
        rw [Option.some.inj h] at hI
        exact gw_vret (W' := (fun w => w = gw_cw cc a b d zS)) B hI rfl (Nat.zero_le _) (Nat.zero_le _) dX7_copy_20
      · replace h := gw_ifF c1 h
        refine lv_aload_n hx hb dX7_copy_8 rfl (lv_at hl 1 rfl) ?_
        refine lv_iload_n hx hb dX7_copy_9 rfl (lv_at hl 2 rfl) ?_
        refine lv_aload_n hx hb dX7_copy_10 rfl (lv_at hl 0 rfl) ?_
        refine lv_iload_n hx hb dX7_copy_11 rfl (lv_at hl 2 rfl) ?_
        obtain ⟨g2, h⟩ := gw_gdE h
        refine gw_iald (t0 := 0) B hI gc_g6 rfl g2 dX7_copy_12 ?_
        obtain ⟨S3, e4, h⟩ := gw_letE h
        refine gw_iast (t0 := 0) (w' := gw_cw cc a b d S3) B hI gc_g5 rfl g2 (gc_s5 e4) dX7_copy_13 (fun H locs hI => ?_)
        obtain ⟨y5, e6, h⟩ := gw_letE h
        refine lv_iinc (v := y5) (lv' := [(2, .int y5), (0, .ref (a 6)), (1, .ref (a 5))]) hx hb dX7_copy_14 hl (k := 2) rfl (by rw [e6]; rfl) (by decide) rfl (fun ls hl => ?_)
        refine lv_goto (tgt := 2) hx hb dX7_copy_17 (by decide) ?_
        exact ih y5 S3 h _ _ _ hI (lv_sub hl [1, 2, 0] rfl)
  unfold f_X7_copy_6_5 at h
  refine lv_iconst (v := 0) hx hb dX7_copy_0 (by decide) ?_
  refine lv_istore_n (lv' := [(2, .int (0 : Int32)), (0, .ref (a 6)), (1, .ref (a 5))]) hx hb dX7_copy_1 rfl hl (by decide) rfl (fun ls hl => ?_)
  exact hb2  gw_F (0 : Int32) S h _ _ _ hI (lv_sub hl [1, 2, 0] rfl)
theorem m_X7_read_13 : Cond.fieldLink RX7 13 "GownLet$Terms" "coming" "[I" ∈ wsX7_read := by decide +kernel
theorem m_X7_read_7 : Cond.fieldLink RX7 7 "GownLet$Terms" "now" "[I" ∈ wsX7_read := by decide +kernel
theorem ly_X7_read_6 : ∀ w ∈ wsX60, w ∈ wsX7_read := fun w h => List.mem_cons_of_mem _ (List.mem_append_right _ h)
theorem ly_X7_read_7 : ∀ w ∈ wsX70, w ∈ wsX7_read := fun w h => List.mem_cons_of_mem _ (List.mem_append_left _ (List.mem_append_right _ h))
set_option maxRecDepth 100000 in
set_option maxHeartbeats 4000000 in
theorem k_X7_read  (S : gw_S) {zr : Int32} {zS : gw_S} (h : f_X7_read  S = some (zr, zS)) : gw_M l yX7_read wsX7_read rm_X7_read 0 0 D (gw_ty cc) t1 t2 [.ref (a 4), .ref (a 1)] (gw_cw cc a b d S) (fun w => w = gw_cw cc a b d zS) (some (.int zr)) := by
  refine gw_enter (cc := cX7_read) (maxL := 4) (ret := (some .int)) (own := RX7) rfl (by decide) rfl (Nat.le_of_ble_eq_true rfl) ?_
  intro p e s m below meth c A B hin hI ls hl
  have hl : lv_has ls 4 [(0, .ref (a 4)), (1, .ref (a 1))] := hl
  generalize ([.ref (a 4), .ref (a 1)] : List Value).toArray = args at B ⊢
  have hx := B.1.1
  have hb := B.1.2.1
  have hown : s.vm.findClass RX7 = some m.cls := B.1.2.2.2.1
  have hts := B.1.2.2.2.2
  have hb15 :  ∀ (n : Nat), ∀ (v2 : Int32) (v3 : Int32) (S : gw_S), f_X7_read_b15  n v2 v3 S = some (zr, zS) → ∀ (H : Heap) (locs : List Loc) (ls : Array Slot), gw_I D A s.heap (gw_cw cc a b d S) H locs → lv_has ls 4 [(0, .ref (a 4)), (1, .ref (a 1)), (2, .int v2), (3, .int v3)] → W p l e rm_X7_read s m args below meth c H locs 0 0 (MQ below (gw_Q (some (.int zr)) (gw_Pst D A (fun w => w = gw_cw cc a b d zS)) A) args s 0 0 A) (F0 m 15 ls []) := by
    intro n
    induction n with
    | zero =>
      intro v2 v3 S h
      cases h
    | succ n ih =>
      intro v2 v3 S h H locs ls hI hl
      unfold f_X7_read_b15 at h
      refine lv_iload_n hx hb dX7_read_15 rfl (lv_at hl 3 rfl) ?_
      refine lv_bipush (v := 8) hx hb dX7_read_16 (by decide) ?_
      refine lv_icmp_gt (tgt := 78) hx hb dX7_read_18 (by decide) (fun c1 => ?_) (fun c1 => ?_)
      · replace h := gw_ifT c1 h
        refine lv_bipush (v := -20) hx hb dX7_read_78 (by decide) ?_
        refine lv_iload_n hx hb dX7_read_80 rfl (lv_at hl 2 rfl) ?_
        refine lv_isub hx hb dX7_read_81 ?_
        obtain ⟨h1, h2⟩ := Prod.mk.inj (Option.some.inj h)
        rw [h2] at hI
        rw [← h1]
        exact gw_iret (W' := (fun w => w = gw_cw cc a b d zS)) B hI rfl (Nat.zero_le _) (Nat.zero_le _) dX7_read_82
      · replace h := gw_ifF c1 h
        refine lv_aload_n hx hb dX7_read_21 rfl (lv_at hl 0 rfl) ?_
        refine lv_aload_n hx hb dX7_read_22 rfl (lv_at hl 1 rfl) ?_
        refine lv_iload_n hx hb dX7_read_23 rfl (lv_at hl 2 rfl) ?_
        refine lv_iconst (v := 1) hx hb dX7_read_24 (by decide) ?_
        refine lv_iadd hx hb dX7_read_25 ?_
        obtain ⟨r2, S3, e4, h⟩ := gw_b2E h
        refine gw_callV (As := [.ref (a 1), .int (v2 + (1 : Int32))]) (n := 2) B hI (k_X7_readClause (v2 + (1 : Int32)) S e4) gX7_read_X7_readClause rfl rfl rfl nd_X7_readClause ⟨Nat.le_of_ble_eq_true rfl, Nat.le_of_ble_eq_true rfl⟩ gc_g4 rfl rfl rfl hl.1 (Nat.zero_le _) dX7_read_26 ⟨Nat.le_of_ble_eq_true rfl, Nat.le_of_ble_eq_true rfl⟩ rfl (fun w' H locs hw hI => ?_)
        subst hw
        refine lv_istore_n (lv' := [(2, .int r2), (0, .ref (a 4)), (1, .ref (a 1)), (3, .int v3)]) hx hb dX7_read_29 rfl hl (by decide) rfl (fun ls hl => ?_)
        refine lv_iload_n hx hb dX7_read_30 rfl (lv_at hl 0 rfl) ?_
        refine lv_if_ge (tgt := 36) hx hb dX7_read_31 (by decide) (fun c5 => ?_) (fun c5 => ?_)
        · replace h := gw_ifT c5 h
          refine lv_iload_n hx hb dX7_read_36 rfl (lv_at hl 0 rfl) ?_
          refine lv_aload_n hx hb dX7_read_37 rfl (lv_at hl 2 rfl) ?_
          refine gw_getN (T := TX6) (k := 1) (v := .int (S3 1 1)) B hI gc_g1 rfl ly_X7_read_6 (by decide) n_RX7_28 rfl rfl dX7_read_38 ?_
          refine lv_icmp_lt (tgt := 57) hx hb dX7_read_41 (by decide) (fun c6 => ?_) (fun c6 => ?_)
          · replace h := gw_ifT c6 h
            refine lv_aload_n hx hb dX7_read_57 rfl (lv_at hl 2 rfl) ?_
            refine lv_iload_n hx hb dX7_read_58 rfl (lv_at hl 0 rfl) ?_
            obtain ⟨r7, e8, h⟩ := gw_bdE h
            refine gw_callV (As := [.int r2]) (n := 1) B hI (k_X6_signAt r2 S3 e8) gX7_read_X6_signAt rfl rfl rfl nd_X6_signAt ⟨Nat.le_of_ble_eq_true rfl, Nat.le_of_ble_eq_true rfl⟩ gc_g1 rfl rfl rfl hl.1 (Nat.zero_le _) dX7_read_59 ⟨Nat.le_of_ble_eq_true rfl, Nat.le_of_ble_eq_true rfl⟩ rfl (fun w' H locs hw hI => ?_)
            subst hw
            refine lv_bipush (v := 59) hx hb dX7_read_62 (by decide) ?_
            refine lv_icmp_eq (tgt := 72) hx hb dX7_read_64 (by decide) (fun c9 => ?_) (fun c9 => ?_)
            · replace h := gw_ifT c9 h
              obtain ⟨y10, e11, h⟩ := gw_letE h
              refine lv_iinc (v := y10) (lv' := [(3, .int y10), (2, .int r2), (0, .ref (a 4)), (1, .ref (a 1))]) hx hb dX7_read_72 hl (k := 3) rfl (by rw [e11]; rfl) (by decide) rfl (fun ls hl => ?_)
              refine lv_goto (tgt := 15) hx hb dX7_read_75 (by decide) ?_
              exact ih r2 y10 S3 h _ _ _ hI (lv_sub hl [2, 3, 1, 0] rfl)
            · replace h := gw_ifF c9 h
              refine lv_bipush (v := -20) hx hb dX7_read_67 (by decide) ?_
              refine lv_iload_n hx hb dX7_read_69 rfl (lv_at hl 0 rfl) ?_
              refine lv_isub hx hb dX7_read_70 ?_
              obtain ⟨h1, h2⟩ := Prod.mk.inj (Option.some.inj h)
              rw [h2] at hI
              rw [← h1]
              exact gw_iret (W' := (fun w => w = gw_cw cc a b d zS)) B hI rfl (Nat.zero_le _) (Nat.zero_le _) dX7_read_71
          · replace h := gw_ifF c6 h
            refine lv_aload_n hx hb dX7_read_44 rfl (lv_at hl 1 rfl) ?_
            refine gw_get (T := TX7) (k := 1) (v := .ref (a 6)) B hI gc_g4 rfl ly_X7_read_7 (by decide) m_X7_read_13 rfl rfl dX7_read_45 ?_
            refine lv_aload_n hx hb dX7_read_48 rfl (lv_at hl 1 rfl) ?_
            refine gw_get (T := TX7) (k := 0) (v := .ref (a 5)) B hI gc_g4 rfl ly_X7_read_7 (by decide) m_X7_read_7 rfl rfl dX7_read_49 ?_
            obtain ⟨S12, e13, h⟩ := gw_bdE h
            refine gw_callSv (As := [.ref (a 6), .ref (a 5)]) (n := 2) B hI (k_X7_copy_6_5  S3 e13) gX7_read_X7_copy rfl rfl rfl nds_X7_copy ⟨Nat.le_of_ble_eq_true rfl, Nat.le_of_ble_eq_true rfl⟩ rfl hl.1 (Nat.zero_le _) dX7_read_52 ⟨Nat.le_of_ble_eq_true rfl, Nat.le_of_ble_eq_true rfl⟩ rfl (fun w' H locs hw hI => ?_)
            subst hw
            refine lv_iload_n hx hb dX7_read_55 rfl (lv_at hl 3 rfl) ?_
            obtain ⟨h1, h2⟩ := Prod.mk.inj (Option.some.inj h)
            rw [h2] at hI
            rw [← h1]
            exact gw_iret (W' := (fun w => w = gw_cw cc a b d zS)) B hI rfl (Nat.zero_le _) (Nat.zero_le _) dX7_read_56
        · replace h := gw_ifF c5 h
          refine lv_iload_n hx hb dX7_read_34 rfl (lv_at hl 0 rfl) ?_
          obtain ⟨h1, h2⟩ := Prod.mk.inj (Option.some.inj h)
          rw [h2] at hI
          rw [← h1]
          exact gw_iret (W' := (fun w => w = gw_cw cc a b d zS)) B hI rfl (Nat.zero_le _) (Nat.zero_le _) dX7_read_35
  unfold f_X7_read at h
  refine lv_aload_n hx hb dX7_read_0 rfl (lv_at hl 0 rfl) ?_
  refine gw_get (T := TX7) (k := 0) (v := .ref (a 5)) B hI gc_g4 rfl ly_X7_read_7 (by decide) m_X7_read_7 rfl rfl dX7_read_1 ?_
  refine lv_aload_n hx hb dX7_read_4 rfl (lv_at hl 0 rfl) ?_
  refine gw_get (T := TX7) (k := 1) (v := .ref (a 6)) B hI gc_g4 rfl ly_X7_read_7 (by decide) m_X7_read_13 rfl rfl dX7_read_5 ?_
  obtain ⟨S14, e15, h⟩ := gw_bdE h
  refine gw_callSv (As := [.ref (a 5), .ref (a 6)]) (n := 2) B hI (k_X7_copy_5_6  S e15) gX7_read_X7_copy rfl rfl rfl nds_X7_copy ⟨Nat.le_of_ble_eq_true rfl, Nat.le_of_ble_eq_true rfl⟩ rfl hl.1 (Nat.zero_le _) dX7_read_8 ⟨Nat.le_of_ble_eq_true rfl, Nat.le_of_ble_eq_true rfl⟩ rfl (fun w' H locs hw hI => ?_)
  subst hw
  refine lv_iconst (v := -1) hx hb dX7_read_11 (by decide) ?_
  refine lv_istore_n (lv' := [(2, .int (-1 : Int32)), (0, .ref (a 4)), (1, .ref (a 1))]) hx hb dX7_read_12 rfl hl (by decide) rfl (fun ls hl => ?_)
  refine lv_iconst (v := 1) hx hb dX7_read_13 (by decide) ?_
  refine lv_istore_n (lv' := [(3, .int (1 : Int32)), (2, .int (-1 : Int32)), (0, .ref (a 4)), (1, .ref (a 1))]) hx hb dX7_read_14 rfl hl (by decide) rfl (fun ls hl => ?_)
  exact hb15  gw_F (-1 : Int32) (1 : Int32) S14 h _ _ _ hI (lv_sub hl [2, 3, 1, 0] rfl)
set_option maxRecDepth 100000 in
set_option maxHeartbeats 4000000 in
theorem k_X8_byteOf (x0 : Int64) (x2 : Int32) (S : gw_S) {zr : Int32} (h : f_X8_byteOf x0 x2 S = some zr) : gw_M l yX8_byteOf wsX8_byteOf rm_X8_byteOf 0 0 D (gw_ty cc) t1 t2 [.long x0, .int x2] (gw_cw cc a b d S) (fun w => w = gw_cw cc a b d S) (some (.int zr)) := by
  refine gw_enter (cc := cX8_byteOf) (maxL := 3) (ret := (some .int)) (own := RX8) rfl (by decide) rfl (Nat.le_of_ble_eq_true rfl) ?_
  intro p e s m below meth c A B hin hI ls hl
  have hl : lv_has ls 3 [(0, .long x0), (2, .int x2)] := hl
  generalize ([.long x0, .int x2] : List Value).toArray = args at B ⊢
  have hx := B.1.1
  have hb := B.1.2.1
  have hown : s.vm.findClass RX8 = some m.cls := B.1.2.2.2.1
  have hts := B.1.2.2.2.2
  unfold f_X8_byteOf at h
  refine lv_lload_n hx hb dX8_byteOf_0 rfl (lv_at hl 0 rfl) ?_
  refine lv_bipush (v := 8) hx hb dX8_byteOf_1 (by decide) ?_
  refine lv_iload_n hx hb dX8_byteOf_3 rfl (lv_at hl 1 rfl) ?_
  refine lv_imul hx hb dX8_byteOf_4 ?_
  refine lv_lushr hx hb dX8_byteOf_5 rfl ?_
  refine lv_l2i hx hb dX8_byteOf_6 rfl ?_
  refine lv_sipush (v := 255) hx hb dX8_byteOf_7 (by decide) ?_
  refine lv_iand hx hb dX8_byteOf_10 ?_
  rw [← Option.some.inj h]
  exact gw_iret (W' := (fun w => w = gw_cw cc a b d S)) B hI rfl (Nat.zero_le _) (Nat.zero_le _) dX8_byteOf_11
theorem m_X8_type_10 : Cond.fieldLink RX8 10 "GownLet" "tape" "LGownLet$Tape;" ∈ wsX8_type := by decide +kernel
theorem ly_X8_type_6 : ∀ w ∈ wsX60, w ∈ wsX8_type := fun w h => List.mem_cons_of_mem _ (List.mem_append_right _ h)
theorem ly_X8_type_8 : ∀ w ∈ wsX80, w ∈ wsX8_type := fun w h => List.mem_cons_of_mem _ (List.mem_append_left _ (List.mem_append_right _ h))
set_option maxRecDepth 100000 in
set_option maxHeartbeats 4000000 in
theorem k_X8_type (x1 : Int64) (x3 : Int32) (S : gw_S) {zr : Int32} {zS : gw_S} (h : f_X8_type x1 x3 S = some (zr, zS)) : gw_M l yX8_type wsX8_type rm_X8_type 0 0 D (gw_ty cc) t1 t2 [.ref (a 0), .long x1, .int x3] (gw_cw cc a b d S) (fun w => w = gw_cw cc a b d zS) (some (.int zr)) := by
  refine gw_enter (cc := cX8_type) (maxL := 5) (ret := (some .int)) (own := RX8) rfl (by decide) rfl (Nat.le_of_ble_eq_true rfl) ?_
  intro p e s m below meth c A B hin hI ls hl
  have hl : lv_has ls 5 [(0, .ref (a 0)), (1, .long x1), (3, .int x3)] := hl
  generalize ([.ref (a 0), .long x1, .int x3] : List Value).toArray = args at B ⊢
  have hx := B.1.1
  have hb := B.1.2.1
  have hown : s.vm.findClass RX8 = some m.cls := B.1.2.2.2.1
  have hts := B.1.2.2.2.2
  have hb65 :  ∀ (n : Nat), ∀ (v1 : Int64) (v4 : Int32) (S : gw_S), f_X8_type_b65  n v1 v4 S = some (zr, zS) → ∀ (H : Heap) (locs : List Loc) (ls : Array Slot), gw_I D A s.heap (gw_cw cc a b d S) H locs → lv_has ls 5 [(0, .ref (a 0)), (1, .long v1), (4, .int v4)] → W p l e rm_X8_type s m args below meth c H locs 0 0 (MQ below (gw_Q (some (.int zr)) (gw_Pst D A (fun w => w = gw_cw cc a b d zS)) A) args s 0 0 A) (F0 m 65 ls []) := by
    intro n
    induction n with
    | zero =>
      intro v1 v4 S h
      cases h
    | succ n ih =>
      intro v1 v4 S h H locs ls hI hl
      unfold f_X8_type_b65 at h
      refine lv_iload hx hb dX8_type_65 (lv_at hl 2 rfl) ?_
      refine lv_if_lt (tgt := 89) hx hb dX8_type_67 (by decide) (fun c1 => ?_) (fun c1 => ?_)
      · replace h := gw_ifT c1 h
        refine lv_aload_n hx hb dX8_type_89 rfl (lv_at hl 0 rfl) ?_
        refine gw_get (T := TX8) (k := 0) (v := .ref (a 1)) B hI gc_g0 rfl ly_X8_type_8 (by decide) m_X8_type_10 rfl rfl dX8_type_90 ?_
        refine gw_getN (T := TX6) (k := 1) (v := .int (S 1 1)) B hI gc_g1 rfl ly_X8_type_6 (by decide) n_RX8_55 rfl rfl dX8_type_93 ?_
        obtain ⟨h1, h2⟩ := Prod.mk.inj (Option.some.inj h)
        rw [h2] at hI
        rw [← h1]
        exact gw_iret (W' := (fun w => w = gw_cw cc a b d zS)) B hI rfl (Nat.zero_le _) (Nat.zero_le _) dX8_type_96
      · replace h := gw_ifF c1 h
        refine lv_aload_n hx hb dX8_type_70 rfl (lv_at hl 0 rfl) ?_
        refine gw_get (T := TX8) (k := 0) (v := .ref (a 1)) B hI gc_g0 rfl ly_X8_type_8 (by decide) m_X8_type_10 rfl rfl dX8_type_71 ?_
        refine lv_lload_n hx hb dX8_type_74 rfl (lv_at hl 1 rfl) ?_
        refine lv_iload hx hb dX8_type_75 (lv_at hl 2 rfl) ?_
        obtain ⟨r2, e3, h⟩ := gw_bdE h
        refine gw_callS (As := [.long v1, .int v4]) (n := 2) B hI (k_X8_byteOf v1 v4 S e3) gX8_type_X8_byteOf rfl rfl rfl nds_X8_byteOf ⟨Nat.le_of_ble_eq_true rfl, Nat.le_of_ble_eq_true rfl⟩ rfl hl.1 (by simp [gw_catq, gw_cI, gw_cR, gw_cL]) dX8_type_77 ⟨Nat.le_of_ble_eq_true rfl, Nat.le_of_ble_eq_true rfl⟩ rfl (fun w' H locs hw hI => ?_)
        subst hw
        obtain ⟨S4, e5, h⟩ := gw_bdE h
        refine gw_callVv (As := [.int r2]) (n := 1) B hI (k_X6_append r2 S e5) gX8_type_X6_append rfl rfl rfl nd_X6_append ⟨Nat.le_of_ble_eq_true rfl, Nat.le_of_ble_eq_true rfl⟩ gc_g1 rfl rfl rfl hl.1 (Nat.zero_le _) dX8_type_80 ⟨Nat.le_of_ble_eq_true rfl, Nat.le_of_ble_eq_true rfl⟩ rfl (fun w' H locs hw hI => ?_)
        subst hw
        obtain ⟨y6, e7, h⟩ := gw_letE h
        refine lv_iinc (v := y6) (lv' := [(4, .int y6), (0, .ref (a 0)), (1, .long v1)]) hx hb dX8_type_83 hl (k := 2) rfl (by rw [e7]; rfl) (by decide) rfl (fun ls hl => ?_)
        refine lv_goto (tgt := 65) hx hb dX8_type_86 (by decide) ?_
        exact ih v1 y6 S4 h _ _ _ hI (lv_sub hl [1, 2, 0] rfl)
  have hb17 :  ∀ (n : Nat), ∀ (v1 : Int64) (v3 : Int32) (v4 : Int32) (S : gw_S), f_X8_type_b17  n v1 v3 v4 S = some (zr, zS) → ∀ (H : Heap) (locs : List Loc) (ls : Array Slot), gw_I D A s.heap (gw_cw cc a b d S) H locs → lv_has ls 5 [(0, .ref (a 0)), (1, .long v1), (3, .int v3), (4, .int v4)] → W p l e rm_X8_type s m args below meth c H locs 0 0 (MQ below (gw_Q (some (.int zr)) (gw_Pst D A (fun w => w = gw_cw cc a b d zS)) A) args s 0 0 A) (F0 m 17 ls []) := by
    intro n
    induction n with
    | zero =>
      intro v1 v3 v4 S h
      cases h
    | succ n ih =>
      intro v1 v3 v4 S h H locs ls hI hl
      unfold f_X8_type_b17 at h
      refine lv_iload hx hb dX8_type_17 (lv_at hl 3 rfl) ?_
      refine lv_if_lt (tgt := 46) hx hb dX8_type_19 (by decide) (fun c8 => ?_) (fun c8 => ?_)
      · replace h := gw_ifT c8 h
        refine lv_aload_n hx hb dX8_type_46 rfl (lv_at hl 0 rfl) ?_
        refine gw_get (T := TX8) (k := 0) (v := .ref (a 1)) B hI gc_g0 rfl ly_X8_type_8 (by decide) m_X8_type_10 rfl rfl dX8_type_47 ?_
        refine lv_iload_n hx hb dX8_type_50 rfl (lv_at hl 2 rfl) ?_
        obtain ⟨r9, e10, h⟩ := gw_bdE h
        refine gw_callV (As := [.int v3]) (n := 1) B hI (k_X6_hasRoomFor v3 S e10) gX8_type_X6_hasRoomFor rfl rfl rfl nd_X6_hasRoomFor ⟨Nat.le_of_ble_eq_true rfl, Nat.le_of_ble_eq_true rfl⟩ gc_g1 rfl rfl rfl hl.1 (Nat.zero_le _) dX8_type_51 ⟨Nat.le_of_ble_eq_true rfl, Nat.le_of_ble_eq_true rfl⟩ rfl (fun w' H locs hw hI => ?_)
        subst hw
        refine lv_if_ne (tgt := 60) hx hb dX8_type_54 (by decide) (fun c11 => ?_) (fun c11 => ?_)
        · replace h := gw_ifF c11 h
          refine lv_iload_n hx hb dX8_type_60 rfl (lv_at hl 2 rfl) ?_
          refine lv_iconst (v := 1) hx hb dX8_type_61 (by decide) ?_
          refine lv_isub hx hb dX8_type_62 ?_
          obtain ⟨y12, e13, h⟩ := gw_letE h
          rw [← e13]
          refine lv_istore (lv' := [(4, .int y12), (0, .ref (a 0)), (1, .long v1), (3, .int v3)]) hx hb dX8_type_63 hl (by decide) rfl (fun ls hl => ?_)
          exact hb65  gw_F v1 y12 S h _ _ _ hI (lv_sub hl [1, 2, 0] rfl)
        · replace h := gw_ifT c11 h
          refine lv_bipush (v := -3) hx hb dX8_type_57 (by decide) ?_
          obtain ⟨h1, h2⟩ := Prod.mk.inj (Option.some.inj h)
          rw [h2] at hI
          rw [← h1]
          exact gw_iret (W' := (fun w => w = gw_cw cc a b d zS)) B hI rfl (Nat.zero_le _) (Nat.zero_le _) dX8_type_59
      · replace h := gw_ifF c8 h
        refine lv_lload_n hx hb dX8_type_22 rfl (lv_at hl 1 rfl) ?_
        refine lv_iload hx hb dX8_type_23 (lv_at hl 3 rfl) ?_
        obtain ⟨r14, e15, h⟩ := gw_bdE h
        refine gw_callS (As := [.long v1, .int v4]) (n := 2) B hI (k_X8_byteOf v1 v4 S e15) gX8_type_X8_byteOf rfl rfl rfl nds_X8_byteOf ⟨Nat.le_of_ble_eq_true rfl, Nat.le_of_ble_eq_true rfl⟩ rfl hl.1 (Nat.zero_le _) dX8_type_25 ⟨Nat.le_of_ble_eq_true rfl, Nat.le_of_ble_eq_true rfl⟩ rfl (fun w' H locs hw hI => ?_)
        subst hw
        refine lv_bipush (v := 32) hx hb dX8_type_28 (by decide) ?_
        refine lv_bipush (v := 126) hx hb dX8_type_30 (by decide) ?_
        obtain ⟨r16, e17, h⟩ := gw_bdE h
        refine gw_callS (As := [.int r14, .int (32 : Int32), .int (126 : Int32)]) (n := 3) B hI (k_X8_isIn r14 (32 : Int32) (126 : Int32) S e17) gX8_type_X8_isIn rfl rfl rfl nds_X8_isIn ⟨Nat.le_of_ble_eq_true rfl, Nat.le_of_ble_eq_true rfl⟩ rfl hl.1 (Nat.zero_le _) dX8_type_32 ⟨Nat.le_of_ble_eq_true rfl, Nat.le_of_ble_eq_true rfl⟩ rfl (fun w' H locs hw hI => ?_)
        subst hw
        refine lv_if_ne (tgt := 40) hx hb dX8_type_35 (by decide) (fun c18 => ?_) (fun c18 => ?_)
        · replace h := gw_ifF c18 h
          obtain ⟨y19, e20, h⟩ := gw_letE h
          refine lv_iinc (v := y19) (lv' := [(4, .int y19), (0, .ref (a 0)), (1, .long v1), (3, .int v3)]) hx hb dX8_type_40 hl (k := 3) rfl (by rw [e20]; rfl) (by decide) rfl (fun ls hl => ?_)
          refine lv_goto (tgt := 17) hx hb dX8_type_43 (by decide) ?_
          exact ih v1 v3 y19 S h _ _ _ hI (lv_sub hl [1, 2, 3, 0] rfl)
        · replace h := gw_ifT c18 h
          refine lv_iconst (v := -1) hx hb dX8_type_38 (by decide) ?_
          obtain ⟨h1, h2⟩ := Prod.mk.inj (Option.some.inj h)
          rw [h2] at hI
          rw [← h1]
          exact gw_iret (W' := (fun w => w = gw_cw cc a b d zS)) B hI rfl (Nat.zero_le _) (Nat.zero_le _) dX8_type_39
  unfold f_X8_type at h
  refine lv_iload_n hx hb dX8_type_0 rfl (lv_at hl 2 rfl) ?_
  refine lv_iconst (v := 1) hx hb dX8_type_1 (by decide) ?_
  refine lv_bipush (v := 8) hx hb dX8_type_2 (by decide) ?_
  obtain ⟨r21, e22, h⟩ := gw_bdE h
  refine gw_callS (As := [.int x3, .int (1 : Int32), .int (8 : Int32)]) (n := 3) B hI (k_X8_isIn x3 (1 : Int32) (8 : Int32) S e22) gX8_type_X8_isIn rfl rfl rfl nds_X8_isIn ⟨Nat.le_of_ble_eq_true rfl, Nat.le_of_ble_eq_true rfl⟩ rfl hl.1 (Nat.zero_le _) dX8_type_4 ⟨Nat.le_of_ble_eq_true rfl, Nat.le_of_ble_eq_true rfl⟩ rfl (fun w' H locs hw hI => ?_)
  subst hw
  refine lv_if_ne (tgt := 12) hx hb dX8_type_7 (by decide) (fun c23 => ?_) (fun c23 => ?_)
  · replace h := gw_ifF c23 h
    refine lv_iload_n hx hb dX8_type_12 rfl (lv_at hl 2 rfl) ?_
    refine lv_iconst (v := 1) hx hb dX8_type_13 (by decide) ?_
    refine lv_isub hx hb dX8_type_14 ?_
    obtain ⟨y24, e25, h⟩ := gw_letE h
    rw [← e25]
    refine lv_istore (lv' := [(4, .int y24), (0, .ref (a 0)), (1, .long x1), (3, .int x3)]) hx hb dX8_type_15 hl (by decide) rfl (fun ls hl => ?_)
    exact hb17  gw_F x1 x3 y24 S h _ _ _ hI (lv_sub hl [1, 2, 3, 0] rfl)
  · replace h := gw_ifT c23 h
    refine lv_iconst (v := -1) hx hb dX8_type_10 (by decide) ?_
    obtain ⟨h1, h2⟩ := Prod.mk.inj (Option.some.inj h)
    rw [h2] at hI
    rw [← h1]
    exact gw_iret (W' := (fun w => w = gw_cw cc a b d zS)) B hI rfl (Nat.zero_le _) (Nat.zero_le _) dX8_type_11
theorem m_X8_terms_10 : Cond.fieldLink RX8 10 "GownLet" "tape" "LGownLet$Tape;" ∈ wsX8_terms := by decide +kernel
theorem m_X8_terms_19 : Cond.fieldLink RX8 19 "GownLet" "house" "LGownLet$House;" ∈ wsX8_terms := by decide +kernel
theorem ly_X8_terms_2 : ∀ w ∈ wsX20, w ∈ wsX8_terms := fun w h => List.mem_cons_of_mem _ (List.mem_append_left _ (List.mem_append_left _ (List.mem_append_right _ h)))
theorem ly_X8_terms_8 : ∀ w ∈ wsX80, w ∈ wsX8_terms := fun w h => List.mem_cons_of_mem _ (List.mem_append_left _ (List.mem_append_left _ (List.mem_append_left _ (List.mem_append_right _ h))))
set_option maxRecDepth 100000 in
set_option maxHeartbeats 4000000 in
theorem k_X8_terms  (S : gw_S) {zr : Int32} {zS : gw_S} (h : f_X8_terms  S = some (zr, zS)) : gw_M l yX8_terms wsX8_terms rm_X8_terms 0 0 D (gw_ty cc) t1 t2 [.ref (a 0)] (gw_cw cc a b d S) (fun w => w = gw_cw cc a b d zS) (some (.int zr)) := by
  refine gw_enter (cc := cX8_terms) (maxL := 2) (ret := (some .int)) (own := RX8) rfl (by decide) rfl (Nat.le_of_ble_eq_true rfl) ?_
  intro p e s m below meth c A B hin hI ls hl
  have hl : lv_has ls 2 [(0, .ref (a 0))] := hl
  generalize ([.ref (a 0)] : List Value).toArray = args at B ⊢
  have hx := B.1.1
  have hb := B.1.2.1
  have hown : s.vm.findClass RX8 = some m.cls := B.1.2.2.2.1
  have hts := B.1.2.2.2.2
  unfold f_X8_terms at h
  refine lv_aload_n hx hb dX8_terms_0 rfl (lv_at hl 0 rfl) ?_
  refine gw_get (T := TX8) (k := 1) (v := .ref (a 3)) B hI gc_g0 rfl ly_X8_terms_8 (by decide) m_X8_terms_19 rfl rfl dX8_terms_1 ?_
  refine gw_getN (T := TX2) (k := 0) (v := .ref (a 4)) B hI gc_g3 rfl ly_X8_terms_2 (by decide) n_RX8_59 rfl rfl dX8_terms_4 ?_
  refine lv_aload_n hx hb dX8_terms_7 rfl (lv_at hl 0 rfl) ?_
  refine gw_get (T := TX8) (k := 0) (v := .ref (a 1)) B hI gc_g0 rfl ly_X8_terms_8 (by decide) m_X8_terms_10 rfl rfl dX8_terms_8 ?_
  obtain ⟨r1, S2, e3, h⟩ := gw_b2E h
  refine gw_callV (As := [.ref (a 1)]) (n := 1) B hI (k_X7_read  S e3) gX8_terms_X7_read rfl rfl rfl nd_X7_read ⟨Nat.le_of_ble_eq_true rfl, Nat.le_of_ble_eq_true rfl⟩ gc_g4 rfl rfl rfl hl.1 (Nat.zero_le _) dX8_terms_11 ⟨Nat.le_of_ble_eq_true rfl, Nat.le_of_ble_eq_true rfl⟩ rfl (fun w' H locs hw hI => ?_)
  subst hw
  refine lv_istore_n (lv' := [(1, .int r1), (0, .ref (a 0))]) hx hb dX8_terms_14 rfl hl (by decide) rfl (fun ls hl => ?_)
  refine lv_aload_n hx hb dX8_terms_15 rfl (lv_at hl 1 rfl) ?_
  refine gw_get (T := TX8) (k := 0) (v := .ref (a 1)) B hI gc_g0 rfl ly_X8_terms_8 (by decide) m_X8_terms_10 rfl rfl dX8_terms_16 ?_
  obtain ⟨S4, e5, h⟩ := gw_bdE h
  refine gw_callVv (As := []) (n := 0) B hI (k_X6_clear  S2 e5) gX8_terms_X6_clear rfl rfl rfl nd_X6_clear ⟨Nat.le_of_ble_eq_true rfl, Nat.le_of_ble_eq_true rfl⟩ gc_g1 rfl rfl rfl hl.1 (Nat.zero_le _) dX8_terms_19 ⟨Nat.le_of_ble_eq_true rfl, Nat.le_of_ble_eq_true rfl⟩ rfl (fun w' H locs hw hI => ?_)
  subst hw
  refine lv_iload_n hx hb dX8_terms_22 rfl (lv_at hl 0 rfl) ?_
  obtain ⟨h1, h2⟩ := Prod.mk.inj (Option.some.inj h)
  rw [h2] at hI
  rw [← h1]
  exact gw_iret (W' := (fun w => w = gw_cw cc a b d zS)) B hI rfl (Nat.zero_le _) (Nat.zero_le _) dX8_terms_23
theorem m_X8_term_19 : Cond.fieldLink RX8 19 "GownLet" "house" "LGownLet$House;" ∈ wsX8_term := by decide +kernel
theorem ly_X8_term_2 : ∀ w ∈ wsX20, w ∈ wsX8_term := fun w h => List.mem_cons_of_mem _ (List.mem_append_left _ (List.mem_append_right _ h))
theorem ly_X8_term_8 : ∀ w ∈ wsX80, w ∈ wsX8_term := fun w h => List.mem_cons_of_mem _ (List.mem_append_left _ (List.mem_append_left _ (List.mem_append_right _ h)))
set_option maxRecDepth 100000 in
set_option maxHeartbeats 4000000 in
theorem k_X8_term (x1 : Int32) (S : gw_S) {zr : Int32} (h : f_X8_term x1 S = some zr) : gw_M l yX8_term wsX8_term rm_X8_term 0 0 D (gw_ty cc) t1 t2 [.ref (a 0), .int x1] (gw_cw cc a b d S) (fun w => w = gw_cw cc a b d S) (some (.int zr)) := by
  refine gw_enter (cc := cX8_term) (maxL := 3) (ret := (some .int)) (own := RX8) rfl (by decide) rfl (Nat.le_of_ble_eq_true rfl) ?_
  intro p e s m below meth c A B hin hI ls hl
  have hl : lv_has ls 3 [(0, .ref (a 0)), (1, .int x1)] := hl
  generalize ([.ref (a 0), .int x1] : List Value).toArray = args at B ⊢
  have hx := B.1.1
  have hb := B.1.2.1
  have hown : s.vm.findClass RX8 = some m.cls := B.1.2.2.2.1
  have hts := B.1.2.2.2.2
  unfold f_X8_term at h
  refine lv_iload_n hx hb dX8_term_0 rfl (lv_at hl 1 rfl) ?_
  obtain ⟨r1, e2, h⟩ := gw_bdE h
  refine gw_callS (As := [.int x1]) (n := 1) B hI (k_X7_placeOf x1 S e2) gX8_term_X7_placeOf rfl rfl rfl nds_X7_placeOf ⟨Nat.le_of_ble_eq_true rfl, Nat.le_of_ble_eq_true rfl⟩ rfl hl.1 (Nat.zero_le _) dX8_term_1 ⟨Nat.le_of_ble_eq_true rfl, Nat.le_of_ble_eq_true rfl⟩ rfl (fun w' H locs hw hI => ?_)
  subst hw
  refine lv_istore_n (lv' := [(2, .int r1), (0, .ref (a 0)), (1, .int x1)]) hx hb dX8_term_4 rfl hl (by decide) rfl (fun ls hl => ?_)
  refine lv_iload_n hx hb dX8_term_5 rfl (lv_at hl 0 rfl) ?_
  refine lv_if_ge (tgt := 13) hx hb dX8_term_6 (by decide) (fun c3 => ?_) (fun c3 => ?_)
  · replace h := gw_ifT c3 h
    refine lv_aload_n hx hb dX8_term_13 rfl (lv_at hl 1 rfl) ?_
    refine gw_get (T := TX8) (k := 1) (v := .ref (a 3)) B hI gc_g0 rfl ly_X8_term_8 (by decide) m_X8_term_19 rfl rfl dX8_term_14 ?_
    refine gw_getN (T := TX2) (k := 0) (v := .ref (a 4)) B hI gc_g3 rfl ly_X8_term_2 (by decide) n_RX8_59 rfl rfl dX8_term_17 ?_
    refine lv_iload_n hx hb dX8_term_20 rfl (lv_at hl 0 rfl) ?_
    obtain ⟨r4, e5, h⟩ := gw_bdE h
    refine gw_callV (As := [.int r1]) (n := 1) B hI (k_X7_at r1 S e5) gX8_term_X7_at rfl rfl rfl nd_X7_at ⟨Nat.le_of_ble_eq_true rfl, Nat.le_of_ble_eq_true rfl⟩ gc_g4 rfl rfl rfl hl.1 (Nat.zero_le _) dX8_term_21 ⟨Nat.le_of_ble_eq_true rfl, Nat.le_of_ble_eq_true rfl⟩ rfl (fun w' H locs hw hI => ?_)
    subst hw
    rw [← Option.some.inj h]
    exact gw_iret (W' := (fun w => w = gw_cw cc a b d S)) B hI rfl (Nat.zero_le _) (Nat.zero_le _) dX8_term_24
  · replace h := gw_ifF c3 h
    refine lv_iconst (v := -1) hx hb dX8_term_9 (by decide) ?_
    refine lv_goto (tgt := 24) hx hb dX8_term_10 (by decide) ?_
    rw [← Option.some.inj h]
    exact gw_iret (W' := (fun w => w = gw_cw cc a b d S)) B hI rfl (Nat.zero_le _) (Nat.zero_le _) dX8_term_24
theorem m_X8_post_19 : Cond.fieldLink RX8 19 "GownLet" "house" "LGownLet$House;" ∈ wsX8_post := by decide +kernel
theorem ly_X8_post_8 : ∀ w ∈ wsX80, w ∈ wsX8_post := fun w h => List.mem_cons_of_mem _ (List.mem_append_left _ (List.mem_append_right _ h))
set_option maxRecDepth 100000 in
set_option maxHeartbeats 4000000 in
theorem k_X8_post (x1 : Int32) (x2 : Int32) (x3 : Int32) (S : gw_S) {zr : Int32} {zS : gw_S} (h : f_X8_post x1 x2 x3 S = some (zr, zS)) : gw_M l yX8_post wsX8_post rm_X8_post 0 0 D (gw_ty cc) t1 t2 [.ref (a 0), .int x1, .int x2, .int x3] (gw_cw cc a b d S) (fun w => w = gw_cw cc a b d zS) (some (.int zr)) := by
  refine gw_enter (cc := cX8_post) (maxL := 5) (ret := (some .int)) (own := RX8) rfl (by decide) rfl (Nat.le_of_ble_eq_true rfl) ?_
  intro p e s m below meth c A B hin hI ls hl
  have hl : lv_has ls 5 [(0, .ref (a 0)), (1, .int x1), (2, .int x2), (3, .int x3)] := hl
  generalize ([.ref (a 0), .int x1, .int x2, .int x3] : List Value).toArray = args at B ⊢
  have hx := B.1.1
  have hb := B.1.2.1
  have hown : s.vm.findClass RX8 = some m.cls := B.1.2.2.2.1
  have hts := B.1.2.2.2.2
  unfold f_X8_post at h
  refine lv_iload_n hx hb dX8_post_0 rfl (lv_at hl 1 rfl) ?_
  obtain ⟨r1, e2, h⟩ := gw_bdE h
  refine gw_callS (As := [.int x1]) (n := 1) B hI (k_X8_isTown x1 S e2) gX8_post_X8_isTown rfl rfl rfl nds_X8_isTown ⟨Nat.le_of_ble_eq_true rfl, Nat.le_of_ble_eq_true rfl⟩ rfl hl.1 (Nat.zero_le _) dX8_post_1 ⟨Nat.le_of_ble_eq_true rfl, Nat.le_of_ble_eq_true rfl⟩ rfl (fun w' H locs hw hI => ?_)
  subst hw
  refine lv_if_eq (tgt := 29) hx hb dX8_post_4 (by decide) (fun c3 => ?_) (fun c3 => ?_)
  · replace h := gw_ifT c3 h
    refine lv_iconst (v := -1) hx hb dX8_post_29 (by decide) ?_
    obtain ⟨h1, h2⟩ := Prod.mk.inj (Option.some.inj h)
    rw [h2] at hI
    rw [← h1]
    exact gw_iret (W' := (fun w => w = gw_cw cc a b d zS)) B hI rfl (Nat.zero_le _) (Nat.zero_le _) dX8_post_30
  · replace h := gw_ifF c3 h
    refine lv_iload_n hx hb dX8_post_7 rfl (lv_at hl 2 rfl) ?_
    obtain ⟨r4, e5, h⟩ := gw_bdE h
    refine gw_callS (As := [.int x2]) (n := 1) B hI (k_X8_isTown x2 S e5) gX8_post_X8_isTown rfl rfl rfl nds_X8_isTown ⟨Nat.le_of_ble_eq_true rfl, Nat.le_of_ble_eq_true rfl⟩ rfl hl.1 (Nat.zero_le _) dX8_post_8 ⟨Nat.le_of_ble_eq_true rfl, Nat.le_of_ble_eq_true rfl⟩ rfl (fun w' H locs hw hI => ?_)
    subst hw
    refine lv_if_eq (tgt := 29) hx hb dX8_post_11 (by decide) (fun c6 => ?_) (fun c6 => ?_)
    · replace h := gw_ifT c6 h
      refine lv_iconst (v := -1) hx hb dX8_post_29 (by decide) ?_
      obtain ⟨h1, h2⟩ := Prod.mk.inj (Option.some.inj h)
      rw [h2] at hI
      rw [← h1]
      exact gw_iret (W' := (fun w => w = gw_cw cc a b d zS)) B hI rfl (Nat.zero_le _) (Nat.zero_le _) dX8_post_30
    · replace h := gw_ifF c6 h
      refine lv_iload_n hx hb dX8_post_14 rfl (lv_at hl 1 rfl) ?_
      refine lv_iload_n hx hb dX8_post_15 rfl (lv_at hl 2 rfl) ?_
      refine lv_icmp_eq (tgt := 29) hx hb dX8_post_16 (by decide) (fun c7 => ?_) (fun c7 => ?_)
      · replace h := gw_ifT c7 h
        refine lv_iconst (v := -1) hx hb dX8_post_29 (by decide) ?_
        obtain ⟨h1, h2⟩ := Prod.mk.inj (Option.some.inj h)
        rw [h2] at hI
        rw [← h1]
        exact gw_iret (W' := (fun w => w = gw_cw cc a b d zS)) B hI rfl (Nat.zero_le _) (Nat.zero_le _) dX8_post_30
      · replace h := gw_ifF c7 h
        refine lv_iload_n hx hb dX8_post_19 rfl (lv_at hl 3 rfl) ?_
        refine lv_iconst (v := 0) hx hb dX8_post_20 (by decide) ?_
        refine lv_bipush (v := 9) hx hb dX8_post_21 (by decide) ?_
        obtain ⟨r8, e9, h⟩ := gw_bdE h
        refine gw_callS (As := [.int x3, .int (0 : Int32), .int (9 : Int32)]) (n := 3) B hI (k_X8_isIn x3 (0 : Int32) (9 : Int32) S e9) gX8_post_X8_isIn rfl rfl rfl nds_X8_isIn ⟨Nat.le_of_ble_eq_true rfl, Nat.le_of_ble_eq_true rfl⟩ rfl hl.1 (Nat.zero_le _) dX8_post_23 ⟨Nat.le_of_ble_eq_true rfl, Nat.le_of_ble_eq_true rfl⟩ rfl (fun w' H locs hw hI => ?_)
        subst hw
        refine lv_if_ne (tgt := 31) hx hb dX8_post_26 (by decide) (fun c10 => ?_) (fun c10 => ?_)
        · replace h := gw_ifF c10 h
          refine lv_aload_n hx hb dX8_post_31 rfl (lv_at hl 0 rfl) ?_
          refine gw_get (T := TX8) (k := 1) (v := .ref (a 3)) B hI gc_g0 rfl ly_X8_post_8 (by decide) m_X8_post_19 rfl rfl dX8_post_32 ?_
          refine lv_iload_n hx hb dX8_post_35 rfl (lv_at hl 1 rfl) ?_
          refine lv_iload_n hx hb dX8_post_36 rfl (lv_at hl 2 rfl) ?_
          obtain ⟨r11, e12, h⟩ := gw_bdE h
          refine gw_callV (As := [.int x1, .int x2]) (n := 2) B hI (k_X2_postBetween x1 x2 S e12) gX8_post_X2_postBetween rfl rfl rfl nd_X2_postBetween ⟨Nat.le_of_ble_eq_true rfl, Nat.le_of_ble_eq_true rfl⟩ gc_g3 rfl rfl rfl hl.1 (Nat.zero_le _) dX8_post_37 ⟨Nat.le_of_ble_eq_true rfl, Nat.le_of_ble_eq_true rfl⟩ rfl (fun w' H locs hw hI => ?_)
          subst hw
          refine lv_istore (lv' := [(4, .int r11), (0, .ref (a 0)), (1, .int x1), (2, .int x2), (3, .int x3)]) hx hb dX8_post_40 hl (by decide) rfl (fun ls hl => ?_)
          refine lv_aload_n hx hb dX8_post_42 rfl (lv_at hl 1 rfl) ?_
          refine gw_get (T := TX8) (k := 1) (v := .ref (a 3)) B hI gc_g0 rfl ly_X8_post_8 (by decide) m_X8_post_19 rfl rfl dX8_post_43 ?_
          refine lv_iload_n hx hb dX8_post_46 rfl (lv_at hl 2 rfl) ?_
          refine lv_iload_n hx hb dX8_post_47 rfl (lv_at hl 3 rfl) ?_
          refine lv_iload_n hx hb dX8_post_48 rfl (lv_at hl 4 rfl) ?_
          obtain ⟨S13, e14, h⟩ := gw_bdE h
          refine gw_callVv (As := [.int x1, .int x2, .int x3]) (n := 3) B hI (k_X2_setPost x1 x2 x3 S e14) gX8_post_X2_setPost rfl rfl rfl nd_X2_setPost ⟨Nat.le_of_ble_eq_true rfl, Nat.le_of_ble_eq_true rfl⟩ gc_g3 rfl rfl rfl hl.1 (Nat.zero_le _) dX8_post_49 ⟨Nat.le_of_ble_eq_true rfl, Nat.le_of_ble_eq_true rfl⟩ rfl (fun w' H locs hw hI => ?_)
          subst hw
          refine lv_iload hx hb dX8_post_52 (lv_at hl 0 rfl) ?_
          obtain ⟨h1, h2⟩ := Prod.mk.inj (Option.some.inj h)
          rw [h2] at hI
          rw [← h1]
          exact gw_iret (W' := (fun w => w = gw_cw cc a b d zS)) B hI rfl (Nat.zero_le _) (Nat.zero_le _) dX8_post_54
        · replace h := gw_ifT c10 h
          refine lv_iconst (v := -1) hx hb dX8_post_29 (by decide) ?_
          obtain ⟨h1, h2⟩ := Prod.mk.inj (Option.some.inj h)
          rw [h2] at hI
          rw [← h1]
          exact gw_iret (W' := (fun w => w = gw_cw cc a b d zS)) B hI rfl (Nat.zero_le _) (Nat.zero_le _) dX8_post_30
set_option maxRecDepth 100000 in
set_option maxHeartbeats 4000000 in
theorem k_X8_isMaker (x0 : Int32) (S : gw_S) {zr : Int32} (h : f_X8_isMaker x0 S = some zr) : gw_M l yX8_isMaker wsX8_isMaker rm_X8_isMaker 0 0 D (gw_ty cc) t1 t2 [.int x0] (gw_cw cc a b d S) (fun w => w = gw_cw cc a b d S) (some (.int zr)) := by
  refine gw_enter (cc := cX8_isMaker) (maxL := 1) (ret := (some .boolean)) (own := RX8) rfl (by decide) rfl (Nat.le_of_ble_eq_true rfl) ?_
  intro p e s m below meth c A B hin hI ls hl
  have hl : lv_has ls 1 [(0, .int x0)] := hl
  generalize ([.int x0] : List Value).toArray = args at B ⊢
  have hx := B.1.1
  have hb := B.1.2.1
  have hown : s.vm.findClass RX8 = some m.cls := B.1.2.2.2.1
  have hts := B.1.2.2.2.2
  unfold f_X8_isMaker at h
  refine lv_iload_n hx hb dX8_isMaker_0 rfl (lv_at hl 0 rfl) ?_
  refine lv_iconst (v := 0) hx hb dX8_isMaker_1 (by decide) ?_
  refine lv_iconst (v := 5) hx hb dX8_isMaker_2 (by decide) ?_
  obtain ⟨r1, e2, h⟩ := gw_bdE h
  refine gw_callS (As := [.int x0, .int (0 : Int32), .int (5 : Int32)]) (n := 3) B hI (k_X8_isIn x0 (0 : Int32) (5 : Int32) S e2) gX8_isMaker_X8_isIn rfl rfl rfl nds_X8_isIn ⟨Nat.le_of_ble_eq_true rfl, Nat.le_of_ble_eq_true rfl⟩ rfl hl.1 (Nat.zero_le _) dX8_isMaker_3 ⟨Nat.le_of_ble_eq_true rfl, Nat.le_of_ble_eq_true rfl⟩ rfl (fun w' H locs hw hI => ?_)
  subst hw
  obtain ⟨g3, h⟩ := gw_gdE h
  rw [← Option.some.inj h]
  exact gw_zret (W' := (fun w => w = gw_cw cc a b d S)) B hI rfl g3 (Nat.zero_le _) (Nat.zero_le _) dX8_isMaker_6
set_option maxRecDepth 100000 in
set_option maxHeartbeats 4000000 in
theorem k_X8_isLabel (x0 : Int32) (S : gw_S) {zr : Int32} (h : f_X8_isLabel x0 S = some zr) : gw_M l yX8_isLabel wsX8_isLabel rm_X8_isLabel 0 0 D (gw_ty cc) t1 t2 [.int x0] (gw_cw cc a b d S) (fun w => w = gw_cw cc a b d S) (some (.int zr)) := by
  refine gw_enter (cc := cX8_isLabel) (maxL := 1) (ret := (some .boolean)) (own := RX8) rfl (by decide) rfl (Nat.le_of_ble_eq_true rfl) ?_
  intro p e s m below meth c A B hin hI ls hl
  have hl : lv_has ls 1 [(0, .int x0)] := hl
  generalize ([.int x0] : List Value).toArray = args at B ⊢
  have hx := B.1.1
  have hb := B.1.2.1
  have hown : s.vm.findClass RX8 = some m.cls := B.1.2.2.2.1
  have hts := B.1.2.2.2.2
  unfold f_X8_isLabel at h
  refine lv_iload_n hx hb dX8_isLabel_0 rfl (lv_at hl 0 rfl) ?_
  refine lv_iconst (v := 1) hx hb dX8_isLabel_1 (by decide) ?_
  refine lv_bipush (v := 40) hx hb dX8_isLabel_2 (by decide) ?_
  obtain ⟨r1, e2, h⟩ := gw_bdE h
  refine gw_callS (As := [.int x0, .int (1 : Int32), .int (40 : Int32)]) (n := 3) B hI (k_X8_isIn x0 (1 : Int32) (40 : Int32) S e2) gX8_isLabel_X8_isIn rfl rfl rfl nds_X8_isIn ⟨Nat.le_of_ble_eq_true rfl, Nat.le_of_ble_eq_true rfl⟩ rfl hl.1 (Nat.zero_le _) dX8_isLabel_4 ⟨Nat.le_of_ble_eq_true rfl, Nat.le_of_ble_eq_true rfl⟩ rfl (fun w' H locs hw hI => ?_)
  subst hw
  obtain ⟨g3, h⟩ := gw_gdE h
  rw [← Option.some.inj h]
  exact gw_zret (W' := (fun w => w = gw_cw cc a b d S)) B hI rfl g3 (Nat.zero_le _) (Nat.zero_le _) dX8_isLabel_7
theorem m_X8_hem_19 : Cond.fieldLink RX8 19 "GownLet" "house" "LGownLet$House;" ∈ wsX8_hem := by decide +kernel
theorem ly_X8_hem_4 : ∀ w ∈ wsX40, w ∈ wsX8_hem := fun w h => List.mem_cons_of_mem _ (List.mem_append_left _ (List.mem_append_right _ h))
theorem ly_X8_hem_8 : ∀ w ∈ wsX80, w ∈ wsX8_hem := fun w h => List.mem_cons_of_mem _ (List.mem_append_left _ (List.mem_append_left _ (List.mem_append_right _ h)))
set_option maxRecDepth 100000 in
set_option maxHeartbeats 4000000 in
theorem k_X8_hem (x1 : Int32) (x2 : Int32) (S : gw_S) {zr : Int32} {zS : gw_S} (h : f_X8_hem x1 x2 S = some (zr, zS)) : gw_M l yX8_hem wsX8_hem rm_X8_hem 0 0 D (gw_ty cc) t1 t2 [.ref (a 0), .int x1, .int x2] (gw_cw cc a b d S) (fun w => w = gw_cw cc a b d zS) (some (.int zr)) := by
  refine gw_enter (cc := cX8_hem) (maxL := 4) (ret := (some .int)) (own := RX8) rfl (by decide) rfl (Nat.le_of_ble_eq_true rfl) ?_
  intro p e s m below meth c A B hin hI ls hl
  have hl : lv_has ls 4 [(0, .ref (a 0)), (1, .int x1), (2, .int x2)] := hl
  generalize ([.ref (a 0), .int x1, .int x2] : List Value).toArray = args at B ⊢
  have hx := B.1.1
  have hb := B.1.2.1
  have hown : s.vm.findClass RX8 = some m.cls := B.1.2.2.2.1
  have hts := B.1.2.2.2.2
  unfold f_X8_hem at h
  refine lv_aload_n hx hb dX8_hem_0 rfl (lv_at hl 0 rfl) ?_
  refine gw_get (T := TX8) (k := 1) (v := .ref (a 3)) B hI gc_g0 rfl ly_X8_hem_8 (by decide) m_X8_hem_19 rfl rfl dX8_hem_1 ?_
  refine lv_iload_n hx hb dX8_hem_4 rfl (lv_at hl 1 rfl) ?_
  obtain ⟨r1, e2, h⟩ := gw_bdE h
  refine gw_callV (As := [.int x1]) (n := 1) B hI (k_X2_pieceAt x1 S e2) gX8_hem_X2_pieceAt rfl rfl rfl nd_X2_pieceAt ⟨Nat.le_of_ble_eq_true rfl, Nat.le_of_ble_eq_true rfl⟩ gc_g3 rfl rfl rfl hl.1 (Nat.zero_le _) dX8_hem_5 ⟨Nat.le_of_ble_eq_true rfl, Nat.le_of_ble_eq_true rfl⟩ rfl (fun w' H locs hw hI => ?_)
  subst hw
  refine gw_astore_n (lv' := [(3, va_rf (gw_rf b r1)), (0, .ref (a 0)), (1, .int x1), (2, .int x2)]) B dX8_hem_8 rfl hl (by decide) rfl (fun ls hl => ?_)
  refine gw_aload_n B dX8_hem_9 rfl (lv_at hl 0 rfl) ?_
  refine gw_ifnull (tgt := 22) B dX8_hem_10 (by decide) (fun c3 => ?_) (fun c3 => ?_)
  · replace h := gw_ifT c3 h
    refine lv_iconst (v := -1) hx hb dX8_hem_22 (by decide) ?_
    obtain ⟨h1, h2⟩ := Prod.mk.inj (Option.some.inj h)
    rw [h2] at hI
    rw [← h1]
    exact gw_iret (W' := (fun w => w = gw_cw cc a b d zS)) B hI rfl (Nat.zero_le _) (Nat.zero_le _) dX8_hem_23
  · replace h := gw_ifF c3 h
    refine lv_iload_n hx hb dX8_hem_13 rfl (lv_at hl 3 rfl) ?_
    refine lv_iconst (v := 1) hx hb dX8_hem_14 (by decide) ?_
    refine lv_iconst (v := 3) hx hb dX8_hem_15 (by decide) ?_
    obtain ⟨r4, e5, h⟩ := gw_bdE h
    refine gw_callS (As := [.int x2, .int (1 : Int32), .int (3 : Int32)]) (n := 3) B hI (k_X8_isIn x2 (1 : Int32) (3 : Int32) S e5) gX8_hem_X8_isIn rfl rfl rfl nds_X8_isIn ⟨Nat.le_of_ble_eq_true rfl, Nat.le_of_ble_eq_true rfl⟩ rfl hl.1 (Nat.zero_le _) dX8_hem_16 ⟨Nat.le_of_ble_eq_true rfl, Nat.le_of_ble_eq_true rfl⟩ rfl (fun w' H locs hw hI => ?_)
    subst hw
    refine lv_if_ne (tgt := 24) hx hb dX8_hem_19 (by decide) (fun c6 => ?_) (fun c6 => ?_)
    · replace h := gw_ifF c6 h
      refine gw_aload_n B dX8_hem_24 rfl (lv_at hl 0 rfl) ?_
      rw [gw_rfP c3]
      obtain ⟨g7, h⟩ := gw_gdE h
      refine gw_getN (T := TX4) (k := 0) (v := .int (S (2 * r1.toNatClampNeg + 30) 0)) B hI (gc_gp g7) rfl ly_X8_hem_4 (by decide) n_RX8_100 rfl rfl dX8_hem_25 ?_
      refine lv_iconst (v := 1) hx hb dX8_hem_28 (by decide) ?_
      refine lv_icmp_eq (tgt := 35) hx hb dX8_hem_29 (by decide) (fun c8 => ?_) (fun c8 => ?_)
      · replace h := gw_ifT c8 h
        refine gw_aload_n B dX8_hem_35 rfl (lv_at hl 0 rfl) ?_
        rw [gw_rfP c3]
        refine gw_getN (T := TX4) (k := 8) (v := .int (S (2 * r1.toNatClampNeg + 30) 8)) B hI (gc_gp g7) rfl ly_X8_hem_4 (by decide) n_RX8_103 rfl rfl dX8_hem_36 ?_
        refine lv_if_eq (tgt := 45) hx hb dX8_hem_39 (by decide) (fun c9 => ?_) (fun c9 => ?_)
        · replace h := gw_ifT c9 h
          refine gw_aload_n B dX8_hem_45 rfl (lv_at hl 0 rfl) ?_
          refine lv_iload_n hx hb dX8_hem_46 rfl (lv_at hl 3 rfl) ?_
          rw [gw_rfP c3]
          obtain ⟨S10, e11, h⟩ := gw_letE h
          refine gw_putN (T := TX4) (k := 8) (w' := gw_cw cc a b d S10) B hI (gc_gp g7) rfl ly_X8_hem_4 tyX4 tyX4_ok nmX4 (by decide) n_RX8_103 rfl rfl rfl rfl (Nat.le_of_ble_eq_true rfl) (gc_sp_8 g7 e11) dX8_hem_47 (fun H locs hI => ?_)
          refine lv_iconst (v := 1) hx hb dX8_hem_50 (by decide) ?_
          obtain ⟨h1, h2⟩ := Prod.mk.inj (Option.some.inj h)
          rw [h2] at hI
          rw [← h1]
          exact gw_iret (W' := (fun w => w = gw_cw cc a b d zS)) B hI rfl (Nat.zero_le _) (Nat.zero_le _) dX8_hem_51
        · replace h := gw_ifF c9 h
          refine lv_bipush (v := -2) hx hb dX8_hem_42 (by decide) ?_
          obtain ⟨h1, h2⟩ := Prod.mk.inj (Option.some.inj h)
          rw [h2] at hI
          rw [← h1]
          exact gw_iret (W' := (fun w => w = gw_cw cc a b d zS)) B hI rfl (Nat.zero_le _) (Nat.zero_le _) dX8_hem_44
      · replace h := gw_ifF c8 h
        refine lv_bipush (v := -12) hx hb dX8_hem_32 (by decide) ?_
        obtain ⟨h1, h2⟩ := Prod.mk.inj (Option.some.inj h)
        rw [h2] at hI
        rw [← h1]
        exact gw_iret (W' := (fun w => w = gw_cw cc a b d zS)) B hI rfl (Nat.zero_le _) (Nat.zero_le _) dX8_hem_34
    · replace h := gw_ifT c6 h
      refine lv_iconst (v := -1) hx hb dX8_hem_22 (by decide) ?_
      obtain ⟨h1, h2⟩ := Prod.mk.inj (Option.some.inj h)
      rw [h2] at hI
      rw [← h1]
      exact gw_iret (W' := (fun w => w = gw_cw cc a b d zS)) B hI rfl (Nat.zero_le _) (Nat.zero_le _) dX8_hem_23
theorem m_X8_told_19 : Cond.fieldLink RX8 19 "GownLet" "house" "LGownLet$House;" ∈ wsX8_told := by decide +kernel
theorem ly_X8_told_8 : ∀ w ∈ wsX80, w ∈ wsX8_told := fun w h => List.mem_cons_of_mem _ (List.mem_append_left _ (List.mem_append_left _ (List.mem_append_right _ h)))
set_option maxRecDepth 100000 in
set_option maxHeartbeats 4000000 in
theorem k_X8_told (x1 : Int32) (x2 : Int32) (S : gw_S) {zr : Int32} (h : f_X8_told x1 x2 S = some zr) : gw_M l yX8_told wsX8_told rm_X8_told 0 0 D (gw_ty cc) t1 t2 [.ref (a 0), .int x1, .int x2] (gw_cw cc a b d S) (fun w => w = gw_cw cc a b d S) (some (.int zr)) := by
  refine gw_enter (cc := cX8_told) (maxL := 4) (ret := (some .int)) (own := RX8) rfl (by decide) rfl (Nat.le_of_ble_eq_true rfl) ?_
  intro p e s m below meth c A B hin hI ls hl
  have hl : lv_has ls 4 [(0, .ref (a 0)), (1, .int x1), (2, .int x2)] := hl
  generalize ([.ref (a 0), .int x1, .int x2] : List Value).toArray = args at B ⊢
  have hx := B.1.1
  have hb := B.1.2.1
  have hown : s.vm.findClass RX8 = some m.cls := B.1.2.2.2.1
  have hts := B.1.2.2.2.2
  unfold f_X8_told at h
  refine lv_aload_n hx hb dX8_told_0 rfl (lv_at hl 0 rfl) ?_
  refine gw_get (T := TX8) (k := 1) (v := .ref (a 3)) B hI gc_g0 rfl ly_X8_told_8 (by decide) m_X8_told_19 rfl rfl dX8_told_1 ?_
  refine lv_iload_n hx hb dX8_told_4 rfl (lv_at hl 1 rfl) ?_
  obtain ⟨r1, e2, h⟩ := gw_bdE h
  refine gw_callV (As := [.int x1]) (n := 1) B hI (k_X2_pieceAt x1 S e2) gX8_told_X2_pieceAt rfl rfl rfl nd_X2_pieceAt ⟨Nat.le_of_ble_eq_true rfl, Nat.le_of_ble_eq_true rfl⟩ gc_g3 rfl rfl rfl hl.1 (Nat.zero_le _) dX8_told_5 ⟨Nat.le_of_ble_eq_true rfl, Nat.le_of_ble_eq_true rfl⟩ rfl (fun w' H locs hw hI => ?_)
  subst hw
  refine gw_astore_n (lv' := [(3, va_rf (gw_rf b r1)), (0, .ref (a 0)), (1, .int x1), (2, .int x2)]) B dX8_told_8 rfl hl (by decide) rfl (fun ls hl => ?_)
  refine gw_aload_n B dX8_told_9 rfl (lv_at hl 0 rfl) ?_
  refine gw_ifnull (tgt := 23) B dX8_told_10 (by decide) (fun c3 => ?_) (fun c3 => ?_)
  · replace h := gw_ifT c3 h
    refine lv_iconst (v := -1) hx hb dX8_told_23 (by decide) ?_
    rw [← Option.some.inj h]
    exact gw_iret (W' := (fun w => w = gw_cw cc a b d S)) B hI rfl (Nat.zero_le _) (Nat.zero_le _) dX8_told_24
  · replace h := gw_ifF c3 h
    refine lv_iload_n hx hb dX8_told_13 rfl (lv_at hl 3 rfl) ?_
    refine lv_iconst (v := 0) hx hb dX8_told_14 (by decide) ?_
    refine lv_bipush (v := 9) hx hb dX8_told_15 (by decide) ?_
    obtain ⟨r4, e5, h⟩ := gw_bdE h
    refine gw_callS (As := [.int x2, .int (0 : Int32), .int (9 : Int32)]) (n := 3) B hI (k_X8_isIn x2 (0 : Int32) (9 : Int32) S e5) gX8_told_X8_isIn rfl rfl rfl nds_X8_isIn ⟨Nat.le_of_ble_eq_true rfl, Nat.le_of_ble_eq_true rfl⟩ rfl hl.1 (Nat.zero_le _) dX8_told_17 ⟨Nat.le_of_ble_eq_true rfl, Nat.le_of_ble_eq_true rfl⟩ rfl (fun w' H locs hw hI => ?_)
    subst hw
    refine lv_if_ne (tgt := 25) hx hb dX8_told_20 (by decide) (fun c6 => ?_) (fun c6 => ?_)
    · replace h := gw_ifF c6 h
      refine gw_aload_n B dX8_told_25 rfl (lv_at hl 0 rfl) ?_
      refine lv_iload_n hx hb dX8_told_26 rfl (lv_at hl 3 rfl) ?_
      rw [gw_rfP c3]
      obtain ⟨g7, h⟩ := gw_gdE h
      obtain ⟨r8, e9, h⟩ := gw_bdE h
      refine gw_callV (As := [.int x2]) (n := 1) B hI (k_X4_detail r1 x2 S e9) gX8_told_X4_detail rfl rfl rfl nd_X4_detail ⟨Nat.le_of_ble_eq_true rfl, Nat.le_of_ble_eq_true rfl⟩ (gc_gp g7) rfl rfl rfl hl.1 (Nat.zero_le _) dX8_told_27 ⟨Nat.le_of_ble_eq_true rfl, Nat.le_of_ble_eq_true rfl⟩ rfl (fun w' H locs hw hI => ?_)
      subst hw
      rw [← Option.some.inj h]
      exact gw_iret (W' := (fun w => w = gw_cw cc a b d S)) B hI rfl (Nat.zero_le _) (Nat.zero_le _) dX8_told_30
    · replace h := gw_ifT c6 h
      refine lv_iconst (v := -1) hx hb dX8_told_23 (by decide) ?_
      rw [← Option.some.inj h]
      exact gw_iret (W' := (fun w => w = gw_cw cc a b d S)) B hI rfl (Nat.zero_le _) (Nat.zero_le _) dX8_told_24
theorem m_X8_same_19 : Cond.fieldLink RX8 19 "GownLet" "house" "LGownLet$House;" ∈ wsX8_same := by decide +kernel
theorem ly_X8_same_2 : ∀ w ∈ wsX20, w ∈ wsX8_same := fun w h => List.mem_cons_of_mem _ (List.mem_append_left _ (List.mem_append_right _ h))
theorem ly_X8_same_3 : ∀ w ∈ wsX30, w ∈ wsX8_same := fun w h => List.mem_cons_of_mem _ (List.mem_append_right _ h)
theorem ly_X8_same_8 : ∀ w ∈ wsX80, w ∈ wsX8_same := fun w h => List.mem_cons_of_mem _ (List.mem_append_left _ (List.mem_append_left _ (List.mem_append_right _ h)))
set_option maxRecDepth 100000 in
set_option maxHeartbeats 4000000 in
theorem k_X8_same (x1 : Int32) (x2 : Int32) (x3 : Int32) (x4 : Int32) (S : gw_S) {zr : Int32} {zS : gw_S} (h : f_X8_same x1 x2 x3 x4 S = some (zr, zS)) : gw_M l yX8_same wsX8_same rm_X8_same 0 0 D (gw_ty cc) t1 t2 [.ref (a 0), .int x1, .int x2, .int x3, .int x4] (gw_cw cc a b d S) (fun w => w = gw_cw cc a b d zS) (some (.int zr)) := by
  refine gw_enter (cc := cX8_same) (maxL := 5) (ret := (some .int)) (own := RX8) rfl (by decide) rfl (Nat.le_of_ble_eq_true rfl) ?_
  intro p e s m below meth c A B hin hI ls hl
  have hl : lv_has ls 5 [(0, .ref (a 0)), (1, .int x1), (2, .int x2), (3, .int x3), (4, .int x4)] := hl
  generalize ([.ref (a 0), .int x1, .int x2, .int x3, .int x4] : List Value).toArray = args at B ⊢
  have hx := B.1.1
  have hb := B.1.2.1
  have hown : s.vm.findClass RX8 = some m.cls := B.1.2.2.2.1
  have hts := B.1.2.2.2.2
  unfold f_X8_same at h
  refine lv_iload_n hx hb dX8_same_0 rfl (lv_at hl 1 rfl) ?_
  obtain ⟨r1, e2, h⟩ := gw_bdE h
  refine gw_callS (As := [.int x1]) (n := 1) B hI (k_X8_isMaker x1 S e2) gX8_same_X8_isMaker rfl rfl rfl nds_X8_isMaker ⟨Nat.le_of_ble_eq_true rfl, Nat.le_of_ble_eq_true rfl⟩ rfl hl.1 (Nat.zero_le _) dX8_same_1 ⟨Nat.le_of_ble_eq_true rfl, Nat.le_of_ble_eq_true rfl⟩ rfl (fun w' H locs hw hI => ?_)
  subst hw
  refine lv_if_eq (tgt := 34) hx hb dX8_same_4 (by decide) (fun c3 => ?_) (fun c3 => ?_)
  · replace h := gw_ifT c3 h
    refine lv_iconst (v := -1) hx hb dX8_same_34 (by decide) ?_
    obtain ⟨h1, h2⟩ := Prod.mk.inj (Option.some.inj h)
    rw [h2] at hI
    rw [← h1]
    exact gw_iret (W' := (fun w => w = gw_cw cc a b d zS)) B hI rfl (Nat.zero_le _) (Nat.zero_le _) dX8_same_35
  · replace h := gw_ifF c3 h
    refine lv_iload_n hx hb dX8_same_7 rfl (lv_at hl 3 rfl) ?_
    obtain ⟨r4, e5, h⟩ := gw_bdE h
    refine gw_callS (As := [.int x3]) (n := 1) B hI (k_X8_isMaker x3 S e5) gX8_same_X8_isMaker rfl rfl rfl nds_X8_isMaker ⟨Nat.le_of_ble_eq_true rfl, Nat.le_of_ble_eq_true rfl⟩ rfl hl.1 (Nat.zero_le _) dX8_same_8 ⟨Nat.le_of_ble_eq_true rfl, Nat.le_of_ble_eq_true rfl⟩ rfl (fun w' H locs hw hI => ?_)
    subst hw
    refine lv_if_eq (tgt := 34) hx hb dX8_same_11 (by decide) (fun c6 => ?_) (fun c6 => ?_)
    · replace h := gw_ifT c6 h
      refine lv_iconst (v := -1) hx hb dX8_same_34 (by decide) ?_
      obtain ⟨h1, h2⟩ := Prod.mk.inj (Option.some.inj h)
      rw [h2] at hI
      rw [← h1]
      exact gw_iret (W' := (fun w => w = gw_cw cc a b d zS)) B hI rfl (Nat.zero_le _) (Nat.zero_le _) dX8_same_35
    · replace h := gw_ifF c6 h
      refine lv_iload_n hx hb dX8_same_14 rfl (lv_at hl 1 rfl) ?_
      refine lv_iload_n hx hb dX8_same_15 rfl (lv_at hl 3 rfl) ?_
      refine lv_icmp_eq (tgt := 34) hx hb dX8_same_16 (by decide) (fun c7 => ?_) (fun c7 => ?_)
      · replace h := gw_ifT c7 h
        refine lv_iconst (v := -1) hx hb dX8_same_34 (by decide) ?_
        obtain ⟨h1, h2⟩ := Prod.mk.inj (Option.some.inj h)
        rw [h2] at hI
        rw [← h1]
        exact gw_iret (W' := (fun w => w = gw_cw cc a b d zS)) B hI rfl (Nat.zero_le _) (Nat.zero_le _) dX8_same_35
      · replace h := gw_ifF c7 h
        refine lv_iload_n hx hb dX8_same_19 rfl (lv_at hl 2 rfl) ?_
        obtain ⟨r8, e9, h⟩ := gw_bdE h
        refine gw_callS (As := [.int x2]) (n := 1) B hI (k_X8_isLabel x2 S e9) gX8_same_X8_isLabel rfl rfl rfl nds_X8_isLabel ⟨Nat.le_of_ble_eq_true rfl, Nat.le_of_ble_eq_true rfl⟩ rfl hl.1 (Nat.zero_le _) dX8_same_20 ⟨Nat.le_of_ble_eq_true rfl, Nat.le_of_ble_eq_true rfl⟩ rfl (fun w' H locs hw hI => ?_)
        subst hw
        refine lv_if_eq (tgt := 34) hx hb dX8_same_23 (by decide) (fun c10 => ?_) (fun c10 => ?_)
        · replace h := gw_ifT c10 h
          refine lv_iconst (v := -1) hx hb dX8_same_34 (by decide) ?_
          obtain ⟨h1, h2⟩ := Prod.mk.inj (Option.some.inj h)
          rw [h2] at hI
          rw [← h1]
          exact gw_iret (W' := (fun w => w = gw_cw cc a b d zS)) B hI rfl (Nat.zero_le _) (Nat.zero_le _) dX8_same_35
        · replace h := gw_ifF c10 h
          refine lv_iload hx hb dX8_same_26 (lv_at hl 4 rfl) ?_
          obtain ⟨r11, e12, h⟩ := gw_bdE h
          refine gw_callS (As := [.int x4]) (n := 1) B hI (k_X8_isLabel x4 S e12) gX8_same_X8_isLabel rfl rfl rfl nds_X8_isLabel ⟨Nat.le_of_ble_eq_true rfl, Nat.le_of_ble_eq_true rfl⟩ rfl hl.1 (Nat.zero_le _) dX8_same_28 ⟨Nat.le_of_ble_eq_true rfl, Nat.le_of_ble_eq_true rfl⟩ rfl (fun w' H locs hw hI => ?_)
          subst hw
          refine lv_if_ne (tgt := 36) hx hb dX8_same_31 (by decide) (fun c13 => ?_) (fun c13 => ?_)
          · replace h := gw_ifF c13 h
            refine lv_aload_n hx hb dX8_same_36 rfl (lv_at hl 0 rfl) ?_
            refine gw_get (T := TX8) (k := 1) (v := .ref (a 3)) B hI gc_g0 rfl ly_X8_same_8 (by decide) m_X8_same_19 rfl rfl dX8_same_37 ?_
            refine gw_getN (T := TX2) (k := 1) (v := .ref (a 7)) B hI gc_g3 rfl ly_X8_same_2 (by decide) n_RX8_115 rfl rfl dX8_same_40 ?_
            refine gw_getN (T := TX3) (k := 3) (v := .int (S 7 3)) B hI gc_g7 rfl ly_X8_same_3 (by decide) n_RX8_119 rfl rfl dX8_same_43 ?_
            refine lv_bipush (v := 20) hx hb dX8_same_46 (by decide) ?_
            refine lv_icmp_lt (tgt := 54) hx hb dX8_same_48 (by decide) (fun c14 => ?_) (fun c14 => ?_)
            · replace h := gw_ifT c14 h
              refine lv_aload_n hx hb dX8_same_54 rfl (lv_at hl 0 rfl) ?_
              refine gw_get (T := TX8) (k := 1) (v := .ref (a 3)) B hI gc_g0 rfl ly_X8_same_8 (by decide) m_X8_same_19 rfl rfl dX8_same_55 ?_
              refine gw_getN (T := TX2) (k := 1) (v := .ref (a 7)) B hI gc_g3 rfl ly_X8_same_2 (by decide) n_RX8_115 rfl rfl dX8_same_58 ?_
              refine lv_iload_n hx hb dX8_same_61 rfl (lv_at hl 1 rfl) ?_
              refine lv_iload_n hx hb dX8_same_62 rfl (lv_at hl 2 rfl) ?_
              refine lv_iload_n hx hb dX8_same_63 rfl (lv_at hl 3 rfl) ?_
              refine lv_iload hx hb dX8_same_64 (lv_at hl 4 rfl) ?_
              obtain ⟨S15, e16, h⟩ := gw_bdE h
              refine gw_callVv (As := [.int x1, .int x2, .int x3, .int x4]) (n := 4) B hI (k_X3_learn x1 x2 x3 x4 S e16) gX8_same_X3_learn rfl rfl rfl nd_X3_learn ⟨Nat.le_of_ble_eq_true rfl, Nat.le_of_ble_eq_true rfl⟩ gc_g7 rfl rfl rfl hl.1 (Nat.zero_le _) dX8_same_66 ⟨Nat.le_of_ble_eq_true rfl, Nat.le_of_ble_eq_true rfl⟩ rfl (fun w' H locs hw hI => ?_)
              subst hw
              refine lv_aload_n hx hb dX8_same_69 rfl (lv_at hl 0 rfl) ?_
              refine gw_get (T := TX8) (k := 1) (v := .ref (a 3)) B hI gc_g0 rfl ly_X8_same_8 (by decide) m_X8_same_19 rfl rfl dX8_same_70 ?_
              refine gw_getN (T := TX2) (k := 1) (v := .ref (a 7)) B hI gc_g3 rfl ly_X8_same_2 (by decide) n_RX8_115 rfl rfl dX8_same_73 ?_
              refine gw_getN (T := TX3) (k := 3) (v := .int (S15 7 3)) B hI gc_g7 rfl ly_X8_same_3 (by decide) n_RX8_119 rfl rfl dX8_same_76 ?_
              refine lv_iconst (v := 1) hx hb dX8_same_79 (by decide) ?_
              refine lv_isub hx hb dX8_same_80 ?_
              obtain ⟨h1, h2⟩ := Prod.mk.inj (Option.some.inj h)
              rw [h2] at hI
              rw [← h1]
              exact gw_iret (W' := (fun w => w = gw_cw cc a b d zS)) B hI rfl (Nat.zero_le _) (Nat.zero_le _) dX8_same_81
            · replace h := gw_ifF c14 h
              refine lv_bipush (v := -3) hx hb dX8_same_51 (by decide) ?_
              obtain ⟨h1, h2⟩ := Prod.mk.inj (Option.some.inj h)
              rw [h2] at hI
              rw [← h1]
              exact gw_iret (W' := (fun w => w = gw_cw cc a b d zS)) B hI rfl (Nat.zero_le _) (Nat.zero_le _) dX8_same_53
          · replace h := gw_ifT c13 h
            refine lv_iconst (v := -1) hx hb dX8_same_34 (by decide) ?_
            obtain ⟨h1, h2⟩ := Prod.mk.inj (Option.some.inj h)
            rw [h2] at hI
            rw [← h1]
            exact gw_iret (W' := (fun w => w = gw_cw cc a b d zS)) B hI rfl (Nat.zero_le _) (Nat.zero_le _) dX8_same_35
theorem m_X8_lie_19 : Cond.fieldLink RX8 19 "GownLet" "house" "LGownLet$House;" ∈ wsX8_lie := by decide +kernel
theorem ly_X8_lie_2 : ∀ w ∈ wsX20, w ∈ wsX8_lie := fun w h => List.mem_cons_of_mem _ (List.mem_append_left _ (List.mem_append_right _ h))
theorem ly_X8_lie_8 : ∀ w ∈ wsX80, w ∈ wsX8_lie := fun w h => List.mem_cons_of_mem _ (List.mem_append_left _ (List.mem_append_left _ (List.mem_append_right _ h)))
set_option maxRecDepth 100000 in
set_option maxHeartbeats 4000000 in
theorem k_X8_lie (x1 : Int32) (x2 : Int32) (S : gw_S) {zr : Int32} (h : f_X8_lie x1 x2 S = some zr) : gw_M l yX8_lie wsX8_lie rm_X8_lie 0 0 D (gw_ty cc) t1 t2 [.ref (a 0), .int x1, .int x2] (gw_cw cc a b d S) (fun w => w = gw_cw cc a b d S) (some (.int zr)) := by
  refine gw_enter (cc := cX8_lie) (maxL := 3) (ret := (some .int)) (own := RX8) rfl (by decide) rfl (Nat.le_of_ble_eq_true rfl) ?_
  intro p e s m below meth c A B hin hI ls hl
  have hl : lv_has ls 3 [(0, .ref (a 0)), (1, .int x1), (2, .int x2)] := hl
  generalize ([.ref (a 0), .int x1, .int x2] : List Value).toArray = args at B ⊢
  have hx := B.1.1
  have hb := B.1.2.1
  have hown : s.vm.findClass RX8 = some m.cls := B.1.2.2.2.1
  have hts := B.1.2.2.2.2
  unfold f_X8_lie at h
  refine lv_iload_n hx hb dX8_lie_0 rfl (lv_at hl 1 rfl) ?_
  obtain ⟨r1, e2, h⟩ := gw_bdE h
  refine gw_callS (As := [.int x1]) (n := 1) B hI (k_X8_isMaker x1 S e2) gX8_lie_X8_isMaker rfl rfl rfl nds_X8_isMaker ⟨Nat.le_of_ble_eq_true rfl, Nat.le_of_ble_eq_true rfl⟩ rfl hl.1 (Nat.zero_le _) dX8_lie_1 ⟨Nat.le_of_ble_eq_true rfl, Nat.le_of_ble_eq_true rfl⟩ rfl (fun w' H locs hw hI => ?_)
  subst hw
  refine lv_if_eq (tgt := 16) hx hb dX8_lie_4 (by decide) (fun c3 => ?_) (fun c3 => ?_)
  · replace h := gw_ifT c3 h
    refine lv_bipush (v := -101) hx hb dX8_lie_16 (by decide) ?_
    rw [← Option.some.inj h]
    exact gw_iret (W' := (fun w => w = gw_cw cc a b d S)) B hI rfl (Nat.zero_le _) (Nat.zero_le _) dX8_lie_18
  · replace h := gw_ifF c3 h
    refine lv_iload_n hx hb dX8_lie_7 rfl (lv_at hl 2 rfl) ?_
    refine lv_iconst (v := 0) hx hb dX8_lie_8 (by decide) ?_
    refine lv_iconst (v := 1) hx hb dX8_lie_9 (by decide) ?_
    obtain ⟨r4, e5, h⟩ := gw_bdE h
    refine gw_callS (As := [.int x2, .int (0 : Int32), .int (1 : Int32)]) (n := 3) B hI (k_X8_isIn x2 (0 : Int32) (1 : Int32) S e5) gX8_lie_X8_isIn rfl rfl rfl nds_X8_isIn ⟨Nat.le_of_ble_eq_true rfl, Nat.le_of_ble_eq_true rfl⟩ rfl hl.1 (Nat.zero_le _) dX8_lie_10 ⟨Nat.le_of_ble_eq_true rfl, Nat.le_of_ble_eq_true rfl⟩ rfl (fun w' H locs hw hI => ?_)
    subst hw
    refine lv_if_ne (tgt := 19) hx hb dX8_lie_13 (by decide) (fun c6 => ?_) (fun c6 => ?_)
    · replace h := gw_ifF c6 h
      refine lv_iload_n hx hb dX8_lie_19 rfl (lv_at hl 2 rfl) ?_
      refine lv_if_ne (tgt := 37) hx hb dX8_lie_20 (by decide) (fun c7 => ?_) (fun c7 => ?_)
      · replace h := gw_ifF c7 h
        refine lv_aload_n hx hb dX8_lie_37 rfl (lv_at hl 0 rfl) ?_
        refine gw_get (T := TX8) (k := 1) (v := .ref (a 3)) B hI gc_g0 rfl ly_X8_lie_8 (by decide) m_X8_lie_19 rfl rfl dX8_lie_38 ?_
        refine gw_getN (T := TX2) (k := 1) (v := .ref (a 7)) B hI gc_g3 rfl ly_X8_lie_2 (by decide) n_RX8_115 rfl rfl dX8_lie_41 ?_
        refine lv_iload_n hx hb dX8_lie_44 rfl (lv_at hl 1 rfl) ?_
        obtain ⟨r8, e9, h⟩ := gw_bdE h
        refine gw_callV (As := [.int x1]) (n := 1) B hI (k_X3_high x1 S e9) gX8_lie_X3_high rfl rfl rfl nd_X3_high ⟨Nat.le_of_ble_eq_true rfl, Nat.le_of_ble_eq_true rfl⟩ gc_g7 rfl rfl rfl hl.1 (Nat.zero_le _) dX8_lie_45 ⟨Nat.le_of_ble_eq_true rfl, Nat.le_of_ble_eq_true rfl⟩ rfl (fun w' H locs hw hI => ?_)
        subst hw
        rw [← Option.some.inj h]
        exact gw_iret (W' := (fun w => w = gw_cw cc a b d S)) B hI rfl (Nat.zero_le _) (Nat.zero_le _) dX8_lie_48
      · replace h := gw_ifT c7 h
        refine lv_aload_n hx hb dX8_lie_23 rfl (lv_at hl 0 rfl) ?_
        refine gw_get (T := TX8) (k := 1) (v := .ref (a 3)) B hI gc_g0 rfl ly_X8_lie_8 (by decide) m_X8_lie_19 rfl rfl dX8_lie_24 ?_
        refine gw_getN (T := TX2) (k := 1) (v := .ref (a 7)) B hI gc_g3 rfl ly_X8_lie_2 (by decide) n_RX8_115 rfl rfl dX8_lie_27 ?_
        refine lv_iload_n hx hb dX8_lie_30 rfl (lv_at hl 1 rfl) ?_
        obtain ⟨r10, e11, h⟩ := gw_bdE h
        refine gw_callV (As := [.int x1]) (n := 1) B hI (k_X3_low x1 S e11) gX8_lie_X3_low rfl rfl rfl nd_X3_low ⟨Nat.le_of_ble_eq_true rfl, Nat.le_of_ble_eq_true rfl⟩ gc_g7 rfl rfl rfl hl.1 (Nat.zero_le _) dX8_lie_31 ⟨Nat.le_of_ble_eq_true rfl, Nat.le_of_ble_eq_true rfl⟩ rfl (fun w' H locs hw hI => ?_)
        subst hw
        refine lv_goto (tgt := 48) hx hb dX8_lie_34 (by decide) ?_
        rw [← Option.some.inj h]
        exact gw_iret (W' := (fun w => w = gw_cw cc a b d S)) B hI rfl (Nat.zero_le _) (Nat.zero_le _) dX8_lie_48
    · replace h := gw_ifT c6 h
      refine lv_bipush (v := -101) hx hb dX8_lie_16 (by decide) ?_
      rw [← Option.some.inj h]
      exact gw_iret (W' := (fun w => w = gw_cw cc a b d S)) B hI rfl (Nat.zero_le _) (Nat.zero_le _) dX8_lie_18
theorem m_X8_quarrel_19 : Cond.fieldLink RX8 19 "GownLet" "house" "LGownLet$House;" ∈ wsX8_quarrel := by decide +kernel
theorem ly_X8_quarrel_2 : ∀ w ∈ wsX20, w ∈ wsX8_quarrel := fun w h => List.mem_cons_of_mem _ (List.mem_append_left _ (List.mem_append_right _ h))
theorem ly_X8_quarrel_3 : ∀ w ∈ wsX30, w ∈ wsX8_quarrel := fun w h => List.mem_cons_of_mem _ (List.mem_append_right _ h)
theorem ly_X8_quarrel_8 : ∀ w ∈ wsX80, w ∈ wsX8_quarrel := fun w h => List.mem_cons_of_mem _ (List.mem_append_left _ (List.mem_append_left _ (List.mem_append_right _ h)))
set_option maxRecDepth 100000 in
set_option maxHeartbeats 4000000 in
theorem k_X8_quarrel  (S : gw_S) {zr : Int32} (h : f_X8_quarrel  S = some zr) : gw_M l yX8_quarrel wsX8_quarrel rm_X8_quarrel 0 0 D (gw_ty cc) t1 t2 [.ref (a 0)] (gw_cw cc a b d S) (fun w => w = gw_cw cc a b d S) (some (.int zr)) := by
  refine gw_enter (cc := cX8_quarrel) (maxL := 1) (ret := (some .int)) (own := RX8) rfl (by decide) rfl (Nat.le_of_ble_eq_true rfl) ?_
  intro p e s m below meth c A B hin hI ls hl
  have hl : lv_has ls 1 [(0, .ref (a 0))] := hl
  generalize ([.ref (a 0)] : List Value).toArray = args at B ⊢
  have hx := B.1.1
  have hb := B.1.2.1
  have hown : s.vm.findClass RX8 = some m.cls := B.1.2.2.2.1
  have hts := B.1.2.2.2.2
  unfold f_X8_quarrel at h
  refine lv_aload_n hx hb dX8_quarrel_0 rfl (lv_at hl 0 rfl) ?_
  refine gw_get (T := TX8) (k := 1) (v := .ref (a 3)) B hI gc_g0 rfl ly_X8_quarrel_8 (by decide) m_X8_quarrel_19 rfl rfl dX8_quarrel_1 ?_
  refine gw_getN (T := TX2) (k := 1) (v := .ref (a 7)) B hI gc_g3 rfl ly_X8_quarrel_2 (by decide) n_RX8_115 rfl rfl dX8_quarrel_4 ?_
  refine gw_getN (T := TX3) (k := 4) (v := .int (S 7 4)) B hI gc_g7 rfl ly_X8_quarrel_3 (by decide) n_RX8_134 rfl rfl dX8_quarrel_7 ?_
  refine lv_if_eq (tgt := 17) hx hb dX8_quarrel_10 (by decide) (fun c1 => ?_) (fun c1 => ?_)
  · replace h := gw_ifT c1 h
    refine lv_iconst (v := 0) hx hb dX8_quarrel_17 (by decide) ?_
    rw [← Option.some.inj h]
    exact gw_iret (W' := (fun w => w = gw_cw cc a b d S)) B hI rfl (Nat.zero_le _) (Nat.zero_le _) dX8_quarrel_18
  · replace h := gw_ifF c1 h
    refine lv_iconst (v := 1) hx hb dX8_quarrel_13 (by decide) ?_
    refine lv_goto (tgt := 18) hx hb dX8_quarrel_14 (by decide) ?_
    rw [← Option.some.inj h]
    exact gw_iret (W' := (fun w => w = gw_cw cc a b d S)) B hI rfl (Nat.zero_le _) (Nat.zero_le _) dX8_quarrel_18
theorem m_X8_fits_19 : Cond.fieldLink RX8 19 "GownLet" "house" "LGownLet$House;" ∈ wsX8_fits := by decide +kernel
theorem ly_X8_fits_8 : ∀ w ∈ wsX80, w ∈ wsX8_fits := fun w h => List.mem_cons_of_mem _ (List.mem_append_left _ (List.mem_append_left _ (List.mem_append_left _ (List.mem_append_left _ (List.mem_append_right _ h)))))
set_option maxRecDepth 100000 in
set_option maxHeartbeats 4000000 in
theorem k_X8_fits (x1 : Int32) (x2 : Int32) (x3 : Int32) (S : gw_S) {zr : Int32} (h : f_X8_fits x1 x2 x3 S = some zr) : gw_M l yX8_fits wsX8_fits rm_X8_fits 0 0 D (gw_ty cc) t1 t2 [.ref (a 0), .int x1, .int x2, .int x3] (gw_cw cc a b d S) (fun w => w = gw_cw cc a b d S) (some (.int zr)) := by
  refine gw_enter (cc := cX8_fits) (maxL := 5) (ret := (some .int)) (own := RX8) rfl (by decide) rfl (Nat.le_of_ble_eq_true rfl) ?_
  intro p e s m below meth c A B hin hI ls hl
  have hl : lv_has ls 5 [(0, .ref (a 0)), (1, .int x1), (2, .int x2), (3, .int x3)] := hl
  generalize ([.ref (a 0), .int x1, .int x2, .int x3] : List Value).toArray = args at B ⊢
  have hx := B.1.1
  have hb := B.1.2.1
  have hown : s.vm.findClass RX8 = some m.cls := B.1.2.2.2.1
  have hts := B.1.2.2.2.2
  unfold f_X8_fits at h
  refine lv_aload_n hx hb dX8_fits_0 rfl (lv_at hl 0 rfl) ?_
  refine gw_get (T := TX8) (k := 1) (v := .ref (a 3)) B hI gc_g0 rfl ly_X8_fits_8 (by decide) m_X8_fits_19 rfl rfl dX8_fits_1 ?_
  refine lv_iload_n hx hb dX8_fits_4 rfl (lv_at hl 1 rfl) ?_
  obtain ⟨r1, e2, h⟩ := gw_bdE h
  refine gw_callV (As := [.int x1]) (n := 1) B hI (k_X2_pieceAt x1 S e2) gX8_fits_X2_pieceAt rfl rfl rfl nd_X2_pieceAt ⟨Nat.le_of_ble_eq_true rfl, Nat.le_of_ble_eq_true rfl⟩ gc_g3 rfl rfl rfl hl.1 (Nat.zero_le _) dX8_fits_5 ⟨Nat.le_of_ble_eq_true rfl, Nat.le_of_ble_eq_true rfl⟩ rfl (fun w' H locs hw hI => ?_)
  subst hw
  refine gw_astore (lv' := [(4, va_rf (gw_rf b r1)), (0, .ref (a 0)), (1, .int x1), (2, .int x2), (3, .int x3)]) B dX8_fits_8 hl (by decide) rfl (fun ls hl => ?_)
  refine gw_aload B dX8_fits_10 (lv_at hl 0 rfl) ?_
  refine gw_ifnull (tgt := 31) B dX8_fits_12 (by decide) (fun c3 => ?_) (fun c3 => ?_)
  · replace h := gw_ifT c3 h
    refine lv_iconst (v := -1) hx hb dX8_fits_31 (by decide) ?_
    rw [← Option.some.inj h]
    exact gw_iret (W' := (fun w => w = gw_cw cc a b d S)) B hI rfl (Nat.zero_le _) (Nat.zero_le _) dX8_fits_32
  · replace h := gw_ifF c3 h
    refine lv_iload_n hx hb dX8_fits_15 rfl (lv_at hl 3 rfl) ?_
    obtain ⟨r4, e5, h⟩ := gw_bdE h
    refine gw_callS (As := [.int x2]) (n := 1) B hI (k_X8_isLabel x2 S e5) gX8_fits_X8_isLabel rfl rfl rfl nds_X8_isLabel ⟨Nat.le_of_ble_eq_true rfl, Nat.le_of_ble_eq_true rfl⟩ rfl hl.1 (Nat.zero_le _) dX8_fits_16 ⟨Nat.le_of_ble_eq_true rfl, Nat.le_of_ble_eq_true rfl⟩ rfl (fun w' H locs hw hI => ?_)
    subst hw
    refine lv_if_eq (tgt := 31) hx hb dX8_fits_19 (by decide) (fun c6 => ?_) (fun c6 => ?_)
    · replace h := gw_ifT c6 h
      refine lv_iconst (v := -1) hx hb dX8_fits_31 (by decide) ?_
      rw [← Option.some.inj h]
      exact gw_iret (W' := (fun w => w = gw_cw cc a b d S)) B hI rfl (Nat.zero_le _) (Nat.zero_le _) dX8_fits_32
    · replace h := gw_ifF c6 h
      refine lv_iload_n hx hb dX8_fits_22 rfl (lv_at hl 4 rfl) ?_
      refine lv_iconst (v := 0) hx hb dX8_fits_23 (by decide) ?_
      refine lv_iconst (v := 2) hx hb dX8_fits_24 (by decide) ?_
      obtain ⟨r7, e8, h⟩ := gw_bdE h
      refine gw_callS (As := [.int x3, .int (0 : Int32), .int (2 : Int32)]) (n := 3) B hI (k_X8_isIn x3 (0 : Int32) (2 : Int32) S e8) gX8_fits_X8_isIn rfl rfl rfl nds_X8_isIn ⟨Nat.le_of_ble_eq_true rfl, Nat.le_of_ble_eq_true rfl⟩ rfl hl.1 (Nat.zero_le _) dX8_fits_25 ⟨Nat.le_of_ble_eq_true rfl, Nat.le_of_ble_eq_true rfl⟩ rfl (fun w' H locs hw hI => ?_)
      subst hw
      refine lv_if_ne (tgt := 33) hx hb dX8_fits_28 (by decide) (fun c9 => ?_) (fun c9 => ?_)
      · replace h := gw_ifF c9 h
        refine lv_aload_n hx hb dX8_fits_33 rfl (lv_at hl 1 rfl) ?_
        refine gw_get (T := TX8) (k := 1) (v := .ref (a 3)) B hI gc_g0 rfl ly_X8_fits_8 (by decide) m_X8_fits_19 rfl rfl dX8_fits_34 ?_
        refine gw_aload B dX8_fits_37 (lv_at hl 0 rfl) ?_
        refine lv_iload_n hx hb dX8_fits_39 rfl (lv_at hl 3 rfl) ?_
        refine lv_iload_n hx hb dX8_fits_40 rfl (lv_at hl 4 rfl) ?_
        obtain ⟨r10, e11, h⟩ := gw_bdE h
        refine gw_callV (As := [va_rf (gw_rf b r1), .int x2, .int x3]) (n := 3) B hI (k_X2_fitOf r1 x2 x3 S e11) gX8_fits_X2_fitOf rfl rfl rfl nd_X2_fitOf ⟨Nat.le_of_ble_eq_true rfl, Nat.le_of_ble_eq_true rfl⟩ gc_g3 rfl rfl rfl hl.1 (Nat.zero_le _) dX8_fits_41 ⟨Nat.le_of_ble_eq_true rfl, Nat.le_of_ble_eq_true rfl⟩ rfl (fun w' H locs hw hI => ?_)
        subst hw
        rw [← Option.some.inj h]
        exact gw_iret (W' := (fun w => w = gw_cw cc a b d S)) B hI rfl (Nat.zero_le _) (Nat.zero_le _) dX8_fits_44
      · replace h := gw_ifT c9 h
        refine lv_iconst (v := -1) hx hb dX8_fits_31 (by decide) ?_
        rw [← Option.some.inj h]
        exact gw_iret (W' := (fun w => w = gw_cw cc a b d S)) B hI rfl (Nat.zero_le _) (Nat.zero_le _) dX8_fits_32
set_option maxRecDepth 100000 in
set_option maxHeartbeats 4000000 in
theorem k_X8_isDay (x0 : Int32) (S : gw_S) {zr : Int32} (h : f_X8_isDay x0 S = some zr) : gw_M l yX8_isDay wsX8_isDay rm_X8_isDay 0 0 D (gw_ty cc) t1 t2 [.int x0] (gw_cw cc a b d S) (fun w => w = gw_cw cc a b d S) (some (.int zr)) := by
  refine gw_enter (cc := cX8_isDay) (maxL := 1) (ret := (some .boolean)) (own := RX8) rfl (by decide) rfl (Nat.le_of_ble_eq_true rfl) ?_
  intro p e s m below meth c A B hin hI ls hl
  have hl : lv_has ls 1 [(0, .int x0)] := hl
  generalize ([.int x0] : List Value).toArray = args at B ⊢
  have hx := B.1.1
  have hb := B.1.2.1
  have hown : s.vm.findClass RX8 = some m.cls := B.1.2.2.2.1
  have hts := B.1.2.2.2.2
  unfold f_X8_isDay at h
  refine lv_iload_n hx hb dX8_isDay_0 rfl (lv_at hl 0 rfl) ?_
  refine lv_iconst (v := 0) hx hb dX8_isDay_1 (by decide) ?_
  refine lv_sipush (v := 399) hx hb dX8_isDay_2 (by decide) ?_
  obtain ⟨r1, e2, h⟩ := gw_bdE h
  refine gw_callS (As := [.int x0, .int (0 : Int32), .int (399 : Int32)]) (n := 3) B hI (k_X8_isIn x0 (0 : Int32) (399 : Int32) S e2) gX8_isDay_X8_isIn rfl rfl rfl nds_X8_isIn ⟨Nat.le_of_ble_eq_true rfl, Nat.le_of_ble_eq_true rfl⟩ rfl hl.1 (Nat.zero_le _) dX8_isDay_5 ⟨Nat.le_of_ble_eq_true rfl, Nat.le_of_ble_eq_true rfl⟩ rfl (fun w' H locs hw hI => ?_)
  subst hw
  obtain ⟨g3, h⟩ := gw_gdE h
  rw [← Option.some.inj h]
  exact gw_zret (W' := (fun w => w = gw_cw cc a b d S)) B hI rfl g3 (Nat.zero_le _) (Nat.zero_le _) dX8_isDay_8
set_option maxRecDepth 100000 in
set_option maxHeartbeats 4000000 in
theorem k_X8_isBookingAsTold (x0 : Int32) (x1 : Int32) (x2 : Int32) (x3 : Int32) (x4 : Int32) (x5 : Int32) (S : gw_S) {zr : Int32} (h : f_X8_isBookingAsTold x0 x1 x2 x3 x4 x5 S = some zr) : gw_M l yX8_isBookingAsTold wsX8_isBookingAsTold rm_X8_isBookingAsTold 0 0 D (gw_ty cc) t1 t2 [.int x0, .int x1, .int x2, .int x3, .int x4, .int x5] (gw_cw cc a b d S) (fun w => w = gw_cw cc a b d S) (some (.int zr)) := by
  refine gw_enter (cc := cX8_isBookingAsTold) (maxL := 6) (ret := (some .boolean)) (own := RX8) rfl (by decide) rfl (Nat.le_of_ble_eq_true rfl) ?_
  intro p e s m below meth c A B hin hI ls hl
  have hl : lv_has ls 6 [(0, .int x0), (1, .int x1), (2, .int x2), (3, .int x3), (4, .int x4), (5, .int x5)] := hl
  generalize ([.int x0, .int x1, .int x2, .int x3, .int x4, .int x5] : List Value).toArray = args at B ⊢
  have hx := B.1.1
  have hb := B.1.2.1
  have hown : s.vm.findClass RX8 = some m.cls := B.1.2.2.2.1
  have hts := B.1.2.2.2.2
  unfold f_X8_isBookingAsTold at h
  refine lv_iload_n hx hb dX8_isBookingAsTold_0 rfl (lv_at hl 0 rfl) ?_
  obtain ⟨r1, e2, h⟩ := gw_bdE h
  refine gw_callS (As := [.int x0]) (n := 1) B hI (k_X8_isLabel x0 S e2) gX8_isBookingAsTold_X8_isLabel rfl rfl rfl nds_X8_isLabel ⟨Nat.le_of_ble_eq_true rfl, Nat.le_of_ble_eq_true rfl⟩ rfl hl.1 (Nat.zero_le _) dX8_isBookingAsTold_1 ⟨Nat.le_of_ble_eq_true rfl, Nat.le_of_ble_eq_true rfl⟩ rfl (fun w' H locs hw hI => ?_)
  subst hw
  refine lv_if_eq (tgt := 57) hx hb dX8_isBookingAsTold_4 (by decide) (fun c3 => ?_) (fun c3 => ?_)
  · replace h := gw_ifT c3 h
    refine lv_iconst (v := 0) hx hb dX8_isBookingAsTold_57 (by decide) ?_
    rw [← Option.some.inj h]
    exact gw_zret (W' := (fun w => w = gw_cw cc a b d S)) B hI rfl (Or.inl rfl) (Nat.zero_le _) (Nat.zero_le _) dX8_isBookingAsTold_58
  · replace h := gw_ifF c3 h
    refine lv_iload_n hx hb dX8_isBookingAsTold_7 rfl (lv_at hl 1 rfl) ?_
    refine lv_iconst (v := 0) hx hb dX8_isBookingAsTold_8 (by decide) ?_
    refine lv_iconst (v := 2) hx hb dX8_isBookingAsTold_9 (by decide) ?_
    obtain ⟨r4, e5, h⟩ := gw_bdE h
    refine gw_callS (As := [.int x1, .int (0 : Int32), .int (2 : Int32)]) (n := 3) B hI (k_X8_isIn x1 (0 : Int32) (2 : Int32) S e5) gX8_isBookingAsTold_X8_isIn rfl rfl rfl nds_X8_isIn ⟨Nat.le_of_ble_eq_true rfl, Nat.le_of_ble_eq_true rfl⟩ rfl hl.1 (Nat.zero_le _) dX8_isBookingAsTold_10 ⟨Nat.le_of_ble_eq_true rfl, Nat.le_of_ble_eq_true rfl⟩ rfl (fun w' H locs hw hI => ?_)
    subst hw
    refine lv_if_eq (tgt := 57) hx hb dX8_isBookingAsTold_13 (by decide) (fun c6 => ?_) (fun c6 => ?_)
    · replace h := gw_ifT c6 h
      refine lv_iconst (v := 0) hx hb dX8_isBookingAsTold_57 (by decide) ?_
      rw [← Option.some.inj h]
      exact gw_zret (W' := (fun w => w = gw_cw cc a b d S)) B hI rfl (Or.inl rfl) (Nat.zero_le _) (Nat.zero_le _) dX8_isBookingAsTold_58
    · replace h := gw_ifF c6 h
      refine lv_iload_n hx hb dX8_isBookingAsTold_16 rfl (lv_at hl 2 rfl) ?_
      refine lv_bipush (v := 20) hx hb dX8_isBookingAsTold_17 (by decide) ?_
      refine lv_sipush (v := 380) hx hb dX8_isBookingAsTold_19 (by decide) ?_
      obtain ⟨r7, e8, h⟩ := gw_bdE h
      refine gw_callS (As := [.int x2, .int (20 : Int32), .int (380 : Int32)]) (n := 3) B hI (k_X8_isIn x2 (20 : Int32) (380 : Int32) S e8) gX8_isBookingAsTold_X8_isIn rfl rfl rfl nds_X8_isIn ⟨Nat.le_of_ble_eq_true rfl, Nat.le_of_ble_eq_true rfl⟩ rfl hl.1 (Nat.zero_le _) dX8_isBookingAsTold_22 ⟨Nat.le_of_ble_eq_true rfl, Nat.le_of_ble_eq_true rfl⟩ rfl (fun w' H locs hw hI => ?_)
      subst hw
      refine lv_if_eq (tgt := 57) hx hb dX8_isBookingAsTold_25 (by decide) (fun c9 => ?_) (fun c9 => ?_)
      · replace h := gw_ifT c9 h
        refine lv_iconst (v := 0) hx hb dX8_isBookingAsTold_57 (by decide) ?_
        rw [← Option.some.inj h]
        exact gw_zret (W' := (fun w => w = gw_cw cc a b d S)) B hI rfl (Or.inl rfl) (Nat.zero_le _) (Nat.zero_le _) dX8_isBookingAsTold_58
      · replace h := gw_ifF c9 h
        refine lv_iload_n hx hb dX8_isBookingAsTold_28 rfl (lv_at hl 3 rfl) ?_
        obtain ⟨r10, e11, h⟩ := gw_bdE h
        refine gw_callS (As := [.int x3]) (n := 1) B hI (k_X8_isTown x3 S e11) gX8_isBookingAsTold_X8_isTown rfl rfl rfl nds_X8_isTown ⟨Nat.le_of_ble_eq_true rfl, Nat.le_of_ble_eq_true rfl⟩ rfl hl.1 (Nat.zero_le _) dX8_isBookingAsTold_29 ⟨Nat.le_of_ble_eq_true rfl, Nat.le_of_ble_eq_true rfl⟩ rfl (fun w' H locs hw hI => ?_)
        subst hw
        refine lv_if_eq (tgt := 57) hx hb dX8_isBookingAsTold_32 (by decide) (fun c12 => ?_) (fun c12 => ?_)
        · replace h := gw_ifT c12 h
          refine lv_iconst (v := 0) hx hb dX8_isBookingAsTold_57 (by decide) ?_
          rw [← Option.some.inj h]
          exact gw_zret (W' := (fun w => w = gw_cw cc a b d S)) B hI rfl (Or.inl rfl) (Nat.zero_le _) (Nat.zero_le _) dX8_isBookingAsTold_58
        · replace h := gw_ifF c12 h
          refine lv_iload hx hb dX8_isBookingAsTold_35 (lv_at hl 4 rfl) ?_
          obtain ⟨r13, e14, h⟩ := gw_bdE h
          refine gw_callS (As := [.int x4]) (n := 1) B hI (k_X8_isDay x4 S e14) gX8_isBookingAsTold_X8_isDay rfl rfl rfl nds_X8_isDay ⟨Nat.le_of_ble_eq_true rfl, Nat.le_of_ble_eq_true rfl⟩ rfl hl.1 (Nat.zero_le _) dX8_isBookingAsTold_37 ⟨Nat.le_of_ble_eq_true rfl, Nat.le_of_ble_eq_true rfl⟩ rfl (fun w' H locs hw hI => ?_)
          subst hw
          refine lv_if_eq (tgt := 57) hx hb dX8_isBookingAsTold_40 (by decide) (fun c15 => ?_) (fun c15 => ?_)
          · replace h := gw_ifT c15 h
            refine lv_iconst (v := 0) hx hb dX8_isBookingAsTold_57 (by decide) ?_
            rw [← Option.some.inj h]
            exact gw_zret (W' := (fun w => w = gw_cw cc a b d S)) B hI rfl (Or.inl rfl) (Nat.zero_le _) (Nat.zero_le _) dX8_isBookingAsTold_58
          · replace h := gw_ifF c15 h
            refine lv_iload hx hb dX8_isBookingAsTold_43 (lv_at hl 5 rfl) ?_
            refine lv_iconst (v := -1) hx hb dX8_isBookingAsTold_45 (by decide) ?_
            refine lv_iconst (v := 4) hx hb dX8_isBookingAsTold_46 (by decide) ?_
            obtain ⟨r16, e17, h⟩ := gw_bdE h
            refine gw_callS (As := [.int x5, .int (-1 : Int32), .int (4 : Int32)]) (n := 3) B hI (k_X8_isIn x5 (-1 : Int32) (4 : Int32) S e17) gX8_isBookingAsTold_X8_isIn rfl rfl rfl nds_X8_isIn ⟨Nat.le_of_ble_eq_true rfl, Nat.le_of_ble_eq_true rfl⟩ rfl hl.1 (Nat.zero_le _) dX8_isBookingAsTold_47 ⟨Nat.le_of_ble_eq_true rfl, Nat.le_of_ble_eq_true rfl⟩ rfl (fun w' H locs hw hI => ?_)
            subst hw
            refine lv_if_eq (tgt := 57) hx hb dX8_isBookingAsTold_50 (by decide) (fun c18 => ?_) (fun c18 => ?_)
            · replace h := gw_ifT c18 h
              refine lv_iconst (v := 0) hx hb dX8_isBookingAsTold_57 (by decide) ?_
              rw [← Option.some.inj h]
              exact gw_zret (W' := (fun w => w = gw_cw cc a b d S)) B hI rfl (Or.inl rfl) (Nat.zero_le _) (Nat.zero_le _) dX8_isBookingAsTold_58
            · replace h := gw_ifF c18 h
              refine lv_iconst (v := 1) hx hb dX8_isBookingAsTold_53 (by decide) ?_
              refine lv_goto (tgt := 58) hx hb dX8_isBookingAsTold_54 (by decide) ?_
              rw [← Option.some.inj h]
              exact gw_zret (W' := (fun w => w = gw_cw cc a b d S)) B hI rfl (Or.inr rfl) (Nat.zero_le _) (Nat.zero_le _) dX8_isBookingAsTold_58
end
end
