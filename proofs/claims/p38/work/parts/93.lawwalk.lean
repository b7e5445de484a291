set_option maxRecDepth 100000 in
set_option maxHeartbeats 4000000 in
theorem kL_law_b660 {p : Program} {l : Launch} {e : Env} {s : State} {m : MethodId} {below : List Frame} {meth : Method} {c : Code} {D : va_G} {cc : Nat → ClassId} {t1 t2 b0 L : Nat} {A : Nat → Prop} {a am : Nat → Nat} {xs : Nat → Int32} (hX : va_X b0 L xs s s.heap) (hbl : b0 < s.heap.size) (hbA : ¬ A b0) (B : gw_B p s m #[Value.ref b0] meth c cL_law 15 wsL_law RL ret D (gw_ty cc) t1 t2 A) (hr : meth.sig.returnType = ret) (hlocks : meth.locks = false) (hA2 : ∀ q, A q → s.heap.size ≤ q) {cl sl : Nat} (h1 : cl ≤ 600000) (h2 : sl ≤ 7302250) {K650 : Int32 → Int32 → Int32 → gw_S → gw_S → Option Int32} (hK650 : ∀ (v4 v5 v7 : Int32) (S M : gw_S), K650 v4 v5 v7 S M = some 1 → ∀ (b d : Nat → Nat) (H : Heap) (locs : List Loc) (ls : Array Slot), gw_I D A s.heap (gw_o3 cc am M ++ gw_cw cc a b d S) H locs → lv_has ls 15 [(1, .ref (a 0)), (4, .int v4), (5, .int v5), (6, .ref (am 2)), (7, .int v7)] → W p l e room_1 s m #[Value.ref b0] below meth c H locs cl sl (lw_Z below #[Value.ref b0] s) (F0 m 650 ls [])) : ∀ (n : Nat), ∀ (v4 v5 v7 v8 : Int32) (S M : gw_S), f_L_law_b660 xs L K650 n v4 v5 v7 v8 S M = some 1 → ∀ (b d : Nat → Nat) (H : Heap) (locs : List Loc) (ls : Array Slot), gw_I D A s.heap (gw_o3 cc am M ++ gw_cw cc a b d S) H locs → lv_has ls 15 [(1, .ref (a 0)), (4, .int v4), (5, .int v5), (6, .ref (am 2)), (7, .int v7), (8, .int v8)] → W p l e room_1 s m #[Value.ref b0] below meth c H locs cl sl (lw_Z below #[Value.ref b0] s) (F0 m 660 ls []) := by
  have hx := B.1.1
  have hb := B.1.2.1
  have hown : s.vm.findClass RL = some m.cls := B.1.2.2.2.1
  have hts := B.1.2.2.2.2
  intro n
  induction n with
  | zero =>
    intro v4 v5 v7 v8 S M h
    cases h
  | succ n ih =>
    intro v4 v5 v7 v8 S M h b d H locs ls hI hl
    unfold f_L_law_b660 at h
    refine lv_iload hx hb dL_law_660 (lv_at hl 5 rfl) ?_
    refine lv_iload hx hb dL_law_662 (lv_at hl 2 rfl) ?_
    refine lv_icmp_ge (tgt := 700) hx hb dL_law_664 (by decide) (fun c144 => ?_) (fun c144 => ?_)
    · replace h := gw_ifT c144 h
      obtain ⟨y145, e146, h⟩ := gw_letE h
      refine lv_iinc (v := y145) (lv' := [(7, .int y145), (1, .ref (a 0)), (4, .int v4), (5, .int v5), (6, .ref (am 2)), (8, .int v8)]) hx hb dL_law_700 hl (k := 4) rfl (by rw [e146]; rfl) (by decide) rfl (fun ls hl => ?_)
      refine lv_goto (tgt := 650) hx hb dL_law_703 (by decide) ?_
      exact hK650 v4 v5 y145 S M h b d _ _ _ hI (lv_sub hl [1, 2, 3, 4, 0] rfl)
    · replace h := gw_ifF c144 h
      refine lv_aload_n hx hb dL_law_667 rfl (lv_at hl 0 rfl) ?_
      refine lv_iload hx hb dL_law_668 (lv_at hl 4 rfl) ?_
      refine lv_iload hx hb dL_law_670 (lv_at hl 5 rfl) ?_
      obtain ⟨r147, e148, h⟩ := gw_bdE h
      refine gw_callVF (w := gw_o3 cc am M) (wc := gw_cw cc a b d S) (As := [.int v7, .int v8]) (n := 2) B hI (k_X8_free v7 v8 S e148) gL_law_X8_free rfl rfl rfl ndl_X8_free ⟨Nat.le_of_ble_eq_true rfl, Nat.le_of_ble_eq_true rfl⟩ gc_g0 rfl rfl rfl hl.1 (Nat.zero_le _) dL_law_672 ⟨by show cl + 0 ≤ 600000; omega, by show sl + 0 ≤ 7302250; omega⟩ rfl (fun w' H locs hw hI => ?_)
      subst hw
      refine lv_iconst (v := 1) hx hb dL_law_675 (by decide) ?_
      refine lv_icmp_ne (tgt := 694) hx hb dL_law_676 (by decide) (fun c149 => ?_) (fun c149 => ?_)
      · replace h := gw_ifF c149 h
        obtain ⟨y150, e151, h⟩ := gw_letE h
        refine lv_iinc (v := y150) (lv' := [(8, .int y150), (1, .ref (a 0)), (4, .int v4), (5, .int v5), (6, .ref (am 2)), (7, .int v7)]) hx hb dL_law_694 hl (k := 5) rfl (by rw [e151]; rfl) (by decide) rfl (fun ls hl => ?_)
        refine lv_goto (tgt := 660) hx hb dL_law_697 (by decide) ?_
        exact ih v4 v5 v7 y150 S M h b d _ _ _ hI (lv_sub hl [1, 2, 3, 4, 5, 0] rfl)
      · replace h := gw_ifT c149 h
        refine lv_aload hx hb dL_law_679 (lv_at hl 3 rfl) ?_
        refine lv_iload hx hb dL_law_681 (lv_at hl 5 rfl) ?_
        obtain ⟨g152, h⟩ := gw_gdE h
        refine gw_iald (q0 := 2) (t0 := 0) B hI rfl rfl g152 dL_law_683 ?_
        refine lv_iload hx hb dL_law_684 (lv_at hl 4 rfl) ?_
        refine lv_ishr hx hb dL_law_686 ?_
        refine lv_iconst (v := 1) hx hb dL_law_687 (by decide) ?_
        refine lv_iand hx hb dL_law_688 ?_
        refine lv_if_ne (tgt := 694) hx hb dL_law_689 (by decide) (fun c153 => ?_) (fun c153 => ?_)
        · replace h := gw_ifF c153 h
          obtain ⟨y154, e155, h⟩ := gw_letE h
          refine lv_iinc (v := y154) (lv' := [(8, .int y154), (1, .ref (a 0)), (4, .int v4), (5, .int v5), (6, .ref (am 2)), (7, .int v7)]) hx hb dL_law_694 hl (k := 5) rfl (by rw [e155]; rfl) (by decide) rfl (fun ls hl => ?_)
          refine lv_goto (tgt := 660) hx hb dL_law_697 (by decide) ?_
          exact ih v4 v5 v7 y154 S M h b d _ _ _ hI (lv_sub hl [1, 2, 3, 4, 5, 0] rfl)
        · replace h := gw_ifT c153 h
          refine lv_iconst (v := 0) hx hb dL_law_692 (by decide) ?_
          exact absurd (Option.some.inj h) (by decide)
set_option maxRecDepth 100000 in
set_option maxHeartbeats 4000000 in
theorem kL_law_b650 {p : Program} {l : Launch} {e : Env} {s : State} {m : MethodId} {below : List Frame} {meth : Method} {c : Code} {D : va_G} {cc : Nat → ClassId} {t1 t2 b0 L : Nat} {A : Nat → Prop} {a am : Nat → Nat} {xs : Nat → Int32} (hX : va_X b0 L xs s s.heap) (hbl : b0 < s.heap.size) (hbA : ¬ A b0) (B : gw_B p s m #[Value.ref b0] meth c cL_law 15 wsL_law RL ret D (gw_ty cc) t1 t2 A) (hr : meth.sig.returnType = ret) (hlocks : meth.locks = false) (hA2 : ∀ q, A q → s.heap.size ≤ q) {cl sl : Nat} (h1 : cl ≤ 600000) (h2 : sl ≤ 7302250)  : ∀ (n : Nat), ∀ (v4 v5 v7 : Int32) (S M : gw_S), f_L_law_b650 xs L  n v4 v5 v7 S M = some 1 → ∀ (b d : Nat → Nat) (H : Heap) (locs : List Loc) (ls : Array Slot), gw_I D A s.heap (gw_o3 cc am M ++ gw_cw cc a b d S) H locs → lv_has ls 15 [(1, .ref (a 0)), (4, .int v4), (5, .int v5), (6, .ref (am 2)), (7, .int v7)] → W p l e room_1 s m #[Value.ref b0] below meth c H locs cl sl (lw_Z below #[Value.ref b0] s) (F0 m 650 ls []) := by
  have hx := B.1.1
  have hb := B.1.2.1
  have hown : s.vm.findClass RL = some m.cls := B.1.2.2.2.1
  have hts := B.1.2.2.2.2
  intro n
  induction n with
  | zero =>
    intro v4 v5 v7 S M h
    cases h
  | succ n ih =>
    intro v4 v5 v7 S M h b d H locs ls hI hl
    unfold f_L_law_b650 at h
    refine lv_iload hx hb dL_law_650 (lv_at hl 4 rfl) ?_
    refine lv_iload hx hb dL_law_652 (lv_at hl 1 rfl) ?_
    refine lv_icmp_ge (tgt := 706) hx hb dL_law_654 (by decide) (fun c156 => ?_) (fun c156 => ?_)
    · replace h := gw_ifT c156 h
      refine lv_aload_n hx hb dL_law_706 rfl (lv_at hl 0 rfl) ?_
      refine lv_iconst (v := 0) hx hb dL_law_707 (by decide) ?_
      obtain ⟨r157, e158, h⟩ := gw_bdE h
      refine gw_callVF (w := gw_o3 cc am M) (wc := gw_cw cc a b d S) (As := [.int (0 : Int32)]) (n := 1) B hI (k_X8_count (0 : Int32) S e158) gL_law_X8_count rfl rfl rfl ndl_X8_count ⟨Nat.le_of_ble_eq_true rfl, Nat.le_of_ble_eq_true rfl⟩ gc_g0 rfl rfl rfl hl.1 (Nat.zero_le _) dL_law_708 ⟨by show cl + 0 ≤ 600000; omega, by show sl + 0 ≤ 7302250; omega⟩ rfl (fun w' H locs hw hI => ?_)
      subst hw
      refine lv_iload hx hb dL_law_711 (lv_at hl 1 rfl) ?_
      refine lv_icmp_ne (tgt := 747) hx hb dL_law_713 (by decide) (fun c159 => ?_) (fun c159 => ?_)
      · replace h := gw_ifF c159 h
        refine lv_iconst (v := 0) hx hb dL_law_747 (by decide) ?_
        exact absurd (Option.some.inj h) (by decide)
      · replace h := gw_ifT c159 h
        refine lv_aload_n hx hb dL_law_716 rfl (lv_at hl 0 rfl) ?_
        refine lv_iconst (v := 4) hx hb dL_law_717 (by decide) ?_
        obtain ⟨r160, e161, h⟩ := gw_bdE h
        refine gw_callVF (w := gw_o3 cc am M) (wc := gw_cw cc a b d S) (As := [.int (4 : Int32)]) (n := 1) B hI (k_X8_count (4 : Int32) S e161) gL_law_X8_count rfl rfl rfl ndl_X8_count ⟨Nat.le_of_ble_eq_true rfl, Nat.le_of_ble_eq_true rfl⟩ gc_g0 rfl rfl rfl hl.1 (Nat.zero_le _) dL_law_718 ⟨by show cl + 0 ≤ 600000; omega, by show sl + 0 ≤ 7302250; omega⟩ rfl (fun w' H locs hw hI => ?_)
        subst hw
        refine lv_iload hx hb dL_law_721 (lv_at hl 2 rfl) ?_
        refine lv_icmp_ne (tgt := 747) hx hb dL_law_723 (by decide) (fun c162 => ?_) (fun c162 => ?_)
        · replace h := gw_ifF c162 h
          refine lv_iconst (v := 0) hx hb dL_law_747 (by decide) ?_
          exact absurd (Option.some.inj h) (by decide)
        · replace h := gw_ifT c162 h
          refine lv_aload_n hx hb dL_law_726 rfl (lv_at hl 0 rfl) ?_
          refine lv_iconst (v := 5) hx hb dL_law_727 (by decide) ?_
          obtain ⟨r163, e164, h⟩ := gw_bdE h
          refine gw_callVF (w := gw_o3 cc am M) (wc := gw_cw cc a b d S) (As := [.int (5 : Int32)]) (n := 1) B hI (k_X8_count (5 : Int32) S e164) gL_law_X8_count rfl rfl rfl ndl_X8_count ⟨Nat.le_of_ble_eq_true rfl, Nat.le_of_ble_eq_true rfl⟩ gc_g0 rfl rfl rfl hl.1 (Nat.zero_le _) dL_law_728 ⟨by show cl + 0 ≤ 600000; omega, by show sl + 0 ≤ 7302250; omega⟩ rfl (fun w' H locs hw hI => ?_)
          subst hw
          refine lv_if_ne (tgt := 747) hx hb dL_law_731 (by decide) (fun c165 => ?_) (fun c165 => ?_)
          · replace h := gw_ifF c165 h
            refine lv_iconst (v := 0) hx hb dL_law_747 (by decide) ?_
            exact absurd (Option.some.inj h) (by decide)
          · replace h := gw_ifT c165 h
            refine lv_aload_n hx hb dL_law_734 rfl (lv_at hl 0 rfl) ?_
            refine lv_bipush (v := 7) hx hb dL_law_735 (by decide) ?_
            obtain ⟨r166, e167, h⟩ := gw_bdE h
            refine gw_callVF (w := gw_o3 cc am M) (wc := gw_cw cc a b d S) (As := [.int (7 : Int32)]) (n := 1) B hI (k_X8_count (7 : Int32) S e167) gL_law_X8_count rfl rfl rfl ndl_X8_count ⟨Nat.le_of_ble_eq_true rfl, Nat.le_of_ble_eq_true rfl⟩ gc_g0 rfl rfl rfl hl.1 (Nat.zero_le _) dL_law_737 ⟨by show cl + 0 ≤ 600000; omega, by show sl + 0 ≤ 7302250; omega⟩ rfl (fun w' H locs hw hI => ?_)
            subst hw
            refine lv_if_ne (tgt := 747) hx hb dL_law_740 (by decide) (fun c168 => ?_) (fun c168 => ?_)
            · replace h := gw_ifF c168 h
              refine lv_iconst (v := 0) hx hb dL_law_747 (by decide) ?_
              exact absurd (Option.some.inj h) (by decide)
            · replace h := gw_ifT c168 h
              refine lv_iconst (v := 1) hx hb dL_law_743 (by decide) ?_
              refine lv_goto (tgt := 748) hx hb dL_law_744 (by decide) ?_
              refine va_forget (fun q hq => hA2 _ (hI.2.2.2.2 q hq)) ?_
              refine W.widen (k := 600000) (n := 7302250) (by omega) (by omega) ?_
              exact lw_ret hx hb hr hlocks dL_law_748
    · replace h := gw_ifF c156 h
      refine lv_iconst (v := 0) hx hb dL_law_657 (by decide) ?_
      refine lv_istore (lv' := [(8, .int (0 : Int32)), (1, .ref (a 0)), (4, .int v4), (5, .int v5), (6, .ref (am 2)), (7, .int v7)]) hx hb dL_law_658 hl (by decide) rfl (fun ls hl => ?_)
      exact kL_law_b660 hX hbl hbA B hr hlocks hA2 (by omega) (by omega) ih gw_F v4 v5 v7 (0 : Int32) S M h b d _ _ _ hI (lv_sub hl [1, 2, 3, 4, 5, 0] rfl)
set_option maxRecDepth 100000 in
set_option maxHeartbeats 4000000 in
theorem kL_law_b574 {p : Program} {l : Launch} {e : Env} {s : State} {m : MethodId} {below : List Frame} {meth : Method} {c : Code} {D : va_G} {cc : Nat → ClassId} {t1 t2 b0 L : Nat} {A : Nat → Prop} {a am : Nat → Nat} {xs : Nat → Int32} (hX : va_X b0 L xs s s.heap) (hbl : b0 < s.heap.size) (hbA : ¬ A b0) (B : gw_B p s m #[Value.ref b0] meth c cL_law 15 wsL_law RL ret D (gw_ty cc) t1 t2 A) (hr : meth.sig.returnType = ret) (hlocks : meth.locks = false) (hA2 : ∀ q, A q → s.heap.size ≤ q) {cl sl : Nat} (h1 : cl ≤ 600000) (h2 : sl ≤ 7302250) {K564 : Int32 → Int32 → Int32 → gw_S → gw_S → Option Int32} (hK564 : ∀ (v4 v5 v7 : Int32) (S M : gw_S), K564 v4 v5 v7 S M = some 1 → ∀ (b d : Nat → Nat) (H : Heap) (locs : List Loc) (ls : Array Slot), gw_I D A s.heap (gw_o3 cc am M ++ gw_cw cc a b d S) H locs → lv_has ls 15 [(1, .ref (a 0)), (4, .int v4), (5, .int v5), (6, .ref (am 2)), (7, .int v7)] → W p l e room_1 s m #[Value.ref b0] below meth c H locs cl sl (lw_Z below #[Value.ref b0] s) (F0 m 564 ls [])) : ∀ (n : Nat), ∀ (v4 v5 v7 v8 : Int32) (S M : gw_S), f_L_law_b574 xs L K564 n v4 v5 v7 v8 S M = some 1 → ∀ (b d : Nat → Nat) (H : Heap) (locs : List Loc) (ls : Array Slot), gw_I D A s.heap (gw_o3 cc am M ++ gw_cw cc a b d S) H locs → lv_has ls 15 [(1, .ref (a 0)), (4, .int v4), (5, .int v5), (6, .ref (am 2)), (7, .int v7), (8, .int v8)] → W p l e room_1 s m #[Value.ref b0] below meth c H locs cl sl (lw_Z below #[Value.ref b0] s) (F0 m 574 ls []) := by
  have hx := B.1.1
  have hb := B.1.2.1
  have hown : s.vm.findClass RL = some m.cls := B.1.2.2.2.1
  have hts := B.1.2.2.2.2
  intro n
  induction n with
  | zero =>
    intro v4 v5 v7 v8 S M h
    cases h
  | succ n ih =>
    intro v4 v5 v7 v8 S M h b d H locs ls hI hl
    unfold f_L_law_b574 at h
    refine lv_iload hx hb dL_law_574 (lv_at hl 5 rfl) ?_
    refine lv_iload hx hb dL_law_576 (lv_at hl 2 rfl) ?_
    refine lv_icmp_ge (tgt := 609) hx hb dL_law_578 (by decide) (fun c169 => ?_) (fun c169 => ?_)
    · replace h := gw_ifT c169 h
      obtain ⟨y170, e171, h⟩ := gw_letE h
      refine lv_iinc (v := y170) (lv' := [(7, .int y170), (1, .ref (a 0)), (4, .int v4), (5, .int v5), (6, .ref (am 2)), (8, .int v8)]) hx hb dL_law_609 hl (k := 4) rfl (by rw [e171]; rfl) (by decide) rfl (fun ls hl => ?_)
      refine lv_goto (tgt := 564) hx hb dL_law_612 (by decide) ?_
      exact hK564 v4 v5 y170 S M h b d _ _ _ hI (lv_sub hl [1, 2, 3, 4, 0] rfl)
    · replace h := gw_ifF c169 h
      refine lv_aload hx hb dL_law_581 (lv_at hl 3 rfl) ?_
      refine lv_iload hx hb dL_law_583 (lv_at hl 5 rfl) ?_
      refine lv_aload hx hb dL_law_585 (lv_at hl 3 rfl) ?_
      refine lv_iload hx hb dL_law_587 (lv_at hl 5 rfl) ?_
      obtain ⟨g172, h⟩ := gw_gdE h
      refine gw_iald (q0 := 2) (t0 := 0) B hI rfl rfl g172 dL_law_589 ?_
      refine lv_aload_n hx hb dL_law_590 rfl (lv_at hl 0 rfl) ?_
      refine lv_iload hx hb dL_law_591 (lv_at hl 4 rfl) ?_
      refine lv_iload hx hb dL_law_593 (lv_at hl 5 rfl) ?_
      obtain ⟨r173, e174, h⟩ := gw_bdE h
      refine gw_callVF (w := gw_o3 cc am M) (wc := gw_cw cc a b d S) (As := [.int v7, .int v8]) (n := 2) B hI (k_X8_free v7 v8 S e174) gL_law_X8_free rfl rfl rfl ndl_X8_free ⟨Nat.le_of_ble_eq_true rfl, Nat.le_of_ble_eq_true rfl⟩ gc_g0 rfl rfl rfl hl.1 (Nat.le_of_ble_eq_true rfl) dL_law_595 ⟨by show cl + 0 ≤ 600000; omega, by show sl + 0 ≤ 7302250; omega⟩ rfl (fun w' H locs hw hI => ?_)
      subst hw
      refine lv_iload hx hb dL_law_598 (lv_at hl 4 rfl) ?_
      refine lv_ishl hx hb dL_law_600 ?_
      refine lv_ior hx hb dL_law_601 ?_
      obtain ⟨M175, e176, h⟩ := gw_letE h
      refine gw_iast (q0 := 2) (t0 := 0) (w' := gw_o3 cc am M175 ++ gw_cw cc a b d S) B hI rfl rfl g172 (by rw [e176]; rfl) dL_law_602 (fun H locs hI => ?_)
      obtain ⟨y177, e178, h⟩ := gw_letE h
      refine lv_iinc (v := y177) (lv' := [(8, .int y177), (1, .ref (a 0)), (4, .int v4), (5, .int v5), (6, .ref (am 2)), (7, .int v7)]) hx hb dL_law_603 hl (k := 5) rfl (by rw [e178]; rfl) (by decide) rfl (fun ls hl => ?_)
      refine lv_goto (tgt := 574) hx hb dL_law_606 (by decide) ?_
      exact ih v4 v5 v7 y177 S M175 h b d _ _ _ hI (lv_sub hl [1, 2, 3, 4, 5, 0] rfl)
set_option maxRecDepth 100000 in
set_option maxHeartbeats 4000000 in
theorem kL_law_b564 {p : Program} {l : Launch} {e : Env} {s : State} {m : MethodId} {below : List Frame} {meth : Method} {c : Code} {D : va_G} {cc : Nat → ClassId} {t1 t2 b0 L : Nat} {A : Nat → Prop} {a am : Nat → Nat} {xs : Nat → Int32} (hX : va_X b0 L xs s s.heap) (hbl : b0 < s.heap.size) (hbA : ¬ A b0) (B : gw_B p s m #[Value.ref b0] meth c cL_law 15 wsL_law RL ret D (gw_ty cc) t1 t2 A) (hr : meth.sig.returnType = ret) (hlocks : meth.locks = false) (hA2 : ∀ q, A q → s.heap.size ≤ q) {cl sl : Nat} (h1 : cl ≤ 600000) (h2 : sl ≤ 7302250)  : ∀ (n : Nat), ∀ (v4 v5 v7 : Int32) (S M : gw_S), f_L_law_b564 xs L  n v4 v5 v7 S M = some 1 → ∀ (b d : Nat → Nat) (H : Heap) (locs : List Loc) (ls : Array Slot), gw_I D A s.heap (gw_o3 cc am M ++ gw_cw cc a b d S) H locs → lv_has ls 15 [(1, .ref (a 0)), (4, .int v4), (5, .int v5), (6, .ref (am 2)), (7, .int v7)] → W p l e room_1 s m #[Value.ref b0] below meth c H locs cl sl (lw_Z below #[Value.ref b0] s) (F0 m 564 ls []) := by
  have hx := B.1.1
  have hb := B.1.2.1
  have hown : s.vm.findClass RL = some m.cls := B.1.2.2.2.1
  have hts := B.1.2.2.2.2
  intro n
  induction n with
  | zero =>
    intro v4 v5 v7 S M h
    cases h
  | succ n ih =>
    intro v4 v5 v7 S M h b d H locs ls hI hl
    unfold f_L_law_b564 at h
    refine lv_iload hx hb dL_law_564 (lv_at hl 4 rfl) ?_
    refine lv_iload hx hb dL_law_566 (lv_at hl 1 rfl) ?_
    refine lv_icmp_ge (tgt := 615) hx hb dL_law_568 (by decide) (fun c179 => ?_) (fun c179 => ?_)
    · replace h := gw_ifT c179 h
      refine lv_aload_n hx hb dL_law_615 rfl (lv_at hl 0 rfl) ?_
      refine lv_iconst (v := 0) hx hb dL_law_616 (by decide) ?_
      refine lv_iconst (v := 1) hx hb dL_law_617 (by decide) ?_
      refine lv_iconst (v := 5) hx hb dL_law_618 (by decide) ?_
      obtain ⟨r180, S182, e181, h⟩ := gw_b2E h
      refine gw_callVF (w := gw_o3 cc am M) (wc := gw_cw cc a b d S) (As := [.int (0 : Int32), .int (1 : Int32), .int (5 : Int32)]) (n := 3) B hI (k_X8_post (0 : Int32) (1 : Int32) (5 : Int32) S e181) gL_law_X8_post rfl rfl rfl ndl_X8_post ⟨Nat.le_of_ble_eq_true rfl, Nat.le_of_ble_eq_true rfl⟩ gc_g0 rfl rfl rfl hl.1 (Nat.zero_le _) dL_law_619 ⟨by show cl + 0 ≤ 600000; omega, by show sl + 0 ≤ 7302250; omega⟩ rfl (fun w' H locs hw hI => ?_)
      subst hw
      refine lv_if_lt (tgt := 645) hx hb dL_law_622 (by decide) (fun c183 => ?_) (fun c183 => ?_)
      · replace h := gw_ifT c183 h
        refine lv_iconst (v := 0) hx hb dL_law_645 (by decide) ?_
        exact absurd (Option.some.inj h) (by decide)
      · replace h := gw_ifF c183 h
        refine lv_aload_n hx hb dL_law_625 rfl (lv_at hl 0 rfl) ?_
        refine lv_iconst (v := 1) hx hb dL_law_626 (by decide) ?_
        refine lv_iconst (v := 2) hx hb dL_law_627 (by decide) ?_
        refine lv_iconst (v := 5) hx hb dL_law_628 (by decide) ?_
        obtain ⟨r184, S186, e185, h⟩ := gw_b2E h
        refine gw_callVF (w := gw_o3 cc am M) (wc := gw_cw cc a b d S182) (As := [.int (1 : Int32), .int (2 : Int32), .int (5 : Int32)]) (n := 3) B hI (k_X8_post (1 : Int32) (2 : Int32) (5 : Int32) S182 e185) gL_law_X8_post rfl rfl rfl ndl_X8_post ⟨Nat.le_of_ble_eq_true rfl, Nat.le_of_ble_eq_true rfl⟩ gc_g0 rfl rfl rfl hl.1 (Nat.zero_le _) dL_law_629 ⟨by show cl + 0 ≤ 600000; omega, by show sl + 0 ≤ 7302250; omega⟩ rfl (fun w' H locs hw hI => ?_)
        subst hw
        refine lv_if_lt (tgt := 645) hx hb dL_law_632 (by decide) (fun c187 => ?_) (fun c187 => ?_)
        · replace h := gw_ifT c187 h
          refine lv_iconst (v := 0) hx hb dL_law_645 (by decide) ?_
          exact absurd (Option.some.inj h) (by decide)
        · replace h := gw_ifF c187 h
          refine lv_aload_n hx hb dL_law_635 rfl (lv_at hl 0 rfl) ?_
          refine lv_iconst (v := 0) hx hb dL_law_636 (by decide) ?_
          refine lv_iconst (v := 2) hx hb dL_law_637 (by decide) ?_
          refine lv_iconst (v := 5) hx hb dL_law_638 (by decide) ?_
          obtain ⟨r188, S190, e189, h⟩ := gw_b2E h
          refine gw_callVF (w := gw_o3 cc am M) (wc := gw_cw cc a b d S186) (As := [.int (0 : Int32), .int (2 : Int32), .int (5 : Int32)]) (n := 3) B hI (k_X8_post (0 : Int32) (2 : Int32) (5 : Int32) S186 e189) gL_law_X8_post rfl rfl rfl ndl_X8_post ⟨Nat.le_of_ble_eq_true rfl, Nat.le_of_ble_eq_true rfl⟩ gc_g0 rfl rfl rfl hl.1 (Nat.zero_le _) dL_law_639 ⟨by show cl + 0 ≤ 600000; omega, by show sl + 0 ≤ 7302250; omega⟩ rfl (fun w' H locs hw hI => ?_)
          subst hw
          refine lv_if_ge (tgt := 647) hx hb dL_law_642 (by decide) (fun c191 => ?_) (fun c191 => ?_)
          · replace h := gw_ifT c191 h
            refine lv_iconst (v := 0) hx hb dL_law_647 (by decide) ?_
            refine lv_istore (lv' := [(7, .int (0 : Int32)), (1, .ref (a 0)), (4, .int v4), (5, .int v5), (6, .ref (am 2))]) hx hb dL_law_648 hl (by decide) rfl (fun ls hl => ?_)
            exact kL_law_b650 hX hbl hbA B hr hlocks hA2 (by omega) (by omega)  gw_F v4 v5 (0 : Int32) S190 M h b d _ _ _ hI (lv_sub hl [1, 2, 3, 4, 0] rfl)
          · replace h := gw_ifF c191 h
            refine lv_iconst (v := 0) hx hb dL_law_645 (by decide) ?_
            exact absurd (Option.some.inj h) (by decide)
    · replace h := gw_ifF c179 h
      refine lv_iconst (v := 0) hx hb dL_law_571 (by decide) ?_
      refine lv_istore (lv' := [(8, .int (0 : Int32)), (1, .ref (a 0)), (4, .int v4), (5, .int v5), (6, .ref (am 2)), (7, .int v7)]) hx hb dL_law_572 hl (by decide) rfl (fun ls hl => ?_)
      exact kL_law_b574 hX hbl hbA B hr hlocks hA2 (by omega) (by omega) ih gw_F v4 v5 v7 (0 : Int32) S M h b d _ _ _ hI (lv_sub hl [1, 2, 3, 4, 5, 0] rfl)
set_option maxRecDepth 100000 in
set_option maxHeartbeats 4000000 in
theorem kL_law_b561 {p : Program} {l : Launch} {e : Env} {s : State} {m : MethodId} {below : List Frame} {meth : Method} {c : Code} {D : va_G} {cc : Nat → ClassId} {t1 t2 b0 L : Nat} {A : Nat → Prop} {a am : Nat → Nat} {xs : Nat → Int32} (hX : va_X b0 L xs s s.heap) (hbl : b0 < s.heap.size) (hbA : ¬ A b0) (B : gw_B p s m #[Value.ref b0] meth c cL_law 15 wsL_law RL ret D (gw_ty cc) t1 t2 A) (hr : meth.sig.returnType = ret) (hlocks : meth.locks = false) (hA2 : ∀ q, A q → s.heap.size ≤ q) {cl sl : Nat} (h1 : cl ≤ 600000) (h2 : sl ≤ 7302250)  : ∀ (v4 v5 : Int32) (S M : gw_S), f_L_law_b561 xs L  v4 v5 S M = some 1 → ∀ (b d : Nat → Nat) (H : Heap) (locs : List Loc) (ls : Array Slot), gw_I D A s.heap (gw_o3 cc am M ++ gw_cw cc a b d S) H locs → lv_has ls 15 [(1, .ref (a 0)), (4, .int v4), (5, .int v5), (6, .ref (am 2))] → W p l e room_1 s m #[Value.ref b0] below meth c H locs cl sl (lw_Z below #[Value.ref b0] s) (F0 m 561 ls []) := by
  have hx := B.1.1
  have hb := B.1.2.1
  have hown : s.vm.findClass RL = some m.cls := B.1.2.2.2.1
  have hts := B.1.2.2.2.2
  intro v4 v5 S M h b d H locs ls hI hl
  unfold f_L_law_b561 at h
  refine lv_iconst (v := 0) hx hb dL_law_561 (by decide) ?_
  refine lv_istore (lv' := [(7, .int (0 : Int32)), (1, .ref (a 0)), (4, .int v4), (5, .int v5), (6, .ref (am 2))]) hx hb dL_law_562 hl (by decide) rfl (fun ls hl => ?_)
  exact kL_law_b564 hX hbl hbA B hr hlocks hA2 (by omega) (by omega)  gw_F v4 v5 (0 : Int32) S M h b d _ _ _ hI (lv_sub hl [1, 2, 3, 4, 0] rfl)
set_option maxRecDepth 100000 in
set_option maxHeartbeats 4000000 in
theorem kL_law_b475 {p : Program} {l : Launch} {e : Env} {s : State} {m : MethodId} {below : List Frame} {meth : Method} {c : Code} {D : va_G} {cc : Nat → ClassId} {t1 t2 b0 L : Nat} {A : Nat → Prop} {a am : Nat → Nat} {xs : Nat → Int32} (hX : va_X b0 L xs s s.heap) (hbl : b0 < s.heap.size) (hbA : ¬ A b0) (B : gw_B p s m #[Value.ref b0] meth c cL_law 15 wsL_law RL ret D (gw_ty cc) t1 t2 A) (hr : meth.sig.returnType = ret) (hlocks : meth.locks = false) (hA2 : ∀ q, A q → s.heap.size ≤ q) {cl sl : Nat} (h1 : cl + 1 ≤ 600000) (h2 : sl + 10 ≤ 7302250) {K76 : Int32 → Int32 → Int32 → gw_S → gw_S → Option Int32} (hK76 : ∀ (v4 v5 v6 : Int32) (S M : gw_S), K76 v4 v5 v6 S M = some 1 → ∀ (b d : Nat → Nat) (H : Heap) (locs : List Loc) (ls : Array Slot), gw_I D A s.heap (gw_o2 cc am M ++ gw_cw cc a b d S) H locs → lv_has ls 15 [(0, .ref b0), (1, .ref (a 0)), (3, .ref (am 1)), (4, .int v4), (5, .int v5), (6, .int v6)] → W p l e room_1 s m #[Value.ref b0] below meth c H locs cl sl (lw_Z below #[Value.ref b0] s) (F0 m 76 ls [])) {K396 : Int32 → Int32 → Int32 → Int32 → gw_S → gw_S → Option Int32} (hK396 : ∀ (v4 v5 v6 v12 : Int32) (S M : gw_S), K396 v4 v5 v6 v12 S M = some 1 → ∀ (b d : Nat → Nat) (H : Heap) (locs : List Loc) (ls : Array Slot), gw_I D A s.heap (gw_o2 cc am M ++ gw_cw cc a b d S) H locs → lv_has ls 15 [(0, .ref b0), (1, .ref (a 0)), (3, .ref (am 1)), (4, .int v4), (5, .int v5), (6, .int v6), (12, .int v12)] → W p l e room_1 s m #[Value.ref b0] below meth c H locs cl sl (lw_Z below #[Value.ref b0] s) (F0 m 396 ls [])) : ∀ (n : Nat), ∀ (v4 v5 v6 v12 v13 v14 : Int32) (S M : gw_S), f_L_law_b475 xs L K76 K396 n v4 v5 v6 v12 v13 v14 S M = some 1 → ∀ (b d : Nat → Nat) (H : Heap) (locs : List Loc) (ls : Array Slot), gw_I D A s.heap (gw_o2 cc am M ++ gw_cw cc a b d S) H locs → lv_has ls 15 [(0, .ref b0), (1, .ref (a 0)), (3, .ref (am 1)), (4, .int v4), (5, .int v5), (6, .int v6), (12, .int v12), (13, .int v13), (14, .int v14)] → W p l e room_1 s m #[Value.ref b0] below meth c H locs cl sl (lw_Z below #[Value.ref b0] s) (F0 m 475 ls []) := by
  have hx := B.1.1
  have hb := B.1.2.1
  have hown : s.vm.findClass RL = some m.cls := B.1.2.2.2.1
  have hts := B.1.2.2.2.2
  intro n
  induction n with
  | zero =>
    intro v4 v5 v6 v12 v13 v14 S M h
    cases h
  | succ n ih =>
    intro v4 v5 v6 v12 v13 v14 S M h b d H locs ls hI hl
    unfold f_L_law_b475 at h
    refine lv_iload hx hb dL_law_475 (lv_at hl 8 rfl) ?_
    refine lv_iload hx hb dL_law_477 (lv_at hl 6 rfl) ?_
    refine lv_icmp_ge (tgt := 543) hx hb dL_law_479 (by decide) (fun c192 => ?_) (fun c192 => ?_)
    · replace h := gw_ifT c192 h
      obtain ⟨y193, e194, h⟩ := gw_letE h
      refine lv_iinc (v := y193) (lv' := [(12, .int y193), (0, .ref b0), (1, .ref (a 0)), (3, .ref (am 1)), (4, .int v4), (5, .int v5), (6, .int v6), (13, .int v13), (14, .int v14)]) hx hb dL_law_543 hl (k := 6) rfl (by rw [e194]; rfl) (by decide) rfl (fun ls hl => ?_)
      refine lv_goto (tgt := 396) hx hb dL_law_546 (by decide) ?_
      exact hK396 v4 v5 v6 y193 S M h b d _ _ _ hI (lv_sub hl [1, 2, 3, 4, 5, 6, 0] rfl)
    · replace h := gw_ifF c192 h
      refine lv_aload_n hx hb dL_law_482 rfl (lv_at hl 1 rfl) ?_
      refine lv_iload hx hb dL_law_483 (lv_at hl 8 rfl) ?_
      obtain ⟨r195, e196, h⟩ := gw_bdE h
      refine gw_callVF (w := gw_o2 cc am M) (wc := gw_cw cc a b d S) (As := [.int v14]) (n := 1) B hI (k_X8_has v14 S e196) gL_law_X8_has rfl rfl rfl ndl_X8_has ⟨Nat.le_of_ble_eq_true rfl, Nat.le_of_ble_eq_true rfl⟩ gc_g0 rfl rfl rfl hl.1 (Nat.zero_le _) dL_law_485 ⟨by show cl + 0 ≤ 600000; omega, by show sl + 0 ≤ 7302250; omega⟩ rfl (fun w' H locs hw hI => ?_)
      subst hw
      refine lv_iload hx hb dL_law_488 (lv_at hl 7 rfl) ?_
      refine lv_icmp_ne (tgt := 537) hx hb dL_law_490 (by decide) (fun c197 => ?_) (fun c197 => ?_)
      · replace h := gw_ifF c197 h
        obtain ⟨y198, e199, h⟩ := gw_letE h
        refine lv_iinc (v := y198) (lv' := [(14, .int y198), (0, .ref b0), (1, .ref (a 0)), (3, .ref (am 1)), (4, .int v4), (5, .int v5), (6, .int v6), (12, .int v12), (13, .int v13)]) hx hb dL_law_537 hl (k := 8) rfl (by rw [e199]; rfl) (by decide) rfl (fun ls hl => ?_)
        refine lv_goto (tgt := 475) hx hb dL_law_540 (by decide) ?_
        exact ih v4 v5 v6 v12 v13 y198 S M h b d _ _ _ hI (lv_sub hl [1, 2, 3, 4, 5, 6, 7, 8, 0] rfl)
      · replace h := gw_ifT c197 h
        refine lv_aload_n hx hb dL_law_493 rfl (lv_at hl 1 rfl) ?_
        refine lv_iload hx hb dL_law_494 (lv_at hl 7 rfl) ?_
        refine lv_iload hx hb dL_law_496 (lv_at hl 6 rfl) ?_
        refine lv_iconst (v := 0) hx hb dL_law_498 (by decide) ?_
        obtain ⟨r200, e201, h⟩ := gw_bdE h
        refine gw_callVF (w := gw_o2 cc am M) (wc := gw_cw cc a b d S) (As := [.int v13, .int v12, .int (0 : Int32)]) (n := 3) B hI (k_X8_away v13 v12 (0 : Int32) S e201) gL_law_X8_away rfl rfl rfl ndl_X8_away ⟨Nat.le_of_ble_eq_true rfl, Nat.le_of_ble_eq_true rfl⟩ gc_g0 rfl rfl rfl hl.1 (Nat.zero_le _) dL_law_499 ⟨by show cl + 0 ≤ 600000; omega, by show sl + 0 ≤ 7302250; omega⟩ rfl (fun w' H locs hw hI => ?_)
        subst hw
        refine lv_aload_n hx hb dL_law_502 rfl (lv_at hl 1 rfl) ?_
        refine lv_iload hx hb dL_law_503 (lv_at hl 7 rfl) ?_
        refine lv_iload hx hb dL_law_505 (lv_at hl 8 rfl) ?_
        refine lv_iconst (v := 1) hx hb dL_law_507 (by decide) ?_
        obtain ⟨r202, e203, h⟩ := gw_bdE h
        refine gw_callVF (w := gw_o2 cc am M) (wc := gw_cw cc a b d S) (As := [.int v13, .int v14, .int (1 : Int32)]) (n := 3) B hI (k_X8_away v13 v14 (1 : Int32) S e203) gL_law_X8_away rfl rfl rfl ndl_X8_away ⟨Nat.le_of_ble_eq_true rfl, Nat.le_of_ble_eq_true rfl⟩ gc_g0 rfl rfl rfl hl.1 (Nat.le_of_ble_eq_true rfl) dL_law_508 ⟨by show cl + 0 ≤ 600000; omega, by show sl + 0 ≤ 7302250; omega⟩ rfl (fun w' H locs hw hI => ?_)
        subst hw
        refine lv_icmp_gt (tgt := 537) hx hb dL_law_511 (by decide) (fun c204 => ?_) (fun c204 => ?_)
        · replace h := gw_ifT c204 h
          obtain ⟨y205, e206, h⟩ := gw_letE h
          refine lv_iinc (v := y205) (lv' := [(14, .int y205), (0, .ref b0), (1, .ref (a 0)), (3, .ref (am 1)), (4, .int v4), (5, .int v5), (6, .int v6), (12, .int v12), (13, .int v13)]) hx hb dL_law_537 hl (k := 8) rfl (by rw [e206]; rfl) (by decide) rfl (fun ls hl => ?_)
          refine lv_goto (tgt := 475) hx hb dL_law_540 (by decide) ?_
          exact ih v4 v5 v6 v12 v13 y205 S M h b d _ _ _ hI (lv_sub hl [1, 2, 3, 4, 5, 6, 7, 8, 0] rfl)
        · replace h := gw_ifF c204 h
          refine lv_aload_n hx hb dL_law_514 rfl (lv_at hl 1 rfl) ?_
          refine lv_iload hx hb dL_law_515 (lv_at hl 7 rfl) ?_
          refine lv_iload hx hb dL_law_517 (lv_at hl 8 rfl) ?_
          refine lv_iconst (v := 0) hx hb dL_law_519 (by decide) ?_
          obtain ⟨r207, e208, h⟩ := gw_bdE h
          refine gw_callVF (w := gw_o2 cc am M) (wc := gw_cw cc a b d S) (As := [.int v13, .int v14, .int (0 : Int32)]) (n := 3) B hI (k_X8_away v13 v14 (0 : Int32) S e208) gL_law_X8_away rfl rfl rfl ndl_X8_away ⟨Nat.le_of_ble_eq_true rfl, Nat.le_of_ble_eq_true rfl⟩ gc_g0 rfl rfl rfl hl.1 (Nat.zero_le _) dL_law_520 ⟨by show cl + 0 ≤ 600000; omega, by show sl + 0 ≤ 7302250; omega⟩ rfl (fun w' H locs hw hI => ?_)
          subst hw
          refine lv_aload_n hx hb dL_law_523 rfl (lv_at hl 1 rfl) ?_
          refine lv_iload hx hb dL_law_524 (lv_at hl 7 rfl) ?_
          refine lv_iload hx hb dL_law_526 (lv_at hl 6 rfl) ?_
          refine lv_iconst (v := 1) hx hb dL_law_528 (by decide) ?_
          obtain ⟨r209, e210, h⟩ := gw_bdE h
          refine gw_callVF (w := gw_o2 cc am M) (wc := gw_cw cc a b d S) (As := [.int v13, .int v12, .int (1 : Int32)]) (n := 3) B hI (k_X8_away v13 v12 (1 : Int32) S e210) gL_law_X8_away rfl rfl rfl ndl_X8_away ⟨Nat.le_of_ble_eq_true rfl, Nat.le_of_ble_eq_true rfl⟩ gc_g0 rfl rfl rfl hl.1 (Nat.le_of_ble_eq_true rfl) dL_law_529 ⟨by show cl + 0 ≤ 600000; omega, by show sl + 0 ≤ 7302250; omega⟩ rfl (fun w' H locs hw hI => ?_)
          subst hw
          refine lv_icmp_gt (tgt := 537) hx hb dL_law_532 (by decide) (fun c211 => ?_) (fun c211 => ?_)
          · replace h := gw_ifT c211 h
            obtain ⟨y212, e213, h⟩ := gw_letE h
            refine lv_iinc (v := y212) (lv' := [(14, .int y212), (0, .ref b0), (1, .ref (a 0)), (3, .ref (am 1)), (4, .int v4), (5, .int v5), (6, .int v6), (12, .int v12), (13, .int v13)]) hx hb dL_law_537 hl (k := 8) rfl (by rw [e213]; rfl) (by decide) rfl (fun ls hl => ?_)
            refine lv_goto (tgt := 475) hx hb dL_law_540 (by decide) ?_
            exact ih v4 v5 v6 v12 v13 y212 S M h b d _ _ _ hI (lv_sub hl [1, 2, 3, 4, 5, 6, 7, 8, 0] rfl)
          · replace h := gw_ifF c211 h
            refine lv_iconst (v := 0) hx hb dL_law_535 (by decide) ?_
            exact absurd (Option.some.inj h) (by decide)
set_option maxRecDepth 100000 in
set_option maxHeartbeats 4000000 in
theorem kL_law_b396 {p : Program} {l : Launch} {e : Env} {s : State} {m : MethodId} {below : List Frame} {meth : Method} {c : Code} {D : va_G} {cc : Nat → ClassId} {t1 t2 b0 L : Nat} {A : Nat → Prop} {a am : Nat → Nat} {xs : Nat → Int32} (hX : va_X b0 L xs s s.heap) (hbl : b0 < s.heap.size) (hbA : ¬ A b0) (B : gw_B p s m #[Value.ref b0] meth c cL_law 15 wsL_law RL ret D (gw_ty cc) t1 t2 A) (hr : meth.sig.returnType = ret) (hlocks : meth.locks = false) (hA2 : ∀ q, A q → s.heap.size ≤ q) {cl sl : Nat} (h1 : cl + 1 ≤ 600000) (h2 : sl + 10 ≤ 7302250) {K76 : Int32 → Int32 → Int32 → gw_S → gw_S → Option Int32} (hK76 : ∀ (v4 v5 v6 : Int32) (S M : gw_S), K76 v4 v5 v6 S M = some 1 → ∀ (b d : Nat → Nat) (H : Heap) (locs : List Loc) (ls : Array Slot), gw_I D A s.heap (gw_o2 cc am M ++ gw_cw cc a b d S) H locs → lv_has ls 15 [(0, .ref b0), (1, .ref (a 0)), (3, .ref (am 1)), (4, .int v4), (5, .int v5), (6, .int v6)] → W p l e room_1 s m #[Value.ref b0] below meth c H locs cl sl (lw_Z below #[Value.ref b0] s) (F0 m 76 ls [])) : ∀ (n : Nat), ∀ (v4 v5 v6 v12 : Int32) (S M : gw_S), f_L_law_b396 xs L K76 n v4 v5 v6 v12 S M = some 1 → ∀ (b d : Nat → Nat) (H : Heap) (locs : List Loc) (ls : Array Slot), gw_I D A s.heap (gw_o2 cc am M ++ gw_cw cc a b d S) H locs → lv_has ls 15 [(0, .ref b0), (1, .ref (a 0)), (3, .ref (am 1)), (4, .int v4), (5, .int v5), (6, .int v6), (12, .int v12)] → W p l e room_1 s m #[Value.ref b0] below meth c H locs cl sl (lw_Z below #[Value.ref b0] s) (F0 m 396 ls []) := by
  have hx := B.1.1
  have hb := B.1.2.1
  have hown : s.vm.findClass RL = some m.cls := B.1.2.2.2.1
  have hts := B.1.2.2.2.2
  intro n
  induction n with
  | zero =>
    intro v4 v5 v6 v12 S M h
    cases h
  | succ n ih =>
    intro v4 v5 v6 v12 S M h b d H locs ls hI hl
    unfold f_L_law_b396 at h
    refine lv_iload hx hb dL_law_396 (lv_at hl 6 rfl) ?_
    refine lv_iload hx hb dL_law_398 (lv_at hl 4 rfl) ?_
    refine lv_icmp_ge (tgt := 549) hx hb dL_law_400 (by decide) (fun c214 => ?_) (fun c214 => ?_)
    · replace h := gw_ifT c214 h
      obtain ⟨y215, e216, h⟩ := gw_letE h
      refine lv_iinc (v := y215) (lv' := [(6, .int y215), (0, .ref b0), (1, .ref (a 0)), (3, .ref (am 1)), (4, .int v4), (5, .int v5), (12, .int v12)]) hx hb dL_law_549 hl (k := 5) rfl (by rw [e216]; rfl) (by decide) rfl (fun ls hl => ?_)
      refine lv_goto (tgt := 76) hx hb dL_law_552 (by decide) ?_
      exact hK76 v4 v5 y215 S M h b d _ _ _ hI (lv_sub hl [1, 2, 3, 4, 5, 0] rfl)
    · replace h := gw_ifF c214 h
      refine lv_aload_n hx hb dL_law_403 rfl (lv_at hl 1 rfl) ?_
      refine lv_iload hx hb dL_law_404 (lv_at hl 6 rfl) ?_
      obtain ⟨r217, e218, h⟩ := gw_bdE h
      refine gw_callVF (w := gw_o2 cc am M) (wc := gw_cw cc a b d S) (As := [.int v12]) (n := 1) B hI (k_X8_has v12 S e218) gL_law_X8_has rfl rfl rfl ndl_X8_has ⟨Nat.le_of_ble_eq_true rfl, Nat.le_of_ble_eq_true rfl⟩ gc_g0 rfl rfl rfl hl.1 (Nat.zero_le _) dL_law_406 ⟨by show cl + 0 ≤ 600000; omega, by show sl + 0 ≤ 7302250; omega⟩ rfl (fun w' H locs hw hI => ?_)
      subst hw
      refine lv_istore (lv' := [(13, .int r217), (0, .ref b0), (1, .ref (a 0)), (3, .ref (am 1)), (4, .int v4), (5, .int v5), (6, .int v6), (12, .int v12)]) hx hb dL_law_409 hl (by decide) rfl (fun ls hl => ?_)
      refine lv_iload hx hb dL_law_411 (lv_at hl 0 rfl) ?_
      refine lv_if_lt (tgt := 543) hx hb dL_law_413 (by decide) (fun c219 => ?_) (fun c219 => ?_)
      · replace h := gw_ifT c219 h
        obtain ⟨y220, e221, h⟩ := gw_letE h
        refine lv_iinc (v := y220) (lv' := [(12, .int y220), (13, .int r217), (0, .ref b0), (1, .ref (a 0)), (3, .ref (am 1)), (4, .int v4), (5, .int v5), (6, .int v6)]) hx hb dL_law_543 hl (k := 7) rfl (by rw [e221]; rfl) (by decide) rfl (fun ls hl => ?_)
        refine lv_goto (tgt := 396) hx hb dL_law_546 (by decide) ?_
        exact ih v4 v5 v6 y220 S M h b d _ _ _ hI (lv_sub hl [2, 3, 4, 5, 6, 7, 0] rfl)
      · replace h := gw_ifF c219 h
        refine lv_aload_n hx hb dL_law_416 rfl (lv_at hl 2 rfl) ?_
        refine lv_iload hx hb dL_law_417 (lv_at hl 0 rfl) ?_
        refine lv_aload_n hx hb dL_law_419 rfl (lv_at hl 3 rfl) ?_
        refine lv_iconst (v := 4) hx hb dL_law_420 (by decide) ?_
        refine lv_iload hx hb dL_law_421 (lv_at hl 7 rfl) ?_
        refine lv_imul hx hb dL_law_423 ?_
        obtain ⟨g222, h⟩ := gw_gdE h
        refine gw_iald (q0 := 1) (t0 := 0) B hI rfl rfl g222 dL_law_424 ?_
        refine lv_aload_n hx hb dL_law_425 rfl (lv_at hl 3 rfl) ?_
        refine lv_iconst (v := 4) hx hb dL_law_426 (by decide) ?_
        refine lv_iload hx hb dL_law_427 (lv_at hl 7 rfl) ?_
        refine lv_imul hx hb dL_law_429 ?_
        refine lv_iconst (v := 1) hx hb dL_law_430 (by decide) ?_
        refine lv_iadd hx hb dL_law_431 ?_
        obtain ⟨g223, h⟩ := gw_gdE h
        refine gw_iald (q0 := 1) (t0 := 0) B hI rfl rfl g223 dL_law_432 ?_
        obtain ⟨r224, e225, h⟩ := gw_bdE h
        refine gw_callVF (w := gw_o2 cc am M) (wc := gw_cw cc a b d S) (As := [.int r217, .int (M 1 ((4 : Int32) * v12).toNatClampNeg), .int (M 1 (((4 : Int32) * v12) + (1 : Int32)).toNatClampNeg)]) (n := 3) B hI (k_X8_fits r217 (M 1 ((4 : Int32) * v12).toNatClampNeg) (M 1 (((4 : Int32) * v12) + (1 : Int32)).toNatClampNeg) S e225) gL_law_X8_fits rfl rfl rfl ndl_X8_fits ⟨Nat.le_of_ble_eq_true rfl, Nat.le_of_ble_eq_true rfl⟩ gc_g0 rfl rfl rfl hl.1 (Nat.zero_le _) dL_law_433 ⟨by show cl + 0 ≤ 600000; omega, by show sl + 0 ≤ 7302250; omega⟩ rfl (fun w' H locs hw hI => ?_)
        subst hw
        refine lv_iconst (v := 2) hx hb dL_law_436 (by decide) ?_
        refine lv_icmp_ne (tgt := 470) hx hb dL_law_437 (by decide) (fun c226 => ?_) (fun c226 => ?_)
        · replace h := gw_ifF c226 h
          refine lv_iconst (v := 0) hx hb dL_law_470 (by decide) ?_
          exact absurd (Option.some.inj h) (by decide)
        · replace h := gw_ifT c226 h
          refine lv_aload_n hx hb dL_law_440 rfl (lv_at hl 2 rfl) ?_
          refine lv_iload hx hb dL_law_441 (lv_at hl 0 rfl) ?_
          refine lv_bipush (v := 9) hx hb dL_law_443 (by decide) ?_
          obtain ⟨r227, e228, h⟩ := gw_bdE h
          refine gw_callVF (w := gw_o2 cc am M) (wc := gw_cw cc a b d S) (As := [.int r217, .int (9 : Int32)]) (n := 2) B hI (k_X8_told r217 (9 : Int32) S e228) gL_law_X8_told rfl rfl rfl ndl_X8_told ⟨Nat.le_of_ble_eq_true rfl, Nat.le_of_ble_eq_true rfl⟩ gc_g0 rfl rfl rfl hl.1 (Nat.zero_le _) dL_law_445 ⟨by show cl + 0 ≤ 600000; omega, by show sl + 0 ≤ 7302250; omega⟩ rfl (fun w' H locs hw hI => ?_)
          subst hw
          refine lv_if_lt (tgt := 472) hx hb dL_law_448 (by decide) (fun c229 => ?_) (fun c229 => ?_)
          · replace h := gw_ifT c229 h
            refine lv_iconst (v := 0) hx hb dL_law_472 (by decide) ?_
            refine lv_istore (lv' := [(14, .int (0 : Int32)), (13, .int r217), (0, .ref b0), (1, .ref (a 0)), (3, .ref (am 1)), (4, .int v4), (5, .int v5), (6, .int v6), (12, .int v12)]) hx hb dL_law_473 hl (by decide) rfl (fun ls hl => ?_)
            exact kL_law_b475 hX hbl hbA B hr hlocks hA2 (by omega) (by omega) hK76 ih gw_F v4 v5 v6 v12 r217 (0 : Int32) S M h b d _ _ _ hI (lv_sub hl [2, 3, 4, 5, 6, 7, 8, 1, 0] rfl)
          · replace h := gw_ifF c229 h
            refine lv_aload_n hx hb dL_law_451 rfl (lv_at hl 2 rfl) ?_
            refine lv_iload hx hb dL_law_452 (lv_at hl 0 rfl) ?_
            refine lv_bipush (v := 9) hx hb dL_law_454 (by decide) ?_
            obtain ⟨r230, e231, h⟩ := gw_bdE h
            refine gw_callVF (w := gw_o2 cc am M) (wc := gw_cw cc a b d S) (As := [.int r217, .int (9 : Int32)]) (n := 2) B hI (k_X8_told r217 (9 : Int32) S e231) gL_law_X8_told rfl rfl rfl ndl_X8_told ⟨Nat.le_of_ble_eq_true rfl, Nat.le_of_ble_eq_true rfl⟩ gc_g0 rfl rfl rfl hl.1 (Nat.zero_le _) dL_law_456 ⟨by show cl + 0 ≤ 600000; omega, by show sl + 0 ≤ 7302250; omega⟩ rfl (fun w' H locs hw hI => ?_)
            subst hw
            refine lv_aload_n hx hb dL_law_459 rfl (lv_at hl 3 rfl) ?_
            refine lv_iconst (v := 4) hx hb dL_law_460 (by decide) ?_
            refine lv_iload hx hb dL_law_461 (lv_at hl 7 rfl) ?_
            refine lv_imul hx hb dL_law_463 ?_
            refine lv_iconst (v := 2) hx hb dL_law_464 (by decide) ?_
            refine lv_iadd hx hb dL_law_465 ?_
            obtain ⟨g232, h⟩ := gw_gdE h
            refine gw_iald (q0 := 1) (t0 := 0) B hI rfl rfl g232 dL_law_466 ?_
            refine lv_icmp_gt (tgt := 472) hx hb dL_law_467 (by decide) (fun c233 => ?_) (fun c233 => ?_)
            · replace h := gw_ifT c233 h
              refine lv_iconst (v := 0) hx hb dL_law_472 (by decide) ?_
              refine lv_istore (lv' := [(14, .int (0 : Int32)), (13, .int r217), (0, .ref b0), (1, .ref (a 0)), (3, .ref (am 1)), (4, .int v4), (5, .int v5), (6, .int v6), (12, .int v12)]) hx hb dL_law_473 hl (by decide) rfl (fun ls hl => ?_)
              exact kL_law_b475 hX hbl hbA B hr hlocks hA2 (by omega) (by omega) hK76 ih gw_F v4 v5 v6 v12 r217 (0 : Int32) S M h b d _ _ _ hI (lv_sub hl [2, 3, 4, 5, 6, 7, 8, 1, 0] rfl)
            · replace h := gw_ifF c233 h
              refine lv_iconst (v := 0) hx hb dL_law_470 (by decide) ?_
              exact absurd (Option.some.inj h) (by decide)
set_option maxRecDepth 100000 in
set_option maxHeartbeats 4000000 in
theorem kL_law_b393 {p : Program} {l : Launch} {e : Env} {s : State} {m : MethodId} {below : List Frame} {meth : Method} {c : Code} {D : va_G} {cc : Nat → ClassId} {t1 t2 b0 L : Nat} {A : Nat → Prop} {a am : Nat → Nat} {xs : Nat → Int32} (hX : va_X b0 L xs s s.heap) (hbl : b0 < s.heap.size) (hbA : ¬ A b0) (B : gw_B p s m #[Value.ref b0] meth c cL_law 15 wsL_law RL ret D (gw_ty cc) t1 t2 A) (hr : meth.sig.returnType = ret) (hlocks : meth.locks = false) (hA2 : ∀ q, A q → s.heap.size ≤ q) {cl sl : Nat} (h1 : cl + 1 ≤ 600000) (h2 : sl + 10 ≤ 7302250) {K76 : Int32 → Int32 → Int32 → gw_S → gw_S → Option Int32} (hK76 : ∀ (v4 v5 v6 : Int32) (S M : gw_S), K76 v4 v5 v6 S M = some 1 → ∀ (b d : Nat → Nat) (H : Heap) (locs : List Loc) (ls : Array Slot), gw_I D A s.heap (gw_o2 cc am M ++ gw_cw cc a b d S) H locs → lv_has ls 15 [(0, .ref b0), (1, .ref (a 0)), (3, .ref (am 1)), (4, .int v4), (5, .int v5), (6, .int v6)] → W p l e room_1 s m #[Value.ref b0] below meth c H locs cl sl (lw_Z below #[Value.ref b0] s) (F0 m 76 ls [])) : ∀ (v4 v5 v6 : Int32) (S M : gw_S), f_L_law_b393 xs L K76 v4 v5 v6 S M = some 1 → ∀ (b d : Nat → Nat) (H : Heap) (locs : List Loc) (ls : Array Slot), gw_I D A s.heap (gw_o2 cc am M ++ gw_cw cc a b d S) H locs → lv_has ls 15 [(0, .ref b0), (1, .ref (a 0)), (3, .ref (am 1)), (4, .int v4), (5, .int v5), (6, .int v6)] → W p l e room_1 s m #[Value.ref b0] below meth c H locs cl sl (lw_Z below #[Value.ref b0] s) (F0 m 393 ls []) := by
  have hx := B.1.1
  have hb := B.1.2.1
  have hown : s.vm.findClass RL = some m.cls := B.1.2.2.2.1
  have hts := B.1.2.2.2.2
  intro v4 v5 v6 S M h b d H locs ls hI hl
  unfold f_L_law_b393 at h
  refine lv_iconst (v := 0) hx hb dL_law_393 (by decide) ?_
  refine lv_istore (lv' := [(12, .int (0 : Int32)), (0, .ref b0), (1, .ref (a 0)), (3, .ref (am 1)), (4, .int v4), (5, .int v5), (6, .int v6)]) hx hb dL_law_394 hl (by decide) rfl (fun ls hl => ?_)
  exact kL_law_b396 hX hbl hbA B hr hlocks hA2 (by omega) (by omega) hK76 gw_F v4 v5 v6 (0 : Int32) S M h b d _ _ _ hI (lv_sub hl [1, 2, 3, 4, 5, 6, 0] rfl)
set_option maxRecDepth 100000 in
set_option maxHeartbeats 4000000 in
theorem kL_law_b209 {p : Program} {l : Launch} {e : Env} {s : State} {m : MethodId} {below : List Frame} {meth : Method} {c : Code} {D : va_G} {cc : Nat → ClassId} {t1 t2 b0 L : Nat} {A : Nat → Prop} {a am : Nat → Nat} {xs : Nat → Int32} (hX : va_X b0 L xs s s.heap) (hbl : b0 < s.heap.size) (hbA : ¬ A b0) (B : gw_B p s m #[Value.ref b0] meth c cL_law 15 wsL_law RL ret D (gw_ty cc) t1 t2 A) (hr : meth.sig.returnType = ret) (hlocks : meth.locks = false) (hA2 : ∀ q, A q → s.heap.size ≤ q) {cl sl : Nat} (h1 : cl + 1 ≤ 600000) (h2 : sl + 10 ≤ 7302250) {K76 : Int32 → Int32 → Int32 → gw_S → gw_S → Option Int32} (hK76 : ∀ (v4 v5 v6 : Int32) (S M : gw_S), K76 v4 v5 v6 S M = some 1 → ∀ (b d : Nat → Nat) (H : Heap) (locs : List Loc) (ls : Array Slot), gw_I D A s.heap (gw_o2 cc am M ++ gw_cw cc a b d S) H locs → lv_has ls 15 [(0, .ref b0), (1, .ref (a 0)), (3, .ref (am 1)), (4, .int v4), (5, .int v5), (6, .int v6)] → W p l e room_1 s m #[Value.ref b0] below meth c H locs cl sl (lw_Z below #[Value.ref b0] s) (F0 m 76 ls [])) : ∀ (v4 v5 v6 v11 v12 : Int32) (S M : gw_S), f_L_law_b209 xs L K76 v4 v5 v6 v11 v12 S M = some 1 → ∀ (b d : Nat → Nat) (H : Heap) (locs : List Loc) (ls : Array Slot), gw_I D A s.heap (gw_o2 cc am M ++ gw_cw cc a b d S) H locs → lv_has ls 15 [(0, .ref b0), (1, .ref (a 0)), (3, .ref (am 1)), (4, .int v4), (5, .int v5), (6, .int v6), (11, .int v11), (12, .int v12)] → W p l e room_1 s m #[Value.ref b0] below meth c H locs cl sl (lw_Z below #[Value.ref b0] s) (F0 m 209 ls []) := by
  have hx := B.1.1
  have hb := B.1.2.1
  have hown : s.vm.findClass RL = some m.cls := B.1.2.2.2.1
  have hts := B.1.2.2.2.2
  intro v4 v5 v6 v11 v12 S M h b d H locs ls hI hl
  unfold f_L_law_b209 at h
  refine lv_aload_n hx hb dL_law_209 rfl (lv_at hl 1 rfl) ?_
  refine lv_bipush (v := 6) hx hb dL_law_210 (by decide) ?_
  obtain ⟨r234, e235, h⟩ := gw_bdE h
  refine gw_callVF (w := gw_o2 cc am M) (wc := gw_cw cc a b d S) (As := [.int (6 : Int32)]) (n := 1) B hI (k_X8_count (6 : Int32) S e235) gL_law_X8_count rfl rfl rfl ndl_X8_count ⟨Nat.le_of_ble_eq_true rfl, Nat.le_of_ble_eq_true rfl⟩ gc_g0 rfl rfl rfl hl.1 (Nat.zero_le _) dL_law_212 ⟨by show cl + 0 ≤ 600000; omega, by show sl + 0 ≤ 7302250; omega⟩ rfl (fun w' H locs hw hI => ?_)
  subst hw
  refine lv_iload hx hb dL_law_215 (lv_at hl 6 rfl) ?_
  refine lv_iload hx hb dL_law_217 (lv_at hl 7 rfl) ?_
  refine lv_if_lt (tgt := 226) hx hb dL_law_219 (by decide) (fun c236 => ?_) (fun c236 => ?_)
  · replace h := gw_ifT c236 h
    refine lv_iconst (v := 0) hx hb dL_law_226 (by decide) ?_
    refine lv_iadd hx hb dL_law_227 ?_
    refine lv_icmp_eq (tgt := 233) hx hb dL_law_228 (by decide) (fun c237 => ?_) (fun c237 => ?_)
    · replace h := gw_ifT c237 h
      refine lv_goto (tgt := 393) hx hb dL_law_233 (by decide) ?_
      exact kL_law_b393 hX hbl hbA B hr hlocks hA2 (by omega) (by omega) hK76 v4 v5 v6 S M h b d _ _ _ hI (lv_sub hl [0, 1, 2, 3, 4, 5] rfl)
    · replace h := gw_ifF c237 h
      refine lv_iconst (v := 0) hx hb dL_law_231 (by decide) ?_
      exact absurd (Option.some.inj h) (by decide)
  · replace h := gw_ifF c236 h
    refine lv_iconst (v := 1) hx hb dL_law_222 (by decide) ?_
    refine lv_goto (tgt := 227) hx hb dL_law_223 (by decide) ?_
    refine lv_iadd hx hb dL_law_227 ?_
    refine lv_icmp_eq (tgt := 233) hx hb dL_law_228 (by decide) (fun c238 => ?_) (fun c238 => ?_)
    · replace h := gw_ifT c238 h
      refine lv_goto (tgt := 393) hx hb dL_law_233 (by decide) ?_
      exact kL_law_b393 hX hbl hbA B hr hlocks hA2 (by omega) (by omega) hK76 v4 v5 v6 S M h b d _ _ _ hI (lv_sub hl [0, 1, 2, 3, 4, 5] rfl)
    · replace h := gw_ifF c238 h
      refine lv_iconst (v := 0) hx hb dL_law_231 (by decide) ?_
      exact absurd (Option.some.inj h) (by decide)
set_option maxRecDepth 100000 in
set_option maxHeartbeats 4000000 in
theorem kL_law_b158 {p : Program} {l : Launch} {e : Env} {s : State} {m : MethodId} {below : List Frame} {meth : Method} {c : Code} {D : va_G} {cc : Nat → ClassId} {t1 t2 b0 L : Nat} {A : Nat → Prop} {a am : Nat → Nat} {xs : Nat → Int32} (hX : va_X b0 L xs s s.heap) (hbl : b0 < s.heap.size) (hbA : ¬ A b0) (B : gw_B p s m #[Value.ref b0] meth c cL_law 15 wsL_law RL ret D (gw_ty cc) t1 t2 A) (hr : meth.sig.returnType = ret) (hlocks : meth.locks = false) (hA2 : ∀ q, A q → s.heap.size ≤ q) {cl sl : Nat} (h1 : cl + 1 ≤ 600000) (h2 : sl + 10 ≤ 7302250) {K76 : Int32 → Int32 → Int32 → gw_S → gw_S → Option Int32} (hK76 : ∀ (v4 v5 v6 : Int32) (S M : gw_S), K76 v4 v5 v6 S M = some 1 → ∀ (b d : Nat → Nat) (H : Heap) (locs : List Loc) (ls : Array Slot), gw_I D A s.heap (gw_o2 cc am M ++ gw_cw cc a b d S) H locs → lv_has ls 15 [(0, .ref b0), (1, .ref (a 0)), (3, .ref (am 1)), (4, .int v4), (5, .int v5), (6, .int v6)] → W p l e room_1 s m #[Value.ref b0] below meth c H locs cl sl (lw_Z below #[Value.ref b0] s) (F0 m 76 ls [])) : ∀ (n : Nat), ∀ (v4 v5 v6 v9 v11 v12 v13 : Int32) (S M : gw_S), f_L_law_b158 xs L K76 n v4 v5 v6 v9 v11 v12 v13 S M = some 1 → ∀ (b d : Nat → Nat) (H : Heap) (locs : List Loc) (ls : Array Slot), gw_I D A s.heap (gw_o2 cc am M ++ gw_cw cc a b d S) H locs → lv_has ls 15 [(0, .ref b0), (1, .ref (a 0)), (3, .ref (am 1)), (4, .int v4), (5, .int v5), (6, .int v6), (9, .int v9), (11, .int v11), (12, .int v12), (13, .int v13)] → W p l e room_1 s m #[Value.ref b0] below meth c H locs cl sl (lw_Z below #[Value.ref b0] s) (F0 m 158 ls []) := by
  have hx := B.1.1
  have hb := B.1.2.1
  have hown : s.vm.findClass RL = some m.cls := B.1.2.2.2.1
  have hts := B.1.2.2.2.2
  intro n
  induction n with
  | zero =>
    intro v4 v5 v6 v9 v11 v12 v13 S M h
    cases h
  | succ n ih =>
    intro v4 v5 v6 v9 v11 v12 v13 S M h b d H locs ls hI hl
    unfold f_L_law_b158 at h
    refine lv_iload hx hb dL_law_158 (lv_at hl 9 rfl) ?_
    refine lv_iload hx hb dL_law_160 (lv_at hl 3 rfl) ?_
    refine lv_icmp_ge (tgt := 209) hx hb dL_law_162 (by decide) (fun c239 => ?_) (fun c239 => ?_)
    · replace h := gw_ifT c239 h
      exact kL_law_b209 hX hbl hbA B hr hlocks hA2 (by omega) (by omega) hK76 v4 v5 v6 v11 v12 S M h b d _ _ _ hI (lv_sub hl [0, 1, 2, 3, 4, 5, 7, 8] rfl)
    · replace h := gw_ifF c239 h
      refine lv_aload_n hx hb dL_law_165 rfl (lv_at hl 1 rfl) ?_
      refine lv_iload hx hb dL_law_166 (lv_at hl 9 rfl) ?_
      refine lv_iload hx hb dL_law_168 (lv_at hl 6 rfl) ?_
      obtain ⟨r240, e241, h⟩ := gw_bdE h
      refine gw_callVF (w := gw_o2 cc am M) (wc := gw_cw cc a b d S) (As := [.int v13, .int v9]) (n := 2) B hI (k_X8_free v13 v9 S e241) gL_law_X8_free rfl rfl rfl ndl_X8_free ⟨Nat.le_of_ble_eq_true rfl, Nat.le_of_ble_eq_true rfl⟩ gc_g0 rfl rfl rfl hl.1 (Nat.zero_le _) dL_law_170 ⟨by show cl + 0 ≤ 600000; omega, by show sl + 0 ≤ 7302250; omega⟩ rfl (fun w' H locs hw hI => ?_)
      subst hw
      refine lv_iconst (v := 1) hx hb dL_law_173 (by decide) ?_
      refine lv_icmp_ne (tgt := 203) hx hb dL_law_174 (by decide) (fun c242 => ?_) (fun c242 => ?_)
      · replace h := gw_ifF c242 h
        obtain ⟨y243, e244, h⟩ := gw_letE h
        refine lv_iinc (v := y243) (lv' := [(13, .int y243), (0, .ref b0), (1, .ref (a 0)), (3, .ref (am 1)), (4, .int v4), (5, .int v5), (6, .int v6), (9, .int v9), (11, .int v11), (12, .int v12)]) hx hb dL_law_203 hl (k := 9) rfl (by rw [e244]; rfl) (by decide) rfl (fun ls hl => ?_)
        refine lv_goto (tgt := 158) hx hb dL_law_206 (by decide) ?_
        exact ih v4 v5 v6 v9 v11 v12 y243 S M h b d _ _ _ hI (lv_sub hl [1, 2, 3, 4, 5, 6, 7, 8, 9, 0] rfl)
      · replace h := gw_ifT c242 h
        refine lv_aload_n hx hb dL_law_177 rfl (lv_at hl 1 rfl) ?_
        refine lv_iload hx hb dL_law_178 (lv_at hl 9 rfl) ?_
        refine lv_aload_n hx hb dL_law_180 rfl (lv_at hl 2 rfl) ?_
        refine lv_iconst (v := 4) hx hb dL_law_181 (by decide) ?_
        refine lv_iload hx hb dL_law_182 (lv_at hl 6 rfl) ?_
        refine lv_imul hx hb dL_law_184 ?_
        obtain ⟨g245, h⟩ := gw_gdE h
        refine gw_iald (q0 := 1) (t0 := 0) B hI rfl rfl g245 dL_law_185 ?_
        refine lv_aload_n hx hb dL_law_186 rfl (lv_at hl 2 rfl) ?_
        refine lv_iconst (v := 4) hx hb dL_law_187 (by decide) ?_
        refine lv_iload hx hb dL_law_188 (lv_at hl 6 rfl) ?_
        refine lv_imul hx hb dL_law_190 ?_
        refine lv_iconst (v := 1) hx hb dL_law_191 (by decide) ?_
        refine lv_iadd hx hb dL_law_192 ?_
        obtain ⟨g246, h⟩ := gw_gdE h
        refine gw_iald (q0 := 1) (t0 := 0) B hI rfl rfl g246 dL_law_193 ?_
        obtain ⟨r247, e248, h⟩ := gw_bdE h
        refine gw_callVF (w := gw_o2 cc am M) (wc := gw_cw cc a b d S) (As := [.int v13, .int (M 1 ((4 : Int32) * v9).toNatClampNeg), .int (M 1 (((4 : Int32) * v9) + (1 : Int32)).toNatClampNeg)]) (n := 3) B hI (k_X8_fits v13 (M 1 ((4 : Int32) * v9).toNatClampNeg) (M 1 (((4 : Int32) * v9) + (1 : Int32)).toNatClampNeg) S e248) gL_law_X8_fits rfl rfl rfl ndl_X8_fits ⟨Nat.le_of_ble_eq_true rfl, Nat.le_of_ble_eq_true rfl⟩ gc_g0 rfl rfl rfl hl.1 (Nat.zero_le _) dL_law_194 ⟨by show cl + 0 ≤ 600000; omega, by show sl + 0 ≤ 7302250; omega⟩ rfl (fun w' H locs hw hI => ?_)
        subst hw
        refine lv_iconst (v := 2) hx hb dL_law_197 (by decide) ?_
        refine lv_icmp_ne (tgt := 203) hx hb dL_law_198 (by decide) (fun c249 => ?_) (fun c249 => ?_)
        · replace h := gw_ifF c249 h
          obtain ⟨y250, e251, h⟩ := gw_letE h
          refine lv_iinc (v := y250) (lv' := [(13, .int y250), (0, .ref b0), (1, .ref (a 0)), (3, .ref (am 1)), (4, .int v4), (5, .int v5), (6, .int v6), (9, .int v9), (11, .int v11), (12, .int v12)]) hx hb dL_law_203 hl (k := 9) rfl (by rw [e251]; rfl) (by decide) rfl (fun ls hl => ?_)
          refine lv_goto (tgt := 158) hx hb dL_law_206 (by decide) ?_
          exact ih v4 v5 v6 v9 v11 v12 y250 S M h b d _ _ _ hI (lv_sub hl [1, 2, 3, 4, 5, 6, 7, 8, 9, 0] rfl)
        · replace h := gw_ifT c249 h
          refine lv_iconst (v := 0) hx hb dL_law_201 (by decide) ?_
          exact absurd (Option.some.inj h) (by decide)
set_option maxRecDepth 100000 in
set_option maxHeartbeats 4000000 in
theorem kL_law_b76 {p : Program} {l : Launch} {e : Env} {s : State} {m : MethodId} {below : List Frame} {meth : Method} {c : Code} {D : va_G} {cc : Nat → ClassId} {t1 t2 b0 L : Nat} {A : Nat → Prop} {a am : Nat → Nat} {xs : Nat → Int32} (hX : va_X b0 L xs s s.heap) (hbl : b0 < s.heap.size) (hbA : ¬ A b0) (B : gw_B p s m #[Value.ref b0] meth c cL_law 15 wsL_law RL ret D (gw_ty cc) t1 t2 A) (hr : meth.sig.returnType = ret) (hlocks : meth.locks = false) (hA2 : ∀ q, A q → s.heap.size ≤ q) {cl sl : Nat} (h1 : cl + 1 ≤ 600000) (h2 : sl + 10 ≤ 7302250)  : ∀ (n : Nat), ∀ (v4 v5 v6 : Int32) (S M : gw_S), f_L_law_b76 xs L  n v4 v5 v6 S M = some 1 → ∀ (b d : Nat → Nat) (H : Heap) (locs : List Loc) (ls : Array Slot), gw_I D A s.heap (gw_o2 cc am M ++ gw_cw cc a b d S) H locs → lv_has ls 15 [(0, .ref b0), (1, .ref (a 0)), (3, .ref (am 1)), (4, .int v4), (5, .int v5), (6, .int v6)] → W p l e room_1 s m #[Value.ref b0] below meth c H locs cl sl (lw_Z below #[Value.ref b0] s) (F0 m 76 ls []) := by
  have hx := B.1.1
  have hb := B.1.2.1
  have hown : s.vm.findClass RL = some m.cls := B.1.2.2.2.1
  have hts := B.1.2.2.2.2
  intro n
  induction n with
  | zero =>
    intro v4 v5 v6 S M h
    cases h
  | succ n ih =>
    intro v4 v5 v6 S M h b d H locs ls hI hl
    unfold f_L_law_b76 at h
    refine lv_iload hx hb dL_law_76 (lv_at hl 5 rfl) ?_
    refine lv_bipush (v := 30) hx hb dL_law_78 (by decide) ?_
    refine lv_icmp_ge (tgt := 555) hx hb dL_law_80 (by decide) (fun c252 => ?_) (fun c252 => ?_)
    · replace h := gw_ifT c252 h
      refine lv_bipush (v := 10) hx hb dL_law_555 (by decide) ?_
      refine gw_newa (t0 := 0) (N := 10) (ty := .int) B hI rfl rfl rfl (by decide +kernel) (by decide) rfl (Nat.le_of_ble_eq_true rfl) (by show cl + 1 ≤ 600000; omega) (by show sl + 10 ≤ 7302250; omega) dL_law_557 (fun q253 H hI => ?_)
      have hI := gw_o3of hI
      refine lv_astore (lv' := [(6, .ref q253), (0, .ref b0), (1, .ref (a 0)), (3, .ref (am 1)), (4, .int v4), (5, .int v5)]) hx hb dL_law_559 hl (by decide) rfl (fun ls hl => ?_)
      exact kL_law_b561 hX hbl hbA B hr hlocks hA2 (by omega) (by omega)  v4 v5 S (gw_m3 M) h b d _ _ _ hI (lv_sub hl [2, 4, 5, 0] rfl)
    · replace h := gw_ifF c252 h
      refine lv_aload_n hx hb dL_law_83 rfl (lv_at hl 0 rfl) ?_
      refine lv_bipush (v := 20) hx hb dL_law_84 (by decide) ?_
      refine lv_iload hx hb dL_law_86 (lv_at hl 5 rfl) ?_
      refine lv_iadd hx hb dL_law_88 ?_
      obtain ⟨r254, e255, h⟩ := gw_bdE h
      refine gw_callSX (As := [.ref b0, .int ((20 : Int32) + v6)]) (n := 2) ⟨hX, hbl, hbA⟩ B hI (k_L_cell (b0 := b0) (xs := xs) (L := L) ((20 : Int32) + v6) _ e255) gL_law_L_cell rfl rfl rfl nds_L_cell ⟨Nat.le_of_ble_eq_true rfl, Nat.le_of_ble_eq_true rfl⟩ rfl hl.1 (Nat.zero_le _) dL_law_89 ⟨by show cl + 0 ≤ 600000; omega, by show sl + 0 ≤ 7302250; omega⟩ rfl (fun w' H locs hw hI => ?_)
      subst hw
      refine lv_istore (lv' := [(7, .int r254), (0, .ref b0), (1, .ref (a 0)), (3, .ref (am 1)), (4, .int v4), (5, .int v5), (6, .int v6)]) hx hb dL_law_92 hl (by decide) rfl (fun ls hl => ?_)
      refine lv_iload hx hb dL_law_94 (lv_at hl 0 rfl) ?_
      refine lv_bipush (v := 6) hx hb dL_law_96 (by decide) ?_
      obtain ⟨r256, e257, h⟩ := gw_bdE h
      refine gw_callS (As := [.int r254, .int (6 : Int32)]) (n := 2)  B hI (k_L_some r254 (6 : Int32) _ e257) gL_law_L_some rfl rfl rfl nds_L_some ⟨Nat.le_of_ble_eq_true rfl, Nat.le_of_ble_eq_true rfl⟩ rfl hl.1 (Nat.zero_le _) dL_law_98 ⟨by show cl + 0 ≤ 600000; omega, by show sl + 0 ≤ 7302250; omega⟩ rfl (fun w' H locs hw hI => ?_)
      subst hw
      refine lv_istore (lv' := [(8, .int r256), (7, .int r254), (0, .ref b0), (1, .ref (a 0)), (3, .ref (am 1)), (4, .int v4), (5, .int v5), (6, .int v6)]) hx hb dL_law_101 hl (by decide) rfl (fun ls hl => ?_)
      refine lv_iload hx hb dL_law_103 (lv_at hl 1 rfl) ?_
      refine lv_iconst (v := 4) hx hb dL_law_105 (by decide) ?_
      refine lv_ishr hx hb dL_law_106 ?_
      refine lv_iload hx hb dL_law_107 (lv_at hl 6 rfl) ?_
      obtain ⟨r258, e259, h⟩ := gw_bdE h
      refine gw_callS (As := [.int (r254 >>> ((4 : Int32) &&& 31)), .int v5]) (n := 2)  B hI (k_L_some (r254 >>> ((4 : Int32) &&& 31)) v5 _ e259) gL_law_L_some rfl rfl rfl nds_L_some ⟨Nat.le_of_ble_eq_true rfl, Nat.le_of_ble_eq_true rfl⟩ rfl hl.1 (Nat.zero_le _) dL_law_109 ⟨by show cl + 0 ≤ 600000; omega, by show sl + 0 ≤ 7302250; omega⟩ rfl (fun w' H locs hw hI => ?_)
      subst hw
      refine lv_istore (lv' := [(9, .int r258), (8, .int r256), (7, .int r254), (0, .ref b0), (1, .ref (a 0)), (3, .ref (am 1)), (4, .int v4), (5, .int v5), (6, .int v6)]) hx hb dL_law_112 hl (by decide) rfl (fun ls hl => ?_)
      refine lv_iload hx hb dL_law_114 (lv_at hl 2 rfl) ?_
      refine lv_bipush (v := 8) hx hb dL_law_116 (by decide) ?_
      refine lv_ishr hx hb dL_law_118 ?_
      refine lv_iload hx hb dL_law_119 (lv_at hl 6 rfl) ?_
      obtain ⟨r260, e261, h⟩ := gw_bdE h
      refine gw_callS (As := [.int (r254 >>> ((8 : Int32) &&& 31)), .int v4]) (n := 2)  B hI (k_L_some (r254 >>> ((8 : Int32) &&& 31)) v4 _ e261) gL_law_L_some rfl rfl rfl nds_L_some ⟨Nat.le_of_ble_eq_true rfl, Nat.le_of_ble_eq_true rfl⟩ rfl hl.1 (Nat.zero_le _) dL_law_121 ⟨by show cl + 0 ≤ 600000; omega, by show sl + 0 ≤ 7302250; omega⟩ rfl (fun w' H locs hw hI => ?_)
      subst hw
      refine lv_istore (lv' := [(10, .int r260), (9, .int r258), (8, .int r256), (7, .int r254), (0, .ref b0), (1, .ref (a 0)), (3, .ref (am 1)), (4, .int v4), (5, .int v5), (6, .int v6)]) hx hb dL_law_124 hl (by decide) rfl (fun ls hl => ?_)
      refine lv_aload_n hx hb dL_law_126 rfl (lv_at hl 5 rfl) ?_
      refine lv_bipush (v := 6) hx hb dL_law_127 (by decide) ?_
      obtain ⟨r262, e263, h⟩ := gw_bdE h
      refine gw_callVF (w := gw_o2 cc am M) (wc := gw_cw cc a b d S) (As := [.int (6 : Int32)]) (n := 1) B hI (k_X8_count (6 : Int32) S e263) gL_law_X8_count rfl rfl rfl ndl_X8_count ⟨Nat.le_of_ble_eq_true rfl, Nat.le_of_ble_eq_true rfl⟩ gc_g0 rfl rfl rfl hl.1 (Nat.zero_le _) dL_law_129 ⟨by show cl + 0 ≤ 600000; omega, by show sl + 0 ≤ 7302250; omega⟩ rfl (fun w' H locs hw hI => ?_)
      subst hw
      refine lv_istore (lv' := [(11, .int r262), (10, .int r260), (9, .int r258), (8, .int r256), (7, .int r254), (0, .ref b0), (1, .ref (a 0)), (3, .ref (am 1)), (4, .int v4), (5, .int v5), (6, .int v6)]) hx hb dL_law_132 hl (by decide) rfl (fun ls hl => ?_)
      refine lv_iload hx hb dL_law_134 (lv_at hl 3 rfl) ?_
      refine lv_iconst (v := 3) hx hb dL_law_136 (by decide) ?_
      refine lv_icmp_ge (tgt := 236) hx hb dL_law_137 (by decide) (fun c264 => ?_) (fun c264 => ?_)
      · replace h := gw_ifT c264 h
        refine lv_iload hx hb dL_law_236 (lv_at hl 3 rfl) ?_
        refine lv_iconst (v := 3) hx hb dL_law_238 (by decide) ?_
        refine lv_icmp_ne (tgt := 319) hx hb dL_law_239 (by decide) (fun c265 => ?_) (fun c265 => ?_)
        · replace h := gw_ifF c265 h
          refine lv_iload hx hb dL_law_319 (lv_at hl 3 rfl) ?_
          refine lv_iconst (v := 4) hx hb dL_law_321 (by decide) ?_
          refine lv_icmp_ne (tgt := 381) hx hb dL_law_322 (by decide) (fun c266 => ?_) (fun c266 => ?_)
          · replace h := gw_ifF c266 h
            refine lv_aload_n hx hb dL_law_381 rfl (lv_at hl 6 rfl) ?_
            refine lv_iload hx hb dL_law_382 (lv_at hl 1 rfl) ?_
            obtain ⟨r267, S269, e268, h⟩ := gw_b2E h
            refine gw_callVF (w := gw_o2 cc am M) (wc := gw_cw cc a b d S) (As := [.int r260]) (n := 1) B hI (k_X8_mend r260 S e268) gL_law_X8_mend rfl rfl rfl ndl_X8_mend ⟨Nat.le_of_ble_eq_true rfl, Nat.le_of_ble_eq_true rfl⟩ gc_g0 rfl rfl rfl hl.1 (Nat.zero_le _) dL_law_384 ⟨by show cl + 0 ≤ 600000; omega, by show sl + 0 ≤ 7302250; omega⟩ rfl (fun w' H locs hw hI => ?_)
            subst hw
            refine lv_iconst (v := -1) hx hb dL_law_387 (by decide) ?_
            refine lv_icmp_ne (tgt := 393) hx hb dL_law_388 (by decide) (fun c270 => ?_) (fun c270 => ?_)
            · replace h := gw_ifF c270 h
              exact kL_law_b393 hX hbl hbA B hr hlocks hA2 (by omega) (by omega) ih v4 v5 v6 S269 M h b d _ _ _ hI (lv_sub hl [5, 6, 7, 8, 9, 10] rfl)
            · replace h := gw_ifT c270 h
              refine lv_iconst (v := 0) hx hb dL_law_391 (by decide) ?_
              exact absurd (Option.some.inj h) (by decide)
          · replace h := gw_ifT c266 h
            refine lv_aload_n hx hb dL_law_325 rfl (lv_at hl 6 rfl) ?_
            refine lv_iload hx hb dL_law_326 (lv_at hl 1 rfl) ?_
            refine lv_bipush (v := 100) hx hb dL_law_328 (by decide) ?_
            refine lv_iload hx hb dL_law_330 (lv_at hl 4 rfl) ?_
            refine lv_bipush (v := 12) hx hb dL_law_332 (by decide) ?_
            refine lv_ishr hx hb dL_law_334 ?_
            refine lv_bipush (v := 14) hx hb dL_law_335 (by decide) ?_
            obtain ⟨r271, e272, h⟩ := gw_bdE h
            refine gw_callS (As := [.int (r254 >>> ((12 : Int32) &&& 31)), .int (14 : Int32)]) (n := 2)  B hI (k_L_some (r254 >>> ((12 : Int32) &&& 31)) (14 : Int32) _ e272) gL_law_L_some rfl rfl rfl nds_L_some ⟨Nat.le_of_ble_eq_true rfl, Nat.le_of_ble_eq_true rfl⟩ rfl hl.1 (Nat.le_of_ble_eq_true rfl) dL_law_337 ⟨by show cl + 0 ≤ 600000; omega, by show sl + 0 ≤ 7302250; omega⟩ rfl (fun w' H locs hw hI => ?_)
            subst hw
            refine lv_iadd hx hb dL_law_340 ?_
            obtain ⟨r273, S275, e274, h⟩ := gw_b2E h
            refine gw_callVF (w := gw_o2 cc am M) (wc := gw_cw cc a b d S) (As := [.int r260, .int ((100 : Int32) + r271)]) (n := 2) B hI (k_X8_tear r260 ((100 : Int32) + r271) S e274) gL_law_X8_tear rfl rfl rfl ndl_X8_tear ⟨Nat.le_of_ble_eq_true rfl, Nat.le_of_ble_eq_true rfl⟩ gc_g0 rfl rfl rfl hl.1 (Nat.zero_le _) dL_law_341 ⟨by show cl + 0 ≤ 600000; omega, by show sl + 0 ≤ 7302250; omega⟩ rfl (fun w' H locs hw hI => ?_)
            subst hw
            refine lv_istore (lv' := [(12, .int r273), (11, .int r262), (10, .int r260), (9, .int r258), (8, .int r256), (7, .int r254), (0, .ref b0), (1, .ref (a 0)), (3, .ref (am 1)), (4, .int v4), (5, .int v5), (6, .int v6)]) hx hb dL_law_344 hl (by decide) rfl (fun ls hl => ?_)
            refine lv_iload hx hb dL_law_346 (lv_at hl 0 rfl) ?_
            refine lv_bipush (v := -2) hx hb dL_law_348 (by decide) ?_
            refine lv_icmp_lt (tgt := 376) hx hb dL_law_350 (by decide) (fun c276 => ?_) (fun c276 => ?_)
            · replace h := gw_ifT c276 h
              refine lv_iconst (v := 0) hx hb dL_law_376 (by decide) ?_
              exact absurd (Option.some.inj h) (by decide)
            · replace h := gw_ifF c276 h
              refine lv_aload_n hx hb dL_law_353 rfl (lv_at hl 7 rfl) ?_
              refine lv_bipush (v := 6) hx hb dL_law_354 (by decide) ?_
              obtain ⟨r277, e278, h⟩ := gw_bdE h
              refine gw_callVF (w := gw_o2 cc am M) (wc := gw_cw cc a b d S275) (As := [.int (6 : Int32)]) (n := 1) B hI (k_X8_count (6 : Int32) S275 e278) gL_law_X8_count rfl rfl rfl ndl_X8_count ⟨Nat.le_of_ble_eq_true rfl, Nat.le_of_ble_eq_true rfl⟩ gc_g0 rfl rfl rfl hl.1 (Nat.zero_le _) dL_law_356 ⟨by show cl + 0 ≤ 600000; omega, by show sl + 0 ≤ 7302250; omega⟩ rfl (fun w' H locs hw hI => ?_)
              subst hw
              refine lv_iload hx hb dL_law_359 (lv_at hl 1 rfl) ?_
              refine lv_iload hx hb dL_law_361 (lv_at hl 0 rfl) ?_
              refine lv_if_le (tgt := 371) hx hb dL_law_363 (by decide) (fun c279 => ?_) (fun c279 => ?_)
              · replace h := gw_ifT c279 h
                refine lv_iconst (v := 0) hx hb dL_law_371 (by decide) ?_
                refine lv_isub hx hb dL_law_372 ?_
                refine lv_icmp_eq (tgt := 378) hx hb dL_law_373 (by decide) (fun c280 => ?_) (fun c280 => ?_)
                · replace h := gw_ifT c280 h
                  refine lv_goto (tgt := 393) hx hb dL_law_378 (by decide) ?_
                  exact kL_law_b393 hX hbl hbA B hr hlocks hA2 (by omega) (by omega) ih v4 v5 v6 S275 M h b d _ _ _ hI (lv_sub hl [6, 7, 8, 9, 10, 11] rfl)
                · replace h := gw_ifF c280 h
                  refine lv_iconst (v := 0) hx hb dL_law_376 (by decide) ?_
                  exact absurd (Option.some.inj h) (by decide)
              · replace h := gw_ifF c279 h
                refine lv_iload hx hb dL_law_366 (lv_at hl 0 rfl) ?_
                refine lv_goto (tgt := 372) hx hb dL_law_368 (by decide) ?_
                refine lv_isub hx hb dL_law_372 ?_
                refine lv_icmp_eq (tgt := 378) hx hb dL_law_373 (by decide) (fun c281 => ?_) (fun c281 => ?_)
                · replace h := gw_ifT c281 h
                  refine lv_goto (tgt := 393) hx hb dL_law_378 (by decide) ?_
                  exact kL_law_b393 hX hbl hbA B hr hlocks hA2 (by omega) (by omega) ih v4 v5 v6 S275 M h b d _ _ _ hI (lv_sub hl [6, 7, 8, 9, 10, 11] rfl)
                · replace h := gw_ifF c281 h
                  refine lv_iconst (v := 0) hx hb dL_law_376 (by decide) ?_
                  exact absurd (Option.some.inj h) (by decide)
        · replace h := gw_ifT c265 h
          refine lv_aload_n hx hb dL_law_242 rfl (lv_at hl 6 rfl) ?_
          refine lv_iload hx hb dL_law_243 (lv_at hl 2 rfl) ?_
          obtain ⟨r282, S284, e283, h⟩ := gw_b2E h
          refine gw_callVF (w := gw_o2 cc am M) (wc := gw_cw cc a b d S) (As := [.int r258]) (n := 1) B hI (k_X8_chain r258 S e283) gL_law_X8_chain rfl rfl rfl ndl_X8_chain ⟨Nat.le_of_ble_eq_true rfl, Nat.le_of_ble_eq_true rfl⟩ gc_g0 rfl rfl rfl hl.1 (Nat.zero_le _) dL_law_245 ⟨by show cl + 0 ≤ 600000; omega, by show sl + 0 ≤ 7302250; omega⟩ rfl (fun w' H locs hw hI => ?_)
          subst hw
          refine lv_istore (lv' := [(12, .int r282), (11, .int r262), (10, .int r260), (9, .int r258), (8, .int r256), (7, .int r254), (0, .ref b0), (1, .ref (a 0)), (3, .ref (am 1)), (4, .int v4), (5, .int v5), (6, .int v6)]) hx hb dL_law_248 hl (by decide) rfl (fun ls hl => ?_)
          refine lv_aload_n hx hb dL_law_250 rfl (lv_at hl 7 rfl) ?_
          refine lv_iload hx hb dL_law_251 (lv_at hl 3 rfl) ?_
          obtain ⟨r285, S287, e286, h⟩ := gw_b2E h
          refine gw_callVF (w := gw_o2 cc am M) (wc := gw_cw cc a b d S284) (As := [.int r258]) (n := 1) B hI (k_X8_swap r258 S284 e286) gL_law_X8_swap rfl rfl rfl ndl_X8_swap ⟨Nat.le_of_ble_eq_true rfl, Nat.le_of_ble_eq_true rfl⟩ gc_g0 rfl rfl rfl hl.1 (Nat.zero_le _) dL_law_253 ⟨by show cl + 0 ≤ 600000; omega, by show sl + 0 ≤ 7302250; omega⟩ rfl (fun w' H locs hw hI => ?_)
          subst hw
          refine lv_istore (lv' := [(13, .int r285), (12, .int r282), (11, .int r262), (10, .int r260), (9, .int r258), (8, .int r256), (7, .int r254), (0, .ref b0), (1, .ref (a 0)), (3, .ref (am 1)), (4, .int v4), (5, .int v5), (6, .int v6)]) hx hb dL_law_256 hl (by decide) rfl (fun ls hl => ?_)
          refine lv_iload hx hb dL_law_258 (lv_at hl 0 rfl) ?_
          refine lv_iload hx hb dL_law_260 (lv_at hl 1 rfl) ?_
          refine lv_icmp_ne (tgt := 314) hx hb dL_law_262 (by decide) (fun c288 => ?_) (fun c288 => ?_)
          · replace h := gw_ifF c288 h
            refine lv_iconst (v := 0) hx hb dL_law_314 (by decide) ?_
            exact absurd (Option.some.inj h) (by decide)
          · replace h := gw_ifT c288 h
            refine lv_aload_n hx hb dL_law_265 rfl (lv_at hl 8 rfl) ?_
            refine lv_bipush (v := 6) hx hb dL_law_266 (by decide) ?_
            obtain ⟨r289, e290, h⟩ := gw_bdE h
            refine gw_callVF (w := gw_o2 cc am M) (wc := gw_cw cc a b d S287) (As := [.int (6 : Int32)]) (n := 1) B hI (k_X8_count (6 : Int32) S287 e290) gL_law_X8_count rfl rfl rfl ndl_X8_count ⟨Nat.le_of_ble_eq_true rfl, Nat.le_of_ble_eq_true rfl⟩ gc_g0 rfl rfl rfl hl.1 (Nat.zero_le _) dL_law_268 ⟨by show cl + 0 ≤ 600000; omega, by show sl + 0 ≤ 7302250; omega⟩ rfl (fun w' H locs hw hI => ?_)
            subst hw
            refine lv_iload hx hb dL_law_271 (lv_at hl 2 rfl) ?_
            refine lv_iload hx hb dL_law_273 (lv_at hl 1 rfl) ?_
            refine lv_if_le (tgt := 282) hx hb dL_law_275 (by decide) (fun c291 => ?_) (fun c291 => ?_)
            · replace h := gw_ifT c291 h
              refine lv_iconst (v := 0) hx hb dL_law_282 (by decide) ?_
              refine lv_iadd hx hb dL_law_283 ?_
              refine lv_icmp_ne (tgt := 314) hx hb dL_law_284 (by decide) (fun c292 => ?_) (fun c292 => ?_)
              · replace h := gw_ifF c292 h
                refine lv_iconst (v := 0) hx hb dL_law_314 (by decide) ?_
                exact absurd (Option.some.inj h) (by decide)
              · replace h := gw_ifT c292 h
                refine lv_iload hx hb dL_law_287 (lv_at hl 1 rfl) ?_
                refine lv_if_le (tgt := 301) hx hb dL_law_289 (by decide) (fun c293 => ?_) (fun c293 => ?_)
                · replace h := gw_ifT c293 h
                  refine lv_iload hx hb dL_law_301 (lv_at hl 1 rfl) ?_
                  refine lv_aload_n hx hb dL_law_303 rfl (lv_at hl 8 rfl) ?_
                  refine lv_bipush (v := 119) hx hb dL_law_304 (by decide) ?_
                  obtain ⟨r294, e295, h⟩ := gw_bdE h
                  refine gw_callVF (w := gw_o2 cc am M) (wc := gw_cw cc a b d S287) (As := [.int (119 : Int32)]) (n := 1) B hI (k_X8_term (119 : Int32) S287 e295) gL_law_X8_term rfl rfl rfl ndl_X8_term ⟨Nat.le_of_ble_eq_true rfl, Nat.le_of_ble_eq_true rfl⟩ gc_g0 rfl rfl rfl hl.1 (Nat.le_of_ble_eq_true rfl) dL_law_306 ⟨by show cl + 0 ≤ 600000; omega, by show sl + 0 ≤ 7302250; omega⟩ rfl (fun w' H locs hw hI => ?_)
                  subst hw
                  refine lv_iconst (v := 1) hx hb dL_law_309 (by decide) ?_
                  refine lv_iadd hx hb dL_law_310 ?_
                  refine lv_icmp_le (tgt := 316) hx hb dL_law_311 (by decide) (fun c296 => ?_) (fun c296 => ?_)
                  · replace h := gw_ifT c296 h
                    refine lv_goto (tgt := 393) hx hb dL_law_316 (by decide) ?_
                    exact kL_law_b393 hX hbl hbA B hr hlocks hA2 (by omega) (by omega) ih v4 v5 v6 S287 M h b d _ _ _ hI (lv_sub hl [7, 8, 9, 10, 11, 12] rfl)
                  · replace h := gw_ifF c296 h
                    refine lv_iconst (v := 0) hx hb dL_law_314 (by decide) ?_
                    exact absurd (Option.some.inj h) (by decide)
                · replace h := gw_ifF c293 h
                  refine lv_aload_n hx hb dL_law_292 rfl (lv_at hl 8 rfl) ?_
                  refine lv_iload hx hb dL_law_293 (lv_at hl 4 rfl) ?_
                  obtain ⟨r297, e298, h⟩ := gw_bdE h
                  refine gw_callVF (w := gw_o2 cc am M) (wc := gw_cw cc a b d S287) (As := [.int r258]) (n := 1) B hI (k_X8_has r258 S287 e298) gL_law_X8_has rfl rfl rfl ndl_X8_has ⟨Nat.le_of_ble_eq_true rfl, Nat.le_of_ble_eq_true rfl⟩ gc_g0 rfl rfl rfl hl.1 (Nat.zero_le _) dL_law_295 ⟨by show cl + 0 ≤ 600000; omega, by show sl + 0 ≤ 7302250; omega⟩ rfl (fun w' H locs hw hI => ?_)
                  subst hw
                  refine lv_if_lt (tgt := 314) hx hb dL_law_298 (by decide) (fun c299 => ?_) (fun c299 => ?_)
                  · replace h := gw_ifT c299 h
                    refine lv_iconst (v := 0) hx hb dL_law_314 (by decide) ?_
                    exact absurd (Option.some.inj h) (by decide)
                  · replace h := gw_ifF c299 h
                    refine lv_iload hx hb dL_law_301 (lv_at hl 1 rfl) ?_
                    refine lv_aload_n hx hb dL_law_303 rfl (lv_at hl 8 rfl) ?_
                    refine lv_bipush (v := 119) hx hb dL_law_304 (by decide) ?_
                    obtain ⟨r300, e301, h⟩ := gw_bdE h
                    refine gw_callVF (w := gw_o2 cc am M) (wc := gw_cw cc a b d S287) (As := [.int (119 : Int32)]) (n := 1) B hI (k_X8_term (119 : Int32) S287 e301) gL_law_X8_term rfl rfl rfl ndl_X8_term ⟨Nat.le_of_ble_eq_true rfl, Nat.le_of_ble_eq_true rfl⟩ gc_g0 rfl rfl rfl hl.1 (Nat.le_of_ble_eq_true rfl) dL_law_306 ⟨by show cl + 0 ≤ 600000; omega, by show sl + 0 ≤ 7302250; omega⟩ rfl (fun w' H locs hw hI => ?_)
                    subst hw
                    refine lv_iconst (v := 1) hx hb dL_law_309 (by decide) ?_
                    refine lv_iadd hx hb dL_law_310 ?_
                    refine lv_icmp_le (tgt := 316) hx hb dL_law_311 (by decide) (fun c302 => ?_) (fun c302 => ?_)
                    · replace h := gw_ifT c302 h
                      refine lv_goto (tgt := 393) hx hb dL_law_316 (by decide) ?_
                      exact kL_law_b393 hX hbl hbA B hr hlocks hA2 (by omega) (by omega) ih v4 v5 v6 S287 M h b d _ _ _ hI (lv_sub hl [7, 8, 9, 10, 11, 12] rfl)
                    · replace h := gw_ifF c302 h
                      refine lv_iconst (v := 0) hx hb dL_law_314 (by decide) ?_
                      exact absurd (Option.some.inj h) (by decide)
            · replace h := gw_ifF c291 h
              refine lv_iconst (v := 1) hx hb dL_law_278 (by decide) ?_
              refine lv_goto (tgt := 283) hx hb dL_law_279 (by decide) ?_
              refine lv_iadd hx hb dL_law_283 ?_
              refine lv_icmp_ne (tgt := 314) hx hb dL_law_284 (by decide) (fun c303 => ?_) (fun c303 => ?_)
              · replace h := gw_ifF c303 h
                refine lv_iconst (v := 0) hx hb dL_law_314 (by decide) ?_
                exact absurd (Option.some.inj h) (by decide)
              · replace h := gw_ifT c303 h
                refine lv_iload hx hb dL_law_287 (lv_at hl 1 rfl) ?_
                refine lv_if_le (tgt := 301) hx hb dL_law_289 (by decide) (fun c304 => ?_) (fun c304 => ?_)
                · replace h := gw_ifT c304 h
                  refine lv_iload hx hb dL_law_301 (lv_at hl 1 rfl) ?_
                  refine lv_aload_n hx hb dL_law_303 rfl (lv_at hl 8 rfl) ?_
                  refine lv_bipush (v := 119) hx hb dL_law_304 (by decide) ?_
                  obtain ⟨r305, e306, h⟩ := gw_bdE h
                  refine gw_callVF (w := gw_o2 cc am M) (wc := gw_cw cc a b d S287) (As := [.int (119 : Int32)]) (n := 1) B hI (k_X8_term (119 : Int32) S287 e306) gL_law_X8_term rfl rfl rfl ndl_X8_term ⟨Nat.le_of_ble_eq_true rfl, Nat.le_of_ble_eq_true rfl⟩ gc_g0 rfl rfl rfl hl.1 (Nat.le_of_ble_eq_true rfl) dL_law_306 ⟨by show cl + 0 ≤ 600000; omega, by show sl + 0 ≤ 7302250; omega⟩ rfl (fun w' H locs hw hI => ?_)
                  subst hw
                  refine lv_iconst (v := 1) hx hb dL_law_309 (by decide) ?_
                  refine lv_iadd hx hb dL_law_310 ?_
                  refine lv_icmp_le (tgt := 316) hx hb dL_law_311 (by decide) (fun c307 => ?_) (fun c307 => ?_)
                  · replace h := gw_ifT c307 h
                    refine lv_goto (tgt := 393) hx hb dL_law_316 (by decide) ?_
                    exact kL_law_b393 hX hbl hbA B hr hlocks hA2 (by omega) (by omega) ih v4 v5 v6 S287 M h b d _ _ _ hI (lv_sub hl [7, 8, 9, 10, 11, 12] rfl)
                  · replace h := gw_ifF c307 h
                    refine lv_iconst (v := 0) hx hb dL_law_314 (by decide) ?_
                    exact absurd (Option.some.inj h) (by decide)
                · replace h := gw_ifF c304 h
                  refine lv_aload_n hx hb dL_law_292 rfl (lv_at hl 8 rfl) ?_
                  refine lv_iload hx hb dL_law_293 (lv_at hl 4 rfl) ?_
                  obtain ⟨r308, e309, h⟩ := gw_bdE h
                  refine gw_callVF (w := gw_o2 cc am M) (wc := gw_cw cc a b d S287) (As := [.int r258]) (n := 1) B hI (k_X8_has r258 S287 e309) gL_law_X8_has rfl rfl rfl ndl_X8_has ⟨Nat.le_of_ble_eq_true rfl, Nat.le_of_ble_eq_true rfl⟩ gc_g0 rfl rfl rfl hl.1 (Nat.zero_le _) dL_law_295 ⟨by show cl + 0 ≤ 600000; omega, by show sl + 0 ≤ 7302250; omega⟩ rfl (fun w' H locs hw hI => ?_)
                  subst hw
                  refine lv_if_lt (tgt := 314) hx hb dL_law_298 (by decide) (fun c310 => ?_) (fun c310 => ?_)
                  · replace h := gw_ifT c310 h
                    refine lv_iconst (v := 0) hx hb dL_law_314 (by decide) ?_
                    exact absurd (Option.some.inj h) (by decide)
                  · replace h := gw_ifF c310 h
                    refine lv_iload hx hb dL_law_301 (lv_at hl 1 rfl) ?_
                    refine lv_aload_n hx hb dL_law_303 rfl (lv_at hl 8 rfl) ?_
                    refine lv_bipush (v := 119) hx hb dL_law_304 (by decide) ?_
                    obtain ⟨r311, e312, h⟩ := gw_bdE h
                    refine gw_callVF (w := gw_o2 cc am M) (wc := gw_cw cc a b d S287) (As := [.int (119 : Int32)]) (n := 1) B hI (k_X8_term (119 : Int32) S287 e312) gL_law_X8_term rfl rfl rfl ndl_X8_term ⟨Nat.le_of_ble_eq_true rfl, Nat.le_of_ble_eq_true rfl⟩ gc_g0 rfl rfl rfl hl.1 (Nat.le_of_ble_eq_true rfl) dL_law_306 ⟨by show cl + 0 ≤ 600000; omega, by show sl + 0 ≤ 7302250; omega⟩ rfl (fun w' H locs hw hI => ?_)
                    subst hw
                    refine lv_iconst (v := 1) hx hb dL_law_309 (by decide) ?_
                    refine lv_iadd hx hb dL_law_310 ?_
                    refine lv_icmp_le (tgt := 316) hx hb dL_law_311 (by decide) (fun c313 => ?_) (fun c313 => ?_)
                    · replace h := gw_ifT c313 h
                      refine lv_goto (tgt := 393) hx hb dL_law_316 (by decide) ?_
                      exact kL_law_b393 hX hbl hbA B hr hlocks hA2 (by omega) (by omega) ih v4 v5 v6 S287 M h b d _ _ _ hI (lv_sub hl [7, 8, 9, 10, 11, 12] rfl)
                    · replace h := gw_ifF c313 h
                      refine lv_iconst (v := 0) hx hb dL_law_314 (by decide) ?_
                      exact absurd (Option.some.inj h) (by decide)
      · replace h := gw_ifF c264 h
        refine lv_aload_n hx hb dL_law_140 rfl (lv_at hl 6 rfl) ?_
        refine lv_iload hx hb dL_law_141 (lv_at hl 2 rfl) ?_
        obtain ⟨r314, S316, e315, h⟩ := gw_b2E h
        refine gw_callVF (w := gw_o2 cc am M) (wc := gw_cw cc a b d S) (As := [.int r258]) (n := 1) B hI (k_X8_give r258 S e315) gL_law_X8_give rfl rfl rfl ndl_X8_give ⟨Nat.le_of_ble_eq_true rfl, Nat.le_of_ble_eq_true rfl⟩ gc_g0 rfl rfl rfl hl.1 (Nat.zero_le _) dL_law_143 ⟨by show cl + 0 ≤ 600000; omega, by show sl + 0 ≤ 7302250; omega⟩ rfl (fun w' H locs hw hI => ?_)
        subst hw
        refine lv_istore (lv' := [(12, .int r314), (11, .int r262), (10, .int r260), (9, .int r258), (8, .int r256), (7, .int r254), (0, .ref b0), (1, .ref (a 0)), (3, .ref (am 1)), (4, .int v4), (5, .int v5), (6, .int v6)]) hx hb dL_law_146 hl (by decide) rfl (fun ls hl => ?_)
        refine lv_iload hx hb dL_law_148 (lv_at hl 0 rfl) ?_
        refine lv_bipush (v := -4) hx hb dL_law_150 (by decide) ?_
        refine lv_icmp_ne (tgt := 209) hx hb dL_law_152 (by decide) (fun c317 => ?_) (fun c317 => ?_)
        · replace h := gw_ifF c317 h
          exact kL_law_b209 hX hbl hbA B hr hlocks hA2 (by omega) (by omega) ih v4 v5 v6 r262 r314 S316 M h b d _ _ _ hI (lv_sub hl [6, 7, 8, 9, 10, 11, 1, 0] rfl)
        · replace h := gw_ifT c317 h
          refine lv_iconst (v := 0) hx hb dL_law_155 (by decide) ?_
          refine lv_istore (lv' := [(13, .int (0 : Int32)), (12, .int r314), (11, .int r262), (10, .int r260), (9, .int r258), (8, .int r256), (7, .int r254), (0, .ref b0), (1, .ref (a 0)), (3, .ref (am 1)), (4, .int v4), (5, .int v5), (6, .int v6)]) hx hb dL_law_156 hl (by decide) rfl (fun ls hl => ?_)
          exact kL_law_b158 hX hbl hbA B hr hlocks hA2 (by omega) (by omega) ih gw_F v4 v5 v6 r258 r262 r314 (0 : Int32) S316 M h b d _ _ _ hI (lv_sub hl [7, 8, 9, 10, 11, 12, 4, 2, 1, 0] rfl)
set_option maxRecDepth 100000 in
set_option maxHeartbeats 4000000 in
theorem kL_law_b18 {p : Program} {l : Launch} {e : Env} {s : State} {m : MethodId} {below : List Frame} {meth : Method} {c : Code} {D : va_G} {cc : Nat → ClassId} {t1 t2 b0 L : Nat} {A : Nat → Prop} {a am : Nat → Nat} {xs : Nat → Int32} (hX : va_X b0 L xs s s.heap) (hbl : b0 < s.heap.size) (hbA : ¬ A b0) (B : gw_B p s m #[Value.ref b0] meth c cL_law 15 wsL_law RL ret D (gw_ty cc) t1 t2 A) (hr : meth.sig.returnType = ret) (hlocks : meth.locks = false) (hA2 : ∀ q, A q → s.heap.size ≤ q) {cl sl : Nat} (h1 : cl + 19 ≤ 600000) (h2 : sl + 300 ≤ 7302250)  : ∀ (S M : gw_S), f_L_law_b18 xs L   S M = some 1 → ∀ (b d : Nat → Nat) (H : Heap) (locs : List Loc) (ls : Array Slot), gw_I D A s.heap (gw_o2 cc am M ++ gw_cw cc a b d S) H locs → lv_has ls 15 [(0, .ref b0), (1, .ref (a 0)), (2, .ref (am 0)), (3, .ref (am 1))] → W p l e room_1 s m #[Value.ref b0] below meth c H locs cl sl (lw_Z below #[Value.ref b0] s) (F0 m 18 ls []) := by
  have hx := B.1.1
  have hb := B.1.2.1
  have hown : s.vm.findClass RL = some m.cls := B.1.2.2.2.1
  have hts := B.1.2.2.2.2
  intro  S M h b d H locs ls hI hl
  unfold f_L_law_b18 at h
  refine lv_iconst (v := 1) hx hb dL_law_18 (by decide) ?_
  refine lv_aload_n hx hb dL_law_19 rfl (lv_at hl 0 rfl) ?_
  refine lv_iconst (v := 0) hx hb dL_law_20 (by decide) ?_
  obtain ⟨r318, e319, h⟩ := gw_bdE h
  refine gw_callSX (As := [.ref b0, .int (0 : Int32)]) (n := 2) ⟨hX, hbl, hbA⟩ B hI (k_L_cell (b0 := b0) (xs := xs) (L := L) (0 : Int32) _ e319) gL_law_L_cell rfl rfl rfl nds_L_cell ⟨Nat.le_of_ble_eq_true rfl, Nat.le_of_ble_eq_true rfl⟩ rfl hl.1 (Nat.le_of_ble_eq_true rfl) dL_law_21 ⟨by show cl + 0 ≤ 600000; omega, by show sl + 0 ≤ 7302250; omega⟩ rfl (fun w' H locs hw hI => ?_)
  subst hw
  refine lv_bipush (v := 6) hx hb dL_law_24 (by decide) ?_
  obtain ⟨r320, e321, h⟩ := gw_bdE h
  refine gw_callS (As := [.int r318, .int (6 : Int32)]) (n := 2)  B hI (k_L_some r318 (6 : Int32) _ e321) gL_law_L_some rfl rfl rfl nds_L_some ⟨Nat.le_of_ble_eq_true rfl, Nat.le_of_ble_eq_true rfl⟩ rfl hl.1 (Nat.le_of_ble_eq_true rfl) dL_law_26 ⟨by show cl + 0 ≤ 600000; omega, by show sl + 0 ≤ 7302250; omega⟩ rfl (fun w' H locs hw hI => ?_)
  subst hw
  refine lv_iadd hx hb dL_law_29 ?_
  obtain ⟨y322, e323, h⟩ := gw_letE h
  rw [← e323]
  refine lv_istore (lv' := [(4, .int y322), (0, .ref b0), (1, .ref (a 0)), (2, .ref (am 0)), (3, .ref (am 1))]) hx hb dL_law_30 hl (by decide) rfl (fun ls hl => ?_)
  refine lv_iconst (v := 2) hx hb dL_law_32 (by decide) ?_
  refine lv_aload_n hx hb dL_law_33 rfl (lv_at hl 1 rfl) ?_
  refine lv_iconst (v := 1) hx hb dL_law_34 (by decide) ?_
  obtain ⟨r324, e325, h⟩ := gw_bdE h
  refine gw_callSX (As := [.ref b0, .int (1 : Int32)]) (n := 2) ⟨hX, hbl, hbA⟩ B hI (k_L_cell (b0 := b0) (xs := xs) (L := L) (1 : Int32) _ e325) gL_law_L_cell rfl rfl rfl nds_L_cell ⟨Nat.le_of_ble_eq_true rfl, Nat.le_of_ble_eq_true rfl⟩ rfl hl.1 (Nat.le_of_ble_eq_true rfl) dL_law_35 ⟨by show cl + 0 ≤ 600000; omega, by show sl + 0 ≤ 7302250; omega⟩ rfl (fun w' H locs hw hI => ?_)
  subst hw
  refine lv_bipush (v := 9) hx hb dL_law_38 (by decide) ?_
  obtain ⟨r326, e327, h⟩ := gw_bdE h
  refine gw_callS (As := [.int r324, .int (9 : Int32)]) (n := 2)  B hI (k_L_some r324 (9 : Int32) _ e327) gL_law_L_some rfl rfl rfl nds_L_some ⟨Nat.le_of_ble_eq_true rfl, Nat.le_of_ble_eq_true rfl⟩ rfl hl.1 (Nat.le_of_ble_eq_true rfl) dL_law_40 ⟨by show cl + 0 ≤ 600000; omega, by show sl + 0 ≤ 7302250; omega⟩ rfl (fun w' H locs hw hI => ?_)
  subst hw
  refine lv_iadd hx hb dL_law_43 ?_
  obtain ⟨y328, e329, h⟩ := gw_letE h
  rw [← e329]
  refine lv_istore (lv' := [(5, .int y328), (4, .int y322), (0, .ref b0), (1, .ref (a 0)), (2, .ref (am 0)), (3, .ref (am 1))]) hx hb dL_law_44 hl (by decide) rfl (fun ls hl => ?_)
  refine lv_aload_n hx hb dL_law_46 rfl (lv_at hl 3 rfl) ?_
  refine lv_aload_n hx hb dL_law_47 rfl (lv_at hl 2 rfl) ?_
  refine lv_iconst (v := 2) hx hb dL_law_48 (by decide) ?_
  refine lv_iload hx hb dL_law_49 (lv_at hl 1 rfl) ?_
  refine lv_aload_n hx hb dL_law_51 rfl (lv_at hl 4 rfl) ?_
  obtain ⟨r330, S332, M333, e331, h⟩ := gw_b3E h
  refine gw_callSX (As := [.ref (a 0), .ref b0, .int (2 : Int32), .int y322, .ref (am 0)]) (n := 5) ⟨hX, hbl, hbA⟩ B hI (k_L_pieces (b0 := b0) (xs := xs) (L := L) (2 : Int32) y322 S M e331) gL_law_L_pieces rfl rfl rfl nds_L_pieces ⟨Nat.le_of_ble_eq_true rfl, Nat.le_of_ble_eq_true rfl⟩ rfl hl.1 (Nat.zero_le _) dL_law_52 ⟨by show cl + 7 ≤ 600000; omega, by show sl + 84 ≤ 7302250; omega⟩ rfl (fun w' H locs hw hI => ?_)
  obtain ⟨b334, d335, rfl⟩ := hw
  refine lv_if_eq (tgt := 71) hx hb dL_law_55 (by decide) (fun c336 => ?_) (fun c336 => ?_)
  · replace h := gw_ifT c336 h
    refine lv_iconst (v := 0) hx hb dL_law_71 (by decide) ?_
    exact absurd (Option.some.inj h) (by decide)
  · replace h := gw_ifF c336 h
    refine lv_aload_n hx hb dL_law_58 rfl (lv_at hl 3 rfl) ?_
    refine lv_aload_n hx hb dL_law_59 rfl (lv_at hl 2 rfl) ?_
    refine lv_bipush (v := 8) hx hb dL_law_60 (by decide) ?_
    refine lv_iload hx hb dL_law_62 (lv_at hl 0 rfl) ?_
    refine lv_aload_n hx hb dL_law_64 rfl (lv_at hl 5 rfl) ?_
    obtain ⟨r337, S339, M340, e338, h⟩ := gw_b3E h
    refine gw_callSX (As := [.ref (a 0), .ref b0, .int (8 : Int32), .int y328, .ref (am 1)]) (n := 5) ⟨hX, hbl, hbA⟩ B hI (k_L_books (b0 := b0) (xs := xs) (L := L) (8 : Int32) y328 S332 M333 e338) gL_law_L_books rfl rfl rfl nds_L_books ⟨Nat.le_of_ble_eq_true rfl, Nat.le_of_ble_eq_true rfl⟩ rfl hl.1 (Nat.zero_le _) dL_law_65 ⟨by show (cl + 7) + 11 ≤ 600000; omega, by show (sl + 84) + 154 ≤ 7302250; omega⟩ rfl (fun w' H locs hw hI => ?_)
    obtain ⟨b341, d342, rfl⟩ := hw
    refine lv_if_ne (tgt := 73) hx hb dL_law_68 (by decide) (fun c343 => ?_) (fun c343 => ?_)
    · replace h := gw_ifF c343 h
      refine lv_iconst (v := 0) hx hb dL_law_73 (by decide) ?_
      refine lv_istore (lv' := [(6, .int (0 : Int32)), (5, .int y328), (4, .int y322), (0, .ref b0), (1, .ref (a 0)), (2, .ref (am 0)), (3, .ref (am 1))]) hx hb dL_law_74 hl (by decide) rfl (fun ls hl => ?_)
      exact kL_law_b76 hX hbl hbA B hr hlocks hA2 (by omega) (by omega)  gw_F y322 y328 (0 : Int32) S339 M340 h b341 d342 _ _ _ hI (lv_sub hl [3, 4, 6, 2, 1, 0] rfl)
    · replace h := gw_ifT c343 h
      refine lv_iconst (v := 0) hx hb dL_law_71 (by decide) ?_
      exact absurd (Option.some.inj h) (by decide)
