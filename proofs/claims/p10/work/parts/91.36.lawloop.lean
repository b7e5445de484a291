theorem gw_outL {x : Int32} (h0 : ¬ x = 0) (h1 : ¬ x = 1) (h2 : ¬ x = 2) (h3 : ¬ x = 3) (h4 : ¬ x = 4) (h5 : ¬ x = 5) (h6 : ¬ x = 6) (h7 : ¬ x = 7) (h8 : ¬ x = 8) (h9 : ¬ x = 9) (h10 : ¬ x = 10) (h11 : ¬ x = 11) (h12 : ¬ x = 12) (h13 : ¬ x = 13) (h14 : ¬ x = 14) (h15 : ¬ x = 15) (h16 : ¬ x = 16) (h17 : ¬ x = 17) (h18 : ¬ x = 18) (h19 : ¬ x = 19) (h20 : ¬ x = 20) (h21 : ¬ x = 21) (h22 : ¬ x = 22) (h23 : ¬ x = 23) (h24 : ¬ x = 24) (h25 : ¬ x = 25) (h26 : ¬ x = 26) (h27 : ¬ x = 27) (h28 : ¬ x = 28) (h29 : ¬ x = 29) (h30 : ¬ x = 30) (h31 : ¬ x = 31) (h32 : ¬ x = 32) (h33 : ¬ x = 33) (h34 : ¬ x = 34) : x.toInt < 0 ∨ (34 : Int) < x.toInt := by
  have q0 : ¬ x.toInt = 0 := lv_neT h0 (by decide)
  have q1 : ¬ x.toInt = 1 := lv_neT h1 (by decide)
  have q2 : ¬ x.toInt = 2 := lv_neT h2 (by decide)
  have q3 : ¬ x.toInt = 3 := lv_neT h3 (by decide)
  have q4 : ¬ x.toInt = 4 := lv_neT h4 (by decide)
  have q5 : ¬ x.toInt = 5 := lv_neT h5 (by decide)
  have q6 : ¬ x.toInt = 6 := lv_neT h6 (by decide)
  have q7 : ¬ x.toInt = 7 := lv_neT h7 (by decide)
  have q8 : ¬ x.toInt = 8 := lv_neT h8 (by decide)
  have q9 : ¬ x.toInt = 9 := lv_neT h9 (by decide)
  have q10 : ¬ x.toInt = 10 := lv_neT h10 (by decide)
  have q11 : ¬ x.toInt = 11 := lv_neT h11 (by decide)
  have q12 : ¬ x.toInt = 12 := lv_neT h12 (by decide)
  have q13 : ¬ x.toInt = 13 := lv_neT h13 (by decide)
  have q14 : ¬ x.toInt = 14 := lv_neT h14 (by decide)
  have q15 : ¬ x.toInt = 15 := lv_neT h15 (by decide)
  have q16 : ¬ x.toInt = 16 := lv_neT h16 (by decide)
  have q17 : ¬ x.toInt = 17 := lv_neT h17 (by decide)
  have q18 : ¬ x.toInt = 18 := lv_neT h18 (by decide)
  have q19 : ¬ x.toInt = 19 := lv_neT h19 (by decide)
  have q20 : ¬ x.toInt = 20 := lv_neT h20 (by decide)
  have q21 : ¬ x.toInt = 21 := lv_neT h21 (by decide)
  have q22 : ¬ x.toInt = 22 := lv_neT h22 (by decide)
  have q23 : ¬ x.toInt = 23 := lv_neT h23 (by decide)
  have q24 : ¬ x.toInt = 24 := lv_neT h24 (by decide)
  have q25 : ¬ x.toInt = 25 := lv_neT h25 (by decide)
  have q26 : ¬ x.toInt = 26 := lv_neT h26 (by decide)
  have q27 : ¬ x.toInt = 27 := lv_neT h27 (by decide)
  have q28 : ¬ x.toInt = 28 := lv_neT h28 (by decide)
  have q29 : ¬ x.toInt = 29 := lv_neT h29 (by decide)
  have q30 : ¬ x.toInt = 30 := lv_neT h30 (by decide)
  have q31 : ¬ x.toInt = 31 := lv_neT h31 (by decide)
  have q32 : ¬ x.toInt = 32 := lv_neT h32 (by decide)
  have q33 : ¬ x.toInt = 33 := lv_neT h33 (by decide)
  have q34 : ¬ x.toInt = 34 := lv_neT h34 (by decide)
  omega
set_option maxRecDepth 100000 in
set_option maxHeartbeats 4000000 in
theorem k_law_s {p : Program} {l : Launch} {e : Env} {s : State} {m : MethodId} {below : List Frame} {meth : Method} {c : Code} {D : va_G} {cc : Nat → ClassId} {t1 t2 b0 L : Nat} {A : Nat → Prop} {a am : Nat → Nat} {xs : Nat → Int32} (hX : va_X b0 L xs s s.heap) (hbl : b0 < s.heap.size) (hbA : ¬ A b0) (B : gw_B p s m #[Value.ref b0] meth c cL_law 4 wsL_law RL ret D (gw_ty cc) t1 t2 A) {i k : Int32} {cl sl : Nat} (h1 : cl + 7 ≤ 600000) (h2 : sl + 98 ≤ 7302250) {K : gw_S → gw_S → Option Int32} (hK : ∀ (S M : gw_S), K S M = some 1 → ∀ (b d : Nat → Nat) (H : Heap) (locs : List Loc) (ls : Array Slot), gw_I D A s.heap (gw_mw cc am M ++ gw_cw cc a b d S) H locs → lv_has ls 4 [(0, .ref b0), (1, .ref (a 0)), (2, .ref (am 0)), (3, .int i)] → W p l e room_1 s m #[Value.ref b0] below meth c H locs (cl + 7) (sl + 98) (lw_Z below #[Value.ref b0] s) (F0 m 1551 ls [])) (S M : gw_S) (h : f_law_s xs L i k K S M = some 1) (b d : Nat → Nat) (H : Heap) (locs : List Loc) (ls : Array Slot) (hI : gw_I D A s.heap (gw_mw cc am M ++ gw_cw cc a b d S) H locs) (hl : lv_has ls 4 [(0, .ref b0), (1, .ref (a 0)), (2, .ref (am 0)), (3, .int i)]) : W p l e room_1 s m #[Value.ref b0] below meth c H locs cl sl (lw_Z below #[Value.ref b0] s) (F0 m 33 ls [.int k]) := by
  have hx := B.1.1
  have hb := B.1.2.1
  unfold f_law_s at h
  by_cases q0 : k = 0
  · replace h := gw_ifT q0 h
    refine gw_tabIn (k := 0) (off := 155) (tgt := 188) B q0 dL_law_33 (by decide) (by decide) ?_
    exact k_law_c0 hX hbl hbA B h1 h2 hK S M h b d H locs ls hI hl
  replace h := gw_ifF q0 h
  by_cases q1 : k = 1
  · replace h := gw_ifT q1 h
    refine gw_tabIn (k := 1) (off := 218) (tgt := 251) B q1 dL_law_33 (by decide) (by decide) ?_
    exact k_law_c1 hX hbl hbA B h1 h2 hK S M h b d H locs ls hI hl
  replace h := gw_ifF q1 h
  by_cases q2 : k = 2
  · replace h := gw_ifT q2 h
    refine gw_tabIn (k := 2) (off := 231) (tgt := 264) B q2 dL_law_33 (by decide) (by decide) ?_
    exact k_law_c2 hX hbl hbA B h1 h2 hK S M h b d H locs ls hI hl
  replace h := gw_ifF q2 h
  by_cases q3 : k = 3
  · replace h := gw_ifT q3 h
    refine gw_tabIn (k := 3) (off := 254) (tgt := 287) B q3 dL_law_33 (by decide) (by decide) ?_
    exact k_law_c3 hX hbl hbA B h1 h2 hK S M h b d H locs ls hI hl
  replace h := gw_ifF q3 h
  by_cases q4 : k = 4
  · replace h := gw_ifT q4 h
    refine gw_tabIn (k := 4) (off := 297) (tgt := 330) B q4 dL_law_33 (by decide) (by decide) ?_
    exact k_law_c4 hX hbl hbA B h1 h2 hK S M h b d H locs ls hI hl
  replace h := gw_ifF q4 h
  by_cases q5 : k = 5
  · replace h := gw_ifT q5 h
    refine gw_tabIn (k := 5) (off := 372) (tgt := 405) B q5 dL_law_33 (by decide) (by decide) ?_
    exact k_law_c5 hX hbl hbA B h1 h2 hK S M h b d H locs ls hI hl
  replace h := gw_ifF q5 h
  by_cases q6 : k = 6
  · replace h := gw_ifT q6 h
    refine gw_tabIn (k := 6) (off := 447) (tgt := 480) B q6 dL_law_33 (by decide) (by decide) ?_
    exact k_law_c6 hX hbl hbA B h1 h2 hK S M h b d H locs ls hI hl
  replace h := gw_ifF q6 h
  by_cases q7 : k = 7
  · replace h := gw_ifT q7 h
    refine gw_tabIn (k := 7) (off := 522) (tgt := 555) B q7 dL_law_33 (by decide) (by decide) ?_
    exact k_law_c7 hX hbl hbA B h1 h2 hK S M h b d H locs ls hI hl
  replace h := gw_ifF q7 h
  by_cases q8 : k = 8
  · replace h := gw_ifT q8 h
    refine gw_tabIn (k := 8) (off := 555) (tgt := 588) B q8 dL_law_33 (by decide) (by decide) ?_
    exact k_law_c8 hX hbl hbA B h1 h2 hK S M h b d H locs ls hI hl
  replace h := gw_ifF q8 h
  by_cases q9 : k = 9
  · replace h := gw_ifT q9 h
    refine gw_tabIn (k := 9) (off := 588) (tgt := 621) B q9 dL_law_33 (by decide) (by decide) ?_
    exact k_law_c9 hX hbl hbA B h1 h2 hK S M h b d H locs ls hI hl
  replace h := gw_ifF q9 h
  by_cases q10 : k = 10
  · replace h := gw_ifT q10 h
    refine gw_tabIn (k := 10) (off := 641) (tgt := 674) B q10 dL_law_33 (by decide) (by decide) ?_
    exact k_law_c10 hX hbl hbA B h1 h2 hK S M h b d H locs ls hI hl
  replace h := gw_ifF q10 h
  by_cases q11 : k = 11
  · replace h := gw_ifT q11 h
    refine gw_tabIn (k := 11) (off := 674) (tgt := 707) B q11 dL_law_33 (by decide) (by decide) ?_
    exact k_law_c11 hX hbl hbA B h1 h2 hK S M h b d H locs ls hI hl
  replace h := gw_ifF q11 h
  by_cases q12 : k = 12
  · replace h := gw_ifT q12 h
    refine gw_tabIn (k := 12) (off := 687) (tgt := 720) B q12 dL_law_33 (by decide) (by decide) ?_
    exact k_law_c12 hX hbl hbA B h1 h2 hK S M h b d H locs ls hI hl
  replace h := gw_ifF q12 h
  by_cases q13 : k = 13
  · replace h := gw_ifT q13 h
    refine gw_tabIn (k := 13) (off := 730) (tgt := 763) B q13 dL_law_33 (by decide) (by decide) ?_
    exact k_law_c13 hX hbl hbA B h1 h2 hK S M h b d H locs ls hI hl
  replace h := gw_ifF q13 h
  by_cases q14 : k = 14
  · replace h := gw_ifT q14 h
    refine gw_tabIn (k := 14) (off := 805) (tgt := 838) B q14 dL_law_33 (by decide) (by decide) ?_
    exact k_law_c14 hX hbl hbA B h1 h2 hK S M h b d H locs ls hI hl
  replace h := gw_ifF q14 h
  by_cases q15 : k = 15
  · replace h := gw_ifT q15 h
    refine gw_tabIn (k := 15) (off := 838) (tgt := 871) B q15 dL_law_33 (by decide) (by decide) ?_
    exact k_law_c15 hX hbl hbA B h1 h2 hK S M h b d H locs ls hI hl
  replace h := gw_ifF q15 h
  by_cases q16 : k = 16
  · replace h := gw_ifT q16 h
    refine gw_tabIn (k := 16) (off := 861) (tgt := 894) B q16 dL_law_33 (by decide) (by decide) ?_
    exact k_law_c16 hX hbl hbA B h1 h2 hK S M h b d H locs ls hI hl
  replace h := gw_ifF q16 h
  by_cases q17 : k = 17
  · replace h := gw_ifT q17 h
    refine gw_tabIn (k := 17) (off := 884) (tgt := 917) B q17 dL_law_33 (by decide) (by decide) ?_
    exact k_law_c17 hX hbl hbA B h1 h2 hK S M h b d H locs ls hI hl
  replace h := gw_ifF q17 h
  by_cases q18 : k = 18
  · replace h := gw_ifT q18 h
    refine gw_tabIn (k := 18) (off := 917) (tgt := 950) B q18 dL_law_33 (by decide) (by decide) ?_
    exact k_law_c18 hX hbl hbA B h1 h2 hK S M h b d H locs ls hI hl
  replace h := gw_ifF q18 h
  by_cases q19 : k = 19
  · replace h := gw_ifT q19 h
    refine gw_tabIn (k := 19) (off := 960) (tgt := 993) B q19 dL_law_33 (by decide) (by decide) ?_
    exact k_law_c19 hX hbl hbA B h1 h2 hK S M h b d H locs ls hI hl
  replace h := gw_ifF q19 h
  by_cases q20 : k = 20
  · replace h := gw_ifT q20 h
    refine gw_tabIn (k := 20) (off := 993) (tgt := 1026) B q20 dL_law_33 (by decide) (by decide) ?_
    exact k_law_c20 hX hbl hbA B h1 h2 hK S M h b d H locs ls hI hl
  replace h := gw_ifF q20 h
  by_cases q21 : k = 21
  · replace h := gw_ifT q21 h
    refine gw_tabIn (k := 21) (off := 1016) (tgt := 1049) B q21 dL_law_33 (by decide) (by decide) ?_
    exact k_law_c21 hX hbl hbA B h1 h2 hK S M h b d H locs ls hI hl
  replace h := gw_ifF q21 h
  by_cases q22 : k = 22
  · replace h := gw_ifT q22 h
    refine gw_tabIn (k := 22) (off := 1039) (tgt := 1072) B q22 dL_law_33 (by decide) (by decide) ?_
    exact k_law_c22 hX hbl hbA B h1 h2 hK S M h b d H locs ls hI hl
  replace h := gw_ifF q22 h
  by_cases q23 : k = 23
  · replace h := gw_ifT q23 h
    refine gw_tabIn (k := 23) (off := 1082) (tgt := 1115) B q23 dL_law_33 (by decide) (by decide) ?_
    exact k_law_c23 hX hbl hbA B h1 h2 hK S M h b d H locs ls hI hl
  replace h := gw_ifF q23 h
  by_cases q24 : k = 24
  · replace h := gw_ifT q24 h
    refine gw_tabIn (k := 24) (off := 1105) (tgt := 1138) B q24 dL_law_33 (by decide) (by decide) ?_
    exact k_law_c24 hX hbl hbA B h1 h2 hK S M h b d H locs ls hI hl
  replace h := gw_ifF q24 h
  by_cases q25 : k = 25
  · replace h := gw_ifT q25 h
    refine gw_tabIn (k := 25) (off := 1138) (tgt := 1171) B q25 dL_law_33 (by decide) (by decide) ?_
    exact k_law_c25 hX hbl hbA B h1 h2 hK S M h b d H locs ls hI hl
  replace h := gw_ifF q25 h
  by_cases q26 : k = 26
  · replace h := gw_ifT q26 h
    refine gw_tabIn (k := 26) (off := 1191) (tgt := 1224) B q26 dL_law_33 (by decide) (by decide) ?_
    exact k_law_c26 hX hbl hbA B h1 h2 hK S M h b d H locs ls hI hl
  replace h := gw_ifF q26 h
  by_cases q27 : k = 27
  · replace h := gw_ifT q27 h
    refine gw_tabIn (k := 27) (off := 1224) (tgt := 1257) B q27 dL_law_33 (by decide) (by decide) ?_
    exact k_law_c27 hX hbl hbA B h1 h2 hK S M h b d H locs ls hI hl
  replace h := gw_ifF q27 h
  by_cases q28 : k = 28
  · replace h := gw_ifT q28 h
    refine gw_tabIn (k := 28) (off := 1267) (tgt := 1300) B q28 dL_law_33 (by decide) (by decide) ?_
    exact k_law_c28 hX hbl hbA B h1 h2 hK S M h b d H locs ls hI hl
  replace h := gw_ifF q28 h
  by_cases q29 : k = 29
  · replace h := gw_ifT q29 h
    refine gw_tabIn (k := 29) (off := 1300) (tgt := 1333) B q29 dL_law_33 (by decide) (by decide) ?_
    exact k_law_c29 hX hbl hbA B h1 h2 hK S M h b d H locs ls hI hl
  replace h := gw_ifF q29 h
  by_cases q30 : k = 30
  · replace h := gw_ifT q30 h
    refine gw_tabIn (k := 30) (off := 1323) (tgt := 1356) B q30 dL_law_33 (by decide) (by decide) ?_
    exact k_law_c30 hX hbl hbA B h1 h2 hK S M h b d H locs ls hI hl
  replace h := gw_ifF q30 h
  by_cases q31 : k = 31
  · replace h := gw_ifT q31 h
    refine gw_tabIn (k := 31) (off := 1346) (tgt := 1379) B q31 dL_law_33 (by decide) (by decide) ?_
    exact k_law_c31 hX hbl hbA B h1 h2 hK S M h b d H locs ls hI hl
  replace h := gw_ifF q31 h
  by_cases q32 : k = 32
  · replace h := gw_ifT q32 h
    refine gw_tabIn (k := 32) (off := 1389) (tgt := 1422) B q32 dL_law_33 (by decide) (by decide) ?_
    exact k_law_c32 hX hbl hbA B h1 h2 hK S M h b d H locs ls hI hl
  replace h := gw_ifF q32 h
  by_cases q33 : k = 33
  · replace h := gw_ifT q33 h
    refine gw_tabIn (k := 33) (off := 1412) (tgt := 1445) B q33 dL_law_33 (by decide) (by decide) ?_
    exact k_law_c33 hX hbl hbA B h1 h2 hK S M h b d H locs ls hI hl
  replace h := gw_ifF q33 h
  by_cases q34 : k = 34
  · replace h := gw_ifT q34 h
    refine gw_tabIn (k := 34) (off := 1465) (tgt := 1498) B q34 dL_law_33 (by decide) (by decide) ?_
    exact k_law_c34 hX hbl hbA B h1 h2 hK S M h b d H locs ls hI hl
  replace h := gw_ifF q34 h
  refine lv_tableOut (tgt := 1551) hx hb dL_law_33 (gw_outL q0 q1 q2 q3 q4 q5 q6 q7 q8 q9 q10 q11 q12 q13 q14 q15 q16 q17 q18 q19 q20 q21 q22 q23 q24 q25 q26 q27 q28 q29 q30 q31 q32 q33 q34) (by decide) ?_
  refine W.widen (k := cl + 7) (n := sl + 98) (by omega) (by omega) ?_
  exact hK S M h b d H locs ls hI hl
set_option maxRecDepth 100000 in
set_option maxHeartbeats 4000000 in
theorem law_loop {p : Program} {l : Launch} {e : Env} {s : State} {m : MethodId} {below : List Frame} {meth : Method} {c : Code} {D : va_G} {cc : Nat → ClassId} {t1 t2 b0 L : Nat} {A : Nat → Prop} {a am : Nat → Nat} {xs : Nat → Int32} (hX : va_X b0 L xs s s.heap) (hbl : b0 < s.heap.size) (hbA : ¬ A b0) (B : gw_B p s m #[Value.ref b0] meth c cL_law 4 wsL_law RL ret D (gw_ty cc) t1 t2 A) (hLs : L ≤ 3584) (hr : meth.sig.returnType = ret) (hlocks : meth.locks = false) (hA2 : ∀ q, A q → s.heap.size ≤ q) : ∀ (n cl sl : Nat), cl + 7 * n ≤ 600000 → sl + 98 * n ≤ 7302250 → ∀ (i : Int32) (S M : gw_S), f_law xs L n i S M = some 1 → ∀ (b d : Nat → Nat) (H : Heap) (locs : List Loc) (ls : Array Slot), gw_I D A s.heap (gw_mw cc am M ++ gw_cw cc a b d S) H locs → lv_has ls 4 [(0, .ref b0), (1, .ref (a 0)), (2, .ref (am 0)), (3, .int i)] → W p l e room_1 s m #[Value.ref b0] below meth c H locs cl sl (lw_Z below #[Value.ref b0] s) (F0 m 18 ls []) := by
  have hx := B.1.1
  have hb := B.1.2.1
  intro n
  induction n with
  | zero =>
    intro cl sl _ _ i S M h
    cases h
  | succ n ih =>
    intro cl sl h1 h2 i S M h b d H locs ls hI hl
    unfold f_law at h
    refine lv_iload_n hx hb dL_law_18 rfl (lv_at hl 3 rfl) ?_
    refine lv_aload_n hx hb dL_law_19 rfl (lv_at hl 0 rfl) ?_
    refine va_slen hx hb hX hbl hbA hI.2.2 dL_law_20 ?_
    refine lv_bipush (v := 7) hx hb dL_law_21 (by decide) ?_
    refine lv_isub hx hb dL_law_23 ?_
    refine lv_icmp_gt (tgt := 1557) hx hb dL_law_24 (by decide) (fun c1 => ?_) (fun c1 => ?_)
    · refine lv_iconst (v := 1) hx hb dL_law_1557 (by decide) ?_
      refine va_forget (fun q hq => hA2 _ (hI.2.2.2.2 q hq)) ?_
      refine W.widen (k := 600000) (n := 7302250) (by omega) (by omega) ?_
      exact lw_ret hx hb hr hlocks dL_law_1558
    · replace h := gw_ifF c1 h
      obtain ⟨g1, h⟩ := gw_gdE h
      obtain ⟨k1, e1, h⟩ := gw_letE h
      refine lv_aload_n hx hb dL_law_27 rfl (lv_at hl 0 rfl) ?_
      refine lv_iload_n hx hb dL_law_28 rfl (lv_at hl 3 rfl) ?_
      refine va_sld hx hb hX hbl hbA hI.2.2 g1 dL_law_29 ?_
      refine lv_bipush (v := 63) hx hb dL_law_30 (by decide) ?_
      refine lv_iand hx hb dL_law_32 ?_
      rw [← e1]
      refine k_law_s hX hbl hbA B (by omega) (by omega) ?_ S M h b d H locs ls hI hl
      intro S M h b d H locs ls hI hl
      obtain ⟨y2, e2, h⟩ := gw_letE h
      refine lv_iinc (v := y2) (lv' := [(3, .int y2), (0, .ref b0), (1, .ref (a 0)), (2, .ref (am 0))]) hx hb dL_law_1551 hl (k := 3) rfl (by rw [e2]; rfl) (by decide) rfl (fun ls hl => ?_)
      refine lv_goto (tgt := 18) hx hb dL_law_1554 (by decide) ?_
      exact ih (cl + 7) (sl + 98) (by omega) (by omega) y2 S M h b d H locs ls hI (lv_sub hl [1, 2, 3, 0] rfl)
