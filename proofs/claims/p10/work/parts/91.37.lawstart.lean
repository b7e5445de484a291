theorem gw_nfin : ∀ w ∈ gw_nf.map (fun q => Cond.fieldLinkNest q.1 q.2.1 q.2.2.1 q.2.2.2.1 q.2.2.2.2 "GownLet"), w ∈ lw_tbl := gw_inr [347, 361, 144, 122, 124, 154, 516, 520, 524, 366, 528, 526, 364, 368, 151, 207, 210, 76, 141, 360, 142, 153, 505, 522, 150, 511, 512, 355, 514, 523, 353, 518, 357, 534, 532, 530, 359, 351, 349, 362, 507, 509, 77] (by decide +kernel)
theorem gw_nmin : ∀ w ∈ gw_nm.map (fun q => Cond.methodLinkNest q.1 q.2.1 q.2.2 "GownLet"), w ∈ lw_tbl := gw_inr [201, 70, 92, 772, 325] (by decide +kernel)
theorem gw_aoin : ∀ w ∈ (["GownLet$Piece", "GownLet$Booking", "GownLet$Sheet"] : List String).map (fun C => Cond.arrayOver (.object C)), w ∈ lw_tbl := gw_inr [137, 139, 199] (by decide +kernel)
theorem gw_N0 {s : State} {args : Array Value} (hts : ∀ w ∈ lw_tbl, w.before args s = true) : gw_N s :=
  ⟨fun q hq => va_Nw.of rfl (hts _ (gw_nfin _ (List.mem_map.mpr ⟨q, hq, rfl⟩))), fun q hq => va_Nw.of rfl (hts _ (gw_nmin _ (List.mem_map.mpr ⟨q, hq, rfl⟩))), fun C hC => va_AO.of (hts _ (gw_aoin _ (List.mem_map.mpr ⟨C, hC, rfl⟩)))⟩
theorem gw_arp {s : State} {args : Array Value} {ty : FieldType} (hne : ∀ C, ty ≠ .object C) (h : (Cond.arrayClass ty).before args s = true) : ∃ cA : ClassId, ArrOfT s cA ty ∧ va_RA s cA ty := by
  obtain ⟨c, k, comp, h1, h2, h3⟩ := Cond.arrayClass_spec h
  refine ⟨c, fun n z => ⟨fun k h => (by cases h), k, h2, comp, h3⟩, ?_⟩
  cases ty with
  | object C => exact absurd rfl (hne C)
  | _ => exact h1
theorem gw_arq {s : State} {args : Array Value} {C : String} (h : (Cond.arrayOver (.object C)).before args s = true) : ∃ cA : ClassId, ArrOfT s cA (.object C) ∧ va_RA s cA (.object C) := by
  obtain ⟨comp, c, k, h1, h2, h3, h4, h5⟩ := Cond.arrayOver_spec h
  exact ⟨c, fun n z => ⟨fun k h => (by cases h), k, h3, comp, h4⟩, k, comp, h3, h4, h1, h5⟩
theorem gw_hK {s : State} {args : Array Value} (hts : ∀ w ∈ lw_tbl, w.before args s = true) : ∃ (D : va_G) (cc : Nat → ClassId), va_K D vwCl (gw_ty cc) s := by
  obtain ⟨c0, i0, hn0⟩ := u_known (C := RX0) (T := TX0) (N := 14) (n := 14) hts in_wsX00 (hts (.instantiable RX0 14) (List.mem_of_getElem? (i := 499) (by decide +kernel)))
  obtain ⟨c1, i1, hn1⟩ := u_known (C := RX1) (T := TX1) (N := 6) (n := 6) hts in_wsX10 (hts (.instantiable RX1 6) (List.mem_of_getElem? (i := 174) (by decide +kernel)))
  obtain ⟨c2, i2, hn2⟩ := u_known (C := RX2) (T := TX2) (N := 8) (n := 8) hts in_wsX20 (hts (.instantiable RX2 8) (List.mem_of_getElem? (i := 85) (by decide +kernel)))
  obtain ⟨c3, i3, hn3⟩ := u_known (C := RX3) (T := TX3) (N := 5) (n := 5) hts in_wsX30 (hts (.instantiable RX3 5) (List.mem_of_getElem? (i := 105) (by decide +kernel)))
  obtain ⟨c4, i4, hn4⟩ := u_known (C := RX4) (T := TX4) (N := 12) (n := 12) hts in_wsX40 (hts (.instantiable RX4 12) (List.mem_of_getElem? (i := 341) (by decide +kernel)))
  obtain ⟨c5, i5, hn5⟩ := u_known (C := RX5) (T := TX5) (N := 4) (n := 4) hts in_wsX50 (hts (.instantiable RX5 4) (List.mem_of_getElem? (i := 200) (by decide +kernel)))
  obtain ⟨c6, i6, hn6⟩ := u_known (C := RX6) (T := TX6) (N := 2) (n := 2) hts in_wsX60 (hts (.instantiable RX6 2) (List.mem_of_getElem? (i := 69) (by decide +kernel)))
  obtain ⟨c7, i7, hn7⟩ := u_known (C := RX7) (T := TX7) (N := 2) (n := 2) hts in_wsX70 (hts (.instantiable RX7 2) (List.mem_of_getElem? (i := 91) (by decide +kernel)))
  obtain ⟨c8, i8, hn8⟩ := u_known (C := RX8) (T := TX8) (N := 4) (n := 4) hts in_wsX80 (hts (.instantiable RX8 4) (List.mem_of_getElem? (i := 61) (by decide +kernel)))
  obtain ⟨c9, i9, hn9⟩ := u_known (C := RX9) (T := TX9) (N := 51) (n := 51) hts in_wsX90 (hts (.instantiable RX9 51) (List.mem_of_getElem? (i := 897) (by decide +kernel)))
  obtain ⟨a0, ha0⟩ := gw_arp (ty := .int) (by intro C h; cases h) (hts (.arrayClass .int) (List.mem_of_getElem? (i := 103) (by decide +kernel)))
  obtain ⟨a1, ha1⟩ := gw_arp (ty := .byte) (by intro C h; cases h) (hts (.arrayClass .byte) (List.mem_of_getElem? (i := 83) (by decide +kernel)))
  obtain ⟨a2, ha2⟩ := gw_arp (ty := .boolean) (by intro C h; cases h) (hts (.arrayClass .boolean) (List.mem_of_getElem? (i := 172) (by decide +kernel)))
  obtain ⟨a3, ha3⟩ := gw_arq (C := "GownLet$Piece") (hts _ (gw_aoin _ (List.mem_map.mpr ⟨"GownLet$Piece", by decide, rfl⟩)))
  obtain ⟨a4, ha4⟩ := gw_arq (C := "GownLet$Booking") (hts _ (gw_aoin _ (List.mem_map.mpr ⟨"GownLet$Booking", by decide, rfl⟩)))
  obtain ⟨a5, ha5⟩ := gw_arq (C := "GownLet$Sheet") (hts _ (gw_aoin _ (List.mem_map.mpr ⟨"GownLet$Sheet", by decide, rfl⟩)))
  refine ⟨(fun k => if k = 0 then c0 else if k = 1 then c1 else if k = 2 then c2 else if k = 3 then c3 else if k = 4 then c4 else if k = 5 then c5 else if k = 6 then c6 else if k = 7 then c7 else if k = 8 then c8 else c9, fun k => if k = 0 then i0 else if k = 1 then i1 else if k = 2 then i2 else if k = 3 then i3 else if k = 4 then i4 else if k = 5 then i5 else if k = 6 then i6 else if k = 7 then i7 else if k = 8 then i8 else i9), fun k => if k = 0 then a0 else if k = 1 then a1 else if k = 2 then a2 else if k = 3 then a3 else if k = 4 then a4 else a5, ?_, ?_⟩
  · intro k q hq
    match k, hq with
    | 0, hq => cases hq; exact hn0
    | 1, hq => cases hq; exact hn1
    | 2, hq => cases hq; exact hn2
    | 3, hq => cases hq; exact hn3
    | 4, hq => cases hq; exact hn4
    | 5, hq => cases hq; exact hn5
    | 6, hq => cases hq; exact hn6
    | 7, hq => cases hq; exact hn7
    | 8, hq => cases hq; exact hn8
    | 9, hq => cases hq; exact hn9
    | k + 10, hq => simp [vwCl] at hq
  · intro k q hq
    match k, hq with
    | 0, hq => cases hq; exact ha0
    | 1, hq => cases hq; exact ha1
    | 2, hq => cases hq; exact ha2
    | 3, hq => cases hq; exact ha3
    | 4, hq => cases hq; exact ha4
    | 5, hq => cases hq; exact ha5
    | k + 6, hq => simp [gw_ty] at hq
theorem gw_st0 {s : State} {b : Nat} (hts : ∀ w ∈ lw_tbl, w.before #[Value.ref b] s = true) (hgv : (Jvm.Cond.and given_1 narrow_1).before #[Value.ref b] s = true) : ∃ t1 t2, gw_st t1 t2 (fun q : Nat => s.heap.size ≤ q) s s.heap := by
  have hs := flat_of_before _ hgv
  obtain ⟨t1, ev1, hT1⟩ := va_Tof (tm := (Term.static "GownLet$Terms" "LETTER" "[C")) (ty := .char) (N := 8) (f := fun j => .int (gw_LET j)) (A := fun q : Nat => s.heap.size ≤ q) (by decide) (hs (.arrayOf (Term.static "GownLet$Terms" "LETTER" "[C") .char) (by decide +kernel)) (va_eqt (z := 8) (hs (.eq (.length (Term.static "GownLet$Terms" "LETTER" "[C")) (.int 8)) (by decide +kernel))) (fun j hj => by
    rcases (show j = 0 ∨ j = 1 ∨ j = 2 ∨ j = 3 ∨ j = 4 ∨ j = 5 ∨ j = 6 ∨ j = 7 by omega) with rfl | rfl | rfl | rfl | rfl | rfl | rfl | rfl
    · exact va_eqt (z := 104) (hs (.eq (.elem (Term.static "GownLet$Terms" "LETTER" "[C") (.int 0)) (.int 104)) (by decide +kernel))
    · exact va_eqt (z := 99) (hs (.eq (.elem (Term.static "GownLet$Terms" "LETTER" "[C") (.int 1)) (.int 99)) (by decide +kernel))
    · exact va_eqt (z := 108) (hs (.eq (.elem (Term.static "GownLet$Terms" "LETTER" "[C") (.int 2)) (.int 108)) (by decide +kernel))
    · exact va_eqt (z := 100) (hs (.eq (.elem (Term.static "GownLet$Terms" "LETTER" "[C") (.int 3)) (.int 100)) (by decide +kernel))
    · exact va_eqt (z := 101) (hs (.eq (.elem (Term.static "GownLet$Terms" "LETTER" "[C") (.int 4)) (.int 101)) (by decide +kernel))
    · exact va_eqt (z := 115) (hs (.eq (.elem (Term.static "GownLet$Terms" "LETTER" "[C") (.int 5)) (.int 115)) (by decide +kernel))
    · exact va_eqt (z := 116) (hs (.eq (.elem (Term.static "GownLet$Terms" "LETTER" "[C") (.int 6)) (.int 116)) (by decide +kernel))
    · exact va_eqt (z := 119) (hs (.eq (.elem (Term.static "GownLet$Terms" "LETTER" "[C") (.int 7)) (.int 119)) (by decide +kernel))) (fun a ha => by omega)
  obtain ⟨t2, ev2, hT2⟩ := va_Tof (tm := (Term.static "GownLet$Terms" "MOST" "[I")) (ty := .int) (N := 8) (f := fun j => .int (gw_MST j)) (A := fun q : Nat => s.heap.size ≤ q) (by decide) (hs (.arrayOf (Term.static "GownLet$Terms" "MOST" "[I") .int) (by decide +kernel)) (va_eqt (z := 8) (hs (.eq (.length (Term.static "GownLet$Terms" "MOST" "[I")) (.int 8)) (by decide +kernel))) (fun j hj => by
    rcases (show j = 0 ∨ j = 1 ∨ j = 2 ∨ j = 3 ∨ j = 4 ∨ j = 5 ∨ j = 6 ∨ j = 7 by omega) with rfl | rfl | rfl | rfl | rfl | rfl | rfl | rfl
    · exact va_eqt (z := 9) (hs (.eq (.elem (Term.static "GownLet$Terms" "MOST" "[I") (.int 0)) (.int 9)) (by decide +kernel))
    · exact va_eqt (z := 9) (hs (.eq (.elem (Term.static "GownLet$Terms" "MOST" "[I") (.int 1)) (.int 9)) (by decide +kernel))
    · exact va_eqt (z := 999) (hs (.eq (.elem (Term.static "GownLet$Terms" "MOST" "[I") (.int 2)) (.int 999)) (by decide +kernel))
    · exact va_eqt (z := 100) (hs (.eq (.elem (Term.static "GownLet$Terms" "MOST" "[I") (.int 3)) (.int 100)) (by decide +kernel))
    · exact va_eqt (z := 9) (hs (.eq (.elem (Term.static "GownLet$Terms" "MOST" "[I") (.int 4)) (.int 9)) (by decide +kernel))
    · exact va_eqt (z := 999) (hs (.eq (.elem (Term.static "GownLet$Terms" "MOST" "[I") (.int 5)) (.int 999)) (by decide +kernel))
    · exact va_eqt (z := 999) (hs (.eq (.elem (Term.static "GownLet$Terms" "MOST" "[I") (.int 6)) (.int 999)) (by decide +kernel))
    · exact va_eqt (z := 3) (hs (.eq (.elem (Term.static "GownLet$Terms" "MOST" "[I") (.int 7)) (.int 3)) (by decide +kernel))) (fun a ha => by omega)
  refine ⟨t1, t2, ⟨va_Zof (hts (.laysStatic "GownLet$Terms" "LETTER" "[C") (List.mem_of_getElem? (i := 279) (by decide +kernel))) (hts (.initialized "GownLet$Terms") (List.mem_of_getElem? (i := 51) (by decide +kernel))) ev1 (fun a ha => by omega), hT1⟩, va_Zof (hts (.laysStatic "GownLet$Terms" "MOST" "[I") (List.mem_of_getElem? (i := 289) (by decide +kernel))) (hts (.initialized "GownLet$Terms") (List.mem_of_getElem? (i := 51) (by decide +kernel))) ev2 (fun a ha => by omega), hT2, gw_N0 hts⟩
