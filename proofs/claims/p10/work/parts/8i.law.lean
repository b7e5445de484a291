section RLW
variable {w L : Nat} {S M : gw_S} {i : Int32} {xs : Nat → Int32} {K : gw_S → gw_S → Option Int32}
theorem zi {c : Prop} [Decidable c] {X Y : Option Int32} (hx : X = some 1) (hy : Y = some 1) : (if c then X else Y) = some 1 := by
  split
  · exact hx
  · exact hy
theorem lz_22 {f1 f2 : Option (Int32 × gw_S)} (h : gw_ex w f1 f2) (hK : ∀ S M, rR w S M → K S M = some 1) : gw_b2 f1 (fun _ S1 => gw_b2 f2 (fun _ M1 => K S1 M1)) = some 1 := by
  obtain ⟨r, S', M', e1, e2, e3⟩ := h
  rw [e1, e2, gw_b2S, gw_b2S]; exact hK S' M' e3
theorem lz_22c {f1 f2 : Option (Int32 × gw_S)} (h : gw_ex w f1 f2) (hK : ∀ S M, rR w S M → K S M = some 1) : gw_b2 f1 (fun r S1 => gw_b2 f2 (fun r2 M1 => (if r = r2 then K S1 M1 else some 0))) = some 1 := by
  obtain ⟨r, S', M', e1, e2, e3⟩ := h
  rw [e1, e2, gw_b2S, gw_b2S, if_pos rfl]; exact hK S' M' e3
theorem lz_11 {f1 f2 : Option Int32} {k : Option Int32} (h : gw_rd f1 f2) (hK : k = some 1) : gw_bd f1 (fun _ => gw_bd f2 (fun _ => k)) = some 1 := by
  obtain ⟨r, e1, e2⟩ := h
  rw [e1, e2, gw_bdS, gw_bdS]; exact hK
theorem lz_11c {f1 f2 : Option Int32} {k : Option Int32} (h : gw_rd f1 f2) (hK : k = some 1) : gw_bd f1 (fun r => gw_bd f2 (fun r2 => (if r = r2 then k else some 0))) = some 1 := by
  obtain ⟨r, e1, e2⟩ := h
  rw [e1, e2, gw_bdS, gw_bdS, if_pos rfl]; exact hK
theorem lz_ab {f1 f2 : Option Int32} {k : Option Int32} (h : (∃ r, f1 = some r) ∧ ∃ r, f2 = some r) (hK : k = some 1) : gw_bd f1 (fun _ => gw_bd f2 (fun _ => k)) = some 1 := by
  obtain ⟨⟨r, e1⟩, r2, e2⟩ := h
  rw [e1, e2, gw_bdS, gw_bdS]; exact hK
theorem lz_12 {f1 : Option Int32} {f2 : Option (Int32 × gw_S)} {k : gw_S → Option Int32} (h : gw_r2 w S f1 f2) (hK : ∀ M, rR w S M → k M = some 1) : gw_bd f1 (fun _ => gw_b2 f2 (fun _ M1 => k M1)) = some 1 := by
  obtain ⟨r, M', e1, e2, e3⟩ := h
  rw [e1, e2, gw_bdS, gw_b2S]; exact hK M' e3
theorem lz_12c {f1 : Option Int32} {f2 : Option (Int32 × gw_S)} {k : gw_S → Option Int32} (h : gw_r2 w S f1 f2) (hK : ∀ M, rR w S M → k M = some 1) : gw_bd f1 (fun r => gw_b2 f2 (fun r2 M1 => (if r = r2 then k M1 else some 0))) = some 1 := by
  obtain ⟨r, M', e1, e2, e3⟩ := h
  rw [e1, e2, gw_bdS, gw_b2S, if_pos rfl]; exact hK M' e3
def lG (L : Nat) (i : Int32) : Prop := gw_in (i + 1) L ∧ gw_in (i + 2) L ∧ gw_in (i + 3) L ∧ gw_in (i + 4) L ∧ gw_in (i + 5) L ∧ gw_in (i + 6) L
theorem lc_0 (hw : w ≤ 2000) (g : lG L i) (h : rR w S M) (hK : ∀ S M, rR w S M ∨ rR (w + 1) S M → K S M = some 1) : f_law_c0 xs L i K S M = some 1 := by
  unfold f_law_c0
  rw [gw_gdT (g.1), gw_gdT (g.2.1), gw_gdT (g.2.2.1)]
  exact lz_22 (so_type h) (fun S M q => hK S M (Or.inl q))
theorem lc_1 (hw : w ≤ 2000) (g : lG L i) (h : rR w S M) (hK : ∀ S M, rR w S M ∨ rR (w + 1) S M → K S M = some 1) : f_law_c1 xs L i K S M = some 1 := by
  unfold f_law_c1
  exact lz_22 (so_terms h) (fun S M q => hK S M (Or.inl q))
theorem lc_2 (hw : w ≤ 2000) (g : lG L i) (h : rR w S M) (hK : ∀ S M, rR w S M ∨ rR (w + 1) S M → K S M = some 1) : f_law_c2 xs L i K S M = some 1 := by
  unfold f_law_c2
  rw [gw_gdT (g.1)]
  exact lz_11 (so_term h) (hK _ _ (Or.inl h))
theorem lc_3 (hw : w ≤ 2000) (g : lG L i) (h : rR w S M) (hK : ∀ S M, rR w S M ∨ rR (w + 1) S M → K S M = some 1) : f_law_c3 xs L i K S M = some 1 := by
  unfold f_law_c3
  rw [gw_gdT (g.1), gw_gdT (g.2.1), gw_gdT (g.2.2.1)]
  exact lz_22 (so_post h) (fun S M q => hK S M (Or.inl q))
theorem lc_4 (hw : w ≤ 2000) (g : lG L i) (h : rR w S M) (hK : ∀ S M, rR w S M ∨ rR (w + 1) S M → K S M = some 1) : f_law_c4 xs L i K S M = some 1 := by
  unfold f_law_c4
  rw [gw_gdT (g.1), gw_gdT (g.2.1), gw_gdT (g.2.2.1), gw_gdT (g.2.2.2.1), gw_gdT (g.2.2.2.2.1), gw_gdT (g.2.2.2.2.2)]
  exact lz_22 (so_gown h) (fun S M q => hK S M (Or.inl q))
theorem lc_5 (hw : w ≤ 2000) (g : lG L i) (h : rR w S M) (hK : ∀ S M, rR w S M ∨ rR (w + 1) S M → K S M = some 1) : f_law_c5 xs L i K S M = some 1 := by
  unfold f_law_c5
  rw [gw_gdT (g.1), gw_gdT (g.2.1), gw_gdT (g.2.2.1), gw_gdT (g.2.2.2.1), gw_gdT (g.2.2.2.2.1), gw_gdT (g.2.2.2.2.2)]
  exact lz_22 (so_longGown h) (fun S M q => hK S M (Or.inl q))
theorem lc_6 (hw : w ≤ 2000) (g : lG L i) (h : rR w S M) (hK : ∀ S M, rR w S M ∨ rR (w + 1) S M → K S M = some 1) : f_law_c6 xs L i K S M = some 1 := by
  unfold f_law_c6
  rw [gw_gdT (g.1), gw_gdT (g.2.1), gw_gdT (g.2.2.1), gw_gdT (g.2.2.2.1), gw_gdT (g.2.2.2.2.1), gw_gdT (g.2.2.2.2.2)]
  exact lz_22 (so_suit h) (fun S M q => hK S M (Or.inl q))
theorem lc_7 (hw : w ≤ 2000) (g : lG L i) (h : rR w S M) (hK : ∀ S M, rR w S M ∨ rR (w + 1) S M → K S M = some 1) : f_law_c7 xs L i K S M = some 1 := by
  unfold f_law_c7
  rw [gw_gdT (g.1), gw_gdT (g.2.1)]
  exact lz_22 (so_hem h) (fun S M q => hK S M (Or.inl q))
theorem lc_8 (hw : w ≤ 2000) (g : lG L i) (h : rR w S M) (hK : ∀ S M, rR w S M ∨ rR (w + 1) S M → K S M = some 1) : f_law_c8 xs L i K S M = some 1 := by
  unfold f_law_c8
  rw [gw_gdT (g.1), gw_gdT (g.2.1)]
  exact lz_11c (so_told h) (hK _ _ (Or.inl h))
theorem lc_9 (hw : w ≤ 2000) (g : lG L i) (h : rR w S M) (hK : ∀ S M, rR w S M ∨ rR (w + 1) S M → K S M = some 1) : f_law_c9 xs L i K S M = some 1 := by
  unfold f_law_c9
  rw [gw_gdT (g.1), gw_gdT (g.2.1), gw_gdT (g.2.2.1), gw_gdT (g.2.2.2.1)]
  exact lz_22 (so_same h) (fun S M q => hK S M (Or.inl q))
theorem lc_10 (hw : w ≤ 2000) (g : lG L i) (h : rR w S M) (hK : ∀ S M, rR w S M ∨ rR (w + 1) S M → K S M = some 1) : f_law_c10 xs L i K S M = some 1 := by
  unfold f_law_c10
  rw [gw_gdT (g.1), gw_gdT (g.2.1)]
  exact lz_12 (so_lie h) (fun M q => hK _ M (Or.inl q))
theorem lc_11 (hw : w ≤ 2000) (g : lG L i) (h : rR w S M) (hK : ∀ S M, rR w S M ∨ rR (w + 1) S M → K S M = some 1) : f_law_c11 xs L i K S M = some 1 := by
  unfold f_law_c11
  exact lz_12 (so_quarrel h) (fun M q => hK _ M (Or.inl q))
theorem lc_12 (hw : w ≤ 2000) (g : lG L i) (h : rR w S M) (hK : ∀ S M, rR w S M ∨ rR (w + 1) S M → K S M = some 1) : f_law_c12 xs L i K S M = some 1 := by
  unfold f_law_c12
  rw [gw_gdT (g.1), gw_gdT (g.2.1), gw_gdT (g.2.2.1)]
  exact lz_12 (so_fits h) (fun M q => hK _ M (Or.inl q))
theorem lc_13 (hw : w ≤ 2000) (g : lG L i) (h : rR w S M) (hK : ∀ S M, rR w S M ∨ rR (w + 1) S M → K S M = some 1) : f_law_c13 xs L i K S M = some 1 := by
  unfold f_law_c13
  rw [gw_gdT (g.1), gw_gdT (g.2.1), gw_gdT (g.2.2.1), gw_gdT (g.2.2.2.1), gw_gdT (g.2.2.2.2.1), gw_gdT (g.2.2.2.2.2)]
  exact lz_22 (so_book h) (fun S M q => hK S M (Or.inl q))
theorem lc_14 (hw : w ≤ 2000) (g : lG L i) (h : rR w S M) (hK : ∀ S M, rR w S M ∨ rR (w + 1) S M → K S M = some 1) : f_law_c14 xs L i K S M = some 1 := by
  unfold f_law_c14
  rw [gw_gdT (g.1), gw_gdT (g.2.1)]
  exact lz_22 (so_off h) (fun S M q => hK S M (Or.inl q))
theorem lc_15 (hw : w ≤ 2000) (g : lG L i) (h : rR w S M) (hK : ∀ S M, rR w S M ∨ rR (w + 1) S M → K S M = some 1) : f_law_c15 xs L i K S M = some 1 := by
  unfold f_law_c15
  rw [gw_gdT (g.1)]
  exact lz_22 (so_give h) (fun S M q => hK S M (Or.inl q))
theorem lc_16 (hw : w ≤ 2000) (g : lG L i) (h : rR w S M) (hK : ∀ S M, rR w S M ∨ rR (w + 1) S M → K S M = some 1) : f_law_c16 xs L i K S M = some 1 := by
  unfold f_law_c16
  rw [gw_gdT (g.1)]
  exact lz_11 (so_has h) (hK _ _ (Or.inl h))
theorem lc_17 (hw : w ≤ 2000) (g : lG L i) (h : rR w S M) (hK : ∀ S M, rR w S M ∨ rR (w + 1) S M → K S M = some 1) : f_law_c17 xs L i K S M = some 1 := by
  unfold f_law_c17
  rw [gw_gdT (g.1), gw_gdT (g.2.1)]
  exact lz_11 (so_free h) (hK _ _ (Or.inl h))
theorem lc_18 (hw : w ≤ 2000) (g : lG L i) (h : rR w S M) (hK : ∀ S M, rR w S M ∨ rR (w + 1) S M → K S M = some 1) : f_law_c18 xs L i K S M = some 1 := by
  unfold f_law_c18
  rw [gw_gdT (g.1), gw_gdT (g.2.1), gw_gdT (g.2.2.1)]
  exact lz_11 (so_away h) (hK _ _ (Or.inl h))
theorem lc_19 (hw : w ≤ 2000) (g : lG L i) (h : rR w S M) (hK : ∀ S M, rR w S M ∨ rR (w + 1) S M → K S M = some 1) : f_law_c19 xs L i K S M = some 1 := by
  unfold f_law_c19
  rw [gw_gdT (g.1), gw_gdT (g.2.1)]
  exact lz_22 (so_tear h) (fun S M q => hK S M (Or.inl q))
theorem lc_20 (hw : w ≤ 2000) (g : lG L i) (h : rR w S M) (hK : ∀ S M, rR w S M ∨ rR (w + 1) S M → K S M = some 1) : f_law_c20 xs L i K S M = some 1 := by
  unfold f_law_c20
  rw [gw_gdT (g.1)]
  exact lz_22 (so_mend h) (fun S M q => hK S M (Or.inl q))
theorem lc_21 (hw : w ≤ 2000) (g : lG L i) (h : rR w S M) (hK : ∀ S M, rR w S M ∨ rR (w + 1) S M → K S M = some 1) : f_law_c21 xs L i K S M = some 1 := by
  unfold f_law_c21
  rw [gw_gdT (g.1)]
  exact lz_22 (so_chain h) (fun S M q => hK S M (Or.inl q))
theorem lc_22 (hw : w ≤ 2000) (g : lG L i) (h : rR w S M) (hK : ∀ S M, rR w S M ∨ rR (w + 1) S M → K S M = some 1) : f_law_c22 xs L i K S M = some 1 := by
  unfold f_law_c22
  rw [gw_gdT (g.1), gw_gdT (g.2.1), gw_gdT (g.2.2.1)]
  exact lz_22 (so_link h) (fun S M q => hK S M (Or.inl q))
theorem lc_23 (hw : w ≤ 2000) (g : lG L i) (h : rR w S M) (hK : ∀ S M, rR w S M ∨ rR (w + 1) S M → K S M = some 1) : f_law_c23 xs L i K S M = some 1 := by
  unfold f_law_c23
  rw [gw_gdT (g.1)]
  exact lz_22 (so_swap h) (fun S M q => hK S M (Or.inl q))
theorem lc_24 (hw : w ≤ 2000) (g : lG L i) (h : rR w S M) (hK : ∀ S M, rR w S M ∨ rR (w + 1) S M → K S M = some 1) : f_law_c24 xs L i K S M = some 1 := by
  unfold f_law_c24
  rw [gw_gdT (g.1), gw_gdT (g.2.1)]
  exact lz_22 (so_match h) (fun S M q => hK S M (Or.inl q))
theorem lc_25 (hw : w ≤ 2000) (g : lG L i) (h : rR w S M) (hK : ∀ S M, rR w S M ∨ rR (w + 1) S M → K S M = some 1) : f_law_c25 xs L i K S M = some 1 := by
  unfold f_law_c25
  rw [gw_gdT (g.1), gw_gdT (g.2.1), gw_gdT (g.2.2.1), gw_gdT (g.2.2.2.1)]
  exact lz_11 (so_asOf h) (hK _ _ (Or.inl h))
theorem lc_26 (hw : w ≤ 2000) (g : lG L i) (h : rR w S M) (hK : ∀ S M, rR w S M ∨ rR (w + 1) S M → K S M = some 1) : f_law_c26 xs L i K S M = some 1 := by
  unfold f_law_c26
  rw [gw_gdT (g.1), gw_gdT (g.2.1)]
  exact lz_22 (so_out h) (fun S M q => hK S M (Or.inl q))
theorem lc_27 (hw : w ≤ 2000) (g : lG L i) (h : rR w S M) (hK : ∀ S M, rR w S M ∨ rR (w + 1) S M → K S M = some 1) : f_law_c27 xs L i K S M = some 1 := by
  unfold f_law_c27
  rw [gw_gdT (g.1), gw_gdT (g.2.1), gw_gdT (g.2.2.1)]
  exact lz_22 (so_home hw h) (fun S M q => hK S M (Or.inr q))
theorem lc_28 (hw : w ≤ 2000) (g : lG L i) (h : rR w S M) (hK : ∀ S M, rR w S M ∨ rR (w + 1) S M → K S M = some 1) : f_law_c28 xs L i K S M = some 1 := by
  unfold f_law_c28
  rw [gw_gdT (g.1), gw_gdT (g.2.1)]
  exact lz_ab (so_about h) (hK _ _ (Or.inl h))
theorem lc_29 (hw : w ≤ 2000) (g : lG L i) (h : rR w S M) (hK : ∀ S M, rR w S M ∨ rR (w + 1) S M → K S M = some 1) : f_law_c29 xs L i K S M = some 1 := by
  unfold f_law_c29
  rw [gw_gdT (g.1)]
  exact lz_22 (so_retire h) (fun S M q => hK S M (Or.inl q))
theorem lc_30 (hw : w ≤ 2000) (g : lG L i) (h : rR w S M) (hK : ∀ S M, rR w S M ∨ rR (w + 1) S M → K S M = some 1) : f_law_c30 xs L i K S M = some 1 := by
  unfold f_law_c30
  rw [gw_gdT (g.1)]
  exact lz_11 (so_count h) (hK _ _ (Or.inl h))
theorem lc_31 (hw : w ≤ 2000) (g : lG L i) (h : rR w S M) (hK : ∀ S M, rR w S M ∨ rR (w + 1) S M → K S M = some 1) : f_law_c31 xs L i K S M = some 1 := by
  unfold f_law_c31
  rw [gw_gdT (g.1), gw_gdT (g.2.1), gw_gdT (g.2.2.1)]
  exact lz_22 (so_sheet h) (fun S M q => hK S M (Or.inl q))
theorem lc_32 (hw : w ≤ 2000) (g : lG L i) (h : rR w S M) (hK : ∀ S M, rR w S M ∨ rR (w + 1) S M → K S M = some 1) : f_law_c32 xs L i K S M = some 1 := by
  unfold f_law_c32
  rw [gw_gdT (g.1)]
  exact lz_22 (so_drop h) (fun S M q => hK S M (Or.inl q))
theorem lc_33 (hw : w ≤ 2000) (g : lG L i) (h : rR w S M) (hK : ∀ S M, rR w S M ∨ rR (w + 1) S M → K S M = some 1) : f_law_c33 xs L i K S M = some 1 := by
  unfold f_law_c33
  rw [gw_gdT (g.1), gw_gdT (g.2.1), gw_gdT (g.2.2.1), gw_gdT (g.2.2.2.1)]
  exact lz_22 (so_item h) (fun S M q => hK S M (Or.inl q))
theorem lc_34 (hw : w ≤ 2000) (g : lG L i) (h : rR w S M) (hK : ∀ S M, rR w S M ∨ rR (w + 1) S M → K S M = some 1) : f_law_c34 xs L i K S M = some 1 := by
  unfold f_law_c34
  rw [gw_gdT (g.1), gw_gdT (g.2.1), gw_gdT (g.2.2.1), gw_gdT (g.2.2.2.1)]
  exact lz_22 (so_books h) (fun S M q => hK S M (Or.inl q))
theorem lc_s {k : Int32} (hw : w ≤ 2000) (g : lG L i) (h : rR w S M) (hK : ∀ S M, rR w S M ∨ rR (w + 1) S M → K S M = some 1) : f_law_s xs L i k K S M = some 1 := by
  unfold f_law_s
  exact (zi (lc_0 hw g h hK) (zi (lc_1 hw g h hK) (zi (lc_2 hw g h hK) (zi (lc_3 hw g h hK) (zi (lc_4 hw g h hK) (zi (lc_5 hw g h hK) (zi (lc_6 hw g h hK) (zi (lc_7 hw g h hK) (zi (lc_8 hw g h hK) (zi (lc_9 hw g h hK) (zi (lc_10 hw g h hK) (zi (lc_11 hw g h hK) (zi (lc_12 hw g h hK) (zi (lc_13 hw g h hK) (zi (lc_14 hw g h hK) (zi (lc_15 hw g h hK) (zi (lc_16 hw g h hK) (zi (lc_17 hw g h hK) (zi (lc_18 hw g h hK) (zi (lc_19 hw g h hK) (zi (lc_20 hw g h hK) (zi (lc_21 hw g h hK) (zi (lc_22 hw g h hK) (zi (lc_23 hw g h hK) (zi (lc_24 hw g h hK) (zi (lc_25 hw g h hK) (zi (lc_26 hw g h hK) (zi (lc_27 hw g h hK) (zi (lc_28 hw g h hK) (zi (lc_29 hw g h hK) (zi (lc_30 hw g h hK) (zi (lc_31 hw g h hK) (zi (lc_32 hw g h hK) (zi (lc_33 hw g h hK) (zi (lc_34 hw g h hK) (hK _ _ (Or.inl h)))))))))))))))))))))))))))))))))))))
theorem law_n (xs : Nat → Int32) (hL : L ≤ 3584) : ∀ (n m w : Nat) (S M : gw_S), m + n = 600 → w ≤ m → (m = 0 ∨ 7 * m ≤ L) → rR w S M → f_law xs L n (nI (7 * m)) S M = some 1
  | 0, m, w, S, M, h1, h2, h3, h => by omega
  | n + 1, m, w, S, M, h1, h2, h3, h => by
    have z7 : (7 : Int32).toInt = 7 := by decide
    rw [f_law]
    by_cases c : Int32.ofNat L - 7 < nI (7 * m)
    · rw [if_pos c]
    · rw [if_neg c]
      have e : (Int32.ofNat L - 7).toInt = (L : Int) - 7 := by
        rw [show Int32.ofNat L = nI L from rfl, pn_sbi (by rw [nI_toInt (by omega)]; omega) (by omega), nI_toInt (by omega), z7]
      rw [ps_ltI, e, nI_toInt (by omega)] at c
      rw [gw_gdT (pi_in (show 7 * m < L by omega) (by omega)), gw_letS]
      refine lc_s (w := w) (by omega) ⟨?_, ?_, ?_, ?_, ?_, ?_⟩ h (fun S1 M1 q => ?_)
      · rw [pn_a1]; exact pi_in (by omega) (by omega)
      · rw [pn_a2]; exact pi_in (by omega) (by omega)
      · rw [pn_a3]; exact pi_in (by omega) (by omega)
      · rw [pn_a4]; exact pi_in (by omega) (by omega)
      · rw [pn_a5]; exact pi_in (by omega) (by omega)
      · rw [pn_a6]; exact pi_in (by omega) (by omega)
      · rw [gw_letS, show nI (7 * m) + (7 : Int32) = nI (7 * (m + 1)) from nI_add (7 * m) 7]
        rcases q with q | q
        · exact law_n xs hL n (m + 1) w S1 M1 (by omega) (by omega) (by omega) q
        · exact law_n xs hL n (m + 1) (w + 1) S1 M1 (by omega) (by omega) (by omega) q
theorem law_true (xs : Nat → Int32) {L : Nat} (hL : L ≤ 3584) : f_law xs L 600 0 (gw_SG gw_zH) gw_zM = some 1 := law_n xs hL 600 0 0 z_S gw_zM rfl (Nat.le_refl 0) (Or.inl rfl) rR.start
end RLW
