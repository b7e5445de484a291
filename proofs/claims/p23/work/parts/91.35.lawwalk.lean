section
theorem ndl_X8_about : yX8_about.cls = RX8 ∧ yX8_about.cls ≠ "java/lang/invoke/MethodHandle" ∧ yX8_about.cls ≠ "java/lang/invoke/VarHandle" ∧ (parseMethodDescriptor yX8_about.desc).map (fun d => d.parameters.length) = some 2 := by decide +kernel
theorem ndl_X8_asOf : yX8_asOf.cls = RX8 ∧ yX8_asOf.cls ≠ "java/lang/invoke/MethodHandle" ∧ yX8_asOf.cls ≠ "java/lang/invoke/VarHandle" ∧ (parseMethodDescriptor yX8_asOf.desc).map (fun d => d.parameters.length) = some 4 := by decide +kernel
theorem ndl_X8_away : yX8_away.cls = RX8 ∧ yX8_away.cls ≠ "java/lang/invoke/MethodHandle" ∧ yX8_away.cls ≠ "java/lang/invoke/VarHandle" ∧ (parseMethodDescriptor yX8_away.desc).map (fun d => d.parameters.length) = some 3 := by decide +kernel
theorem ndl_X8_book : yX8_book.cls = RX8 ∧ yX8_book.cls ≠ "java/lang/invoke/MethodHandle" ∧ yX8_book.cls ≠ "java/lang/invoke/VarHandle" ∧ (parseMethodDescriptor yX8_book.desc).map (fun d => d.parameters.length) = some 6 := by decide +kernel
theorem ndl_X8_books : yX8_books.cls = RX8 ∧ yX8_books.cls ≠ "java/lang/invoke/MethodHandle" ∧ yX8_books.cls ≠ "java/lang/invoke/VarHandle" ∧ (parseMethodDescriptor yX8_books.desc).map (fun d => d.parameters.length) = some 4 := by decide +kernel
theorem ndl_X8_chain : yX8_chain.cls = RX8 ∧ yX8_chain.cls ≠ "java/lang/invoke/MethodHandle" ∧ yX8_chain.cls ≠ "java/lang/invoke/VarHandle" ∧ (parseMethodDescriptor yX8_chain.desc).map (fun d => d.parameters.length) = some 1 := by decide +kernel
theorem ndl_X8_count : yX8_count.cls = RX8 ∧ yX8_count.cls ≠ "java/lang/invoke/MethodHandle" ∧ yX8_count.cls ≠ "java/lang/invoke/VarHandle" ∧ (parseMethodDescriptor yX8_count.desc).map (fun d => d.parameters.length) = some 1 := by decide +kernel
theorem ndl_X8_drop : yX8_drop.cls = RX8 ∧ yX8_drop.cls ≠ "java/lang/invoke/MethodHandle" ∧ yX8_drop.cls ≠ "java/lang/invoke/VarHandle" ∧ (parseMethodDescriptor yX8_drop.desc).map (fun d => d.parameters.length) = some 1 := by decide +kernel
theorem ndl_X8_fits : yX8_fits.cls = RX8 ∧ yX8_fits.cls ≠ "java/lang/invoke/MethodHandle" ∧ yX8_fits.cls ≠ "java/lang/invoke/VarHandle" ∧ (parseMethodDescriptor yX8_fits.desc).map (fun d => d.parameters.length) = some 3 := by decide +kernel
theorem ndl_X8_free : yX8_free.cls = RX8 ∧ yX8_free.cls ≠ "java/lang/invoke/MethodHandle" ∧ yX8_free.cls ≠ "java/lang/invoke/VarHandle" ∧ (parseMethodDescriptor yX8_free.desc).map (fun d => d.parameters.length) = some 2 := by decide +kernel
theorem ndl_X8_give : yX8_give.cls = RX8 ∧ yX8_give.cls ≠ "java/lang/invoke/MethodHandle" ∧ yX8_give.cls ≠ "java/lang/invoke/VarHandle" ∧ (parseMethodDescriptor yX8_give.desc).map (fun d => d.parameters.length) = some 1 := by decide +kernel
theorem ndl_X8_gown : yX8_gown.cls = RX8 ∧ yX8_gown.cls ≠ "java/lang/invoke/MethodHandle" ∧ yX8_gown.cls ≠ "java/lang/invoke/VarHandle" ∧ (parseMethodDescriptor yX8_gown.desc).map (fun d => d.parameters.length) = some 6 := by decide +kernel
theorem ndl_X8_has : yX8_has.cls = RX8 ∧ yX8_has.cls ≠ "java/lang/invoke/MethodHandle" ∧ yX8_has.cls ≠ "java/lang/invoke/VarHandle" ∧ (parseMethodDescriptor yX8_has.desc).map (fun d => d.parameters.length) = some 1 := by decide +kernel
theorem ndl_X8_hem : yX8_hem.cls = RX8 ∧ yX8_hem.cls ≠ "java/lang/invoke/MethodHandle" ∧ yX8_hem.cls ≠ "java/lang/invoke/VarHandle" ∧ (parseMethodDescriptor yX8_hem.desc).map (fun d => d.parameters.length) = some 2 := by decide +kernel
theorem ndl_X8_home : yX8_home.cls = RX8 ∧ yX8_home.cls ≠ "java/lang/invoke/MethodHandle" ∧ yX8_home.cls ≠ "java/lang/invoke/VarHandle" ∧ (parseMethodDescriptor yX8_home.desc).map (fun d => d.parameters.length) = some 3 := by decide +kernel
theorem ndl_X8_item : yX8_item.cls = RX8 ∧ yX8_item.cls ≠ "java/lang/invoke/MethodHandle" ∧ yX8_item.cls ≠ "java/lang/invoke/VarHandle" ∧ (parseMethodDescriptor yX8_item.desc).map (fun d => d.parameters.length) = some 4 := by decide +kernel
theorem ndl_X8_lie : yX8_lie.cls = RX8 ∧ yX8_lie.cls ≠ "java/lang/invoke/MethodHandle" ∧ yX8_lie.cls ≠ "java/lang/invoke/VarHandle" ∧ (parseMethodDescriptor yX8_lie.desc).map (fun d => d.parameters.length) = some 2 := by decide +kernel
theorem ndl_X8_link : yX8_link.cls = RX8 ∧ yX8_link.cls ≠ "java/lang/invoke/MethodHandle" ∧ yX8_link.cls ≠ "java/lang/invoke/VarHandle" ∧ (parseMethodDescriptor yX8_link.desc).map (fun d => d.parameters.length) = some 3 := by decide +kernel
theorem ndl_X8_longGown : yX8_longGown.cls = RX8 ∧ yX8_longGown.cls ≠ "java/lang/invoke/MethodHandle" ∧ yX8_longGown.cls ≠ "java/lang/invoke/VarHandle" ∧ (parseMethodDescriptor yX8_longGown.desc).map (fun d => d.parameters.length) = some 6 := by decide +kernel
theorem ndl_X8_match : yX8_match.cls = RX8 ∧ yX8_match.cls ≠ "java/lang/invoke/MethodHandle" ∧ yX8_match.cls ≠ "java/lang/invoke/VarHandle" ∧ (parseMethodDescriptor yX8_match.desc).map (fun d => d.parameters.length) = some 2 := by decide +kernel
theorem ndl_X8_mend : yX8_mend.cls = RX8 ∧ yX8_mend.cls ≠ "java/lang/invoke/MethodHandle" ∧ yX8_mend.cls ≠ "java/lang/invoke/VarHandle" ∧ (parseMethodDescriptor yX8_mend.desc).map (fun d => d.parameters.length) = some 1 := by decide +kernel
theorem ndl_X8_off : yX8_off.cls = RX8 ∧ yX8_off.cls ≠ "java/lang/invoke/MethodHandle" ∧ yX8_off.cls ≠ "java/lang/invoke/VarHandle" ∧ (parseMethodDescriptor yX8_off.desc).map (fun d => d.parameters.length) = some 2 := by decide +kernel
theorem ndl_X8_out : yX8_out.cls = RX8 ∧ yX8_out.cls ≠ "java/lang/invoke/MethodHandle" ∧ yX8_out.cls ≠ "java/lang/invoke/VarHandle" ∧ (parseMethodDescriptor yX8_out.desc).map (fun d => d.parameters.length) = some 2 := by decide +kernel
theorem ndl_X8_post : yX8_post.cls = RX8 ∧ yX8_post.cls ≠ "java/lang/invoke/MethodHandle" ∧ yX8_post.cls ≠ "java/lang/invoke/VarHandle" ∧ (parseMethodDescriptor yX8_post.desc).map (fun d => d.parameters.length) = some 3 := by decide +kernel
theorem ndl_X8_quarrel : yX8_quarrel.cls = RX8 ∧ yX8_quarrel.cls ≠ "java/lang/invoke/MethodHandle" ∧ yX8_quarrel.cls ≠ "java/lang/invoke/VarHandle" ∧ (parseMethodDescriptor yX8_quarrel.desc).map (fun d => d.parameters.length) = some 0 := by decide +kernel
theorem ndl_X8_retire : yX8_retire.cls = RX8 ∧ yX8_retire.cls ≠ "java/lang/invoke/MethodHandle" ∧ yX8_retire.cls ≠ "java/lang/invoke/VarHandle" ∧ (parseMethodDescriptor yX8_retire.desc).map (fun d => d.parameters.length) = some 1 := by decide +kernel
theorem ndl_X8_same : yX8_same.cls = RX8 ∧ yX8_same.cls ≠ "java/lang/invoke/MethodHandle" ∧ yX8_same.cls ≠ "java/lang/invoke/VarHandle" ∧ (parseMethodDescriptor yX8_same.desc).map (fun d => d.parameters.length) = some 4 := by decide +kernel
theorem ndl_X8_sheet : yX8_sheet.cls = RX8 ∧ yX8_sheet.cls ≠ "java/lang/invoke/MethodHandle" ∧ yX8_sheet.cls ≠ "java/lang/invoke/VarHandle" ∧ (parseMethodDescriptor yX8_sheet.desc).map (fun d => d.parameters.length) = some 3 := by decide +kernel
theorem ndl_X8_suit : yX8_suit.cls = RX8 ∧ yX8_suit.cls ≠ "java/lang/invoke/MethodHandle" ∧ yX8_suit.cls ≠ "java/lang/invoke/VarHandle" ∧ (parseMethodDescriptor yX8_suit.desc).map (fun d => d.parameters.length) = some 6 := by decide +kernel
theorem ndl_X8_swap : yX8_swap.cls = RX8 ∧ yX8_swap.cls ≠ "java/lang/invoke/MethodHandle" ∧ yX8_swap.cls ≠ "java/lang/invoke/VarHandle" ∧ (parseMethodDescriptor yX8_swap.desc).map (fun d => d.parameters.length) = some 1 := by decide +kernel
theorem ndl_X8_tear : yX8_tear.cls = RX8 ∧ yX8_tear.cls ≠ "java/lang/invoke/MethodHandle" ∧ yX8_tear.cls ≠ "java/lang/invoke/VarHandle" ∧ (parseMethodDescriptor yX8_tear.desc).map (fun d => d.parameters.length) = some 2 := by decide +kernel
theorem ndl_X8_term : yX8_term.cls = RX8 ∧ yX8_term.cls ≠ "java/lang/invoke/MethodHandle" ∧ yX8_term.cls ≠ "java/lang/invoke/VarHandle" ∧ (parseMethodDescriptor yX8_term.desc).map (fun d => d.parameters.length) = some 1 := by decide +kernel
theorem ndl_X8_terms : yX8_terms.cls = RX8 ∧ yX8_terms.cls ≠ "java/lang/invoke/MethodHandle" ∧ yX8_terms.cls ≠ "java/lang/invoke/VarHandle" ∧ (parseMethodDescriptor yX8_terms.desc).map (fun d => d.parameters.length) = some 0 := by decide +kernel
theorem ndl_X8_told : yX8_told.cls = RX8 ∧ yX8_told.cls ≠ "java/lang/invoke/MethodHandle" ∧ yX8_told.cls ≠ "java/lang/invoke/VarHandle" ∧ (parseMethodDescriptor yX8_told.desc).map (fun d => d.parameters.length) = some 2 := by decide +kernel
theorem ndl_X8_type : yX8_type.cls = RX8 ∧ yX8_type.cls ≠ "java/lang/invoke/MethodHandle" ∧ yX8_type.cls ≠ "java/lang/invoke/VarHandle" ∧ (parseMethodDescriptor yX8_type.desc).map (fun d => d.parameters.length) = some 2 := by decide +kernel
theorem ndl_X9_about : yX9_about.cls = RX9 ∧ yX9_about.cls ≠ "java/lang/invoke/MethodHandle" ∧ yX9_about.cls ≠ "java/lang/invoke/VarHandle" ∧ (parseMethodDescriptor yX9_about.desc).map (fun d => d.parameters.length) = some 2 := by decide +kernel
theorem ndl_X9_asOf : yX9_asOf.cls = RX9 ∧ yX9_asOf.cls ≠ "java/lang/invoke/MethodHandle" ∧ yX9_asOf.cls ≠ "java/lang/invoke/VarHandle" ∧ (parseMethodDescriptor yX9_asOf.desc).map (fun d => d.parameters.length) = some 4 := by decide +kernel
theorem ndl_X9_away : yX9_away.cls = RX9 ∧ yX9_away.cls ≠ "java/lang/invoke/MethodHandle" ∧ yX9_away.cls ≠ "java/lang/invoke/VarHandle" ∧ (parseMethodDescriptor yX9_away.desc).map (fun d => d.parameters.length) = some 3 := by decide +kernel
theorem ndl_X9_book : yX9_book.cls = RX9 ∧ yX9_book.cls ≠ "java/lang/invoke/MethodHandle" ∧ yX9_book.cls ≠ "java/lang/invoke/VarHandle" ∧ (parseMethodDescriptor yX9_book.desc).map (fun d => d.parameters.length) = some 6 := by decide +kernel
theorem ndl_X9_books : yX9_books.cls = RX9 ∧ yX9_books.cls ≠ "java/lang/invoke/MethodHandle" ∧ yX9_books.cls ≠ "java/lang/invoke/VarHandle" ∧ (parseMethodDescriptor yX9_books.desc).map (fun d => d.parameters.length) = some 4 := by decide +kernel
theorem ndl_X9_chain : yX9_chain.cls = RX9 ∧ yX9_chain.cls ≠ "java/lang/invoke/MethodHandle" ∧ yX9_chain.cls ≠ "java/lang/invoke/VarHandle" ∧ (parseMethodDescriptor yX9_chain.desc).map (fun d => d.parameters.length) = some 1 := by decide +kernel
theorem ndl_X9_count : yX9_count.cls = RX9 ∧ yX9_count.cls ≠ "java/lang/invoke/MethodHandle" ∧ yX9_count.cls ≠ "java/lang/invoke/VarHandle" ∧ (parseMethodDescriptor yX9_count.desc).map (fun d => d.parameters.length) = some 1 := by decide +kernel
theorem ndl_X9_drop : yX9_drop.cls = RX9 ∧ yX9_drop.cls ≠ "java/lang/invoke/MethodHandle" ∧ yX9_drop.cls ≠ "java/lang/invoke/VarHandle" ∧ (parseMethodDescriptor yX9_drop.desc).map (fun d => d.parameters.length) = some 1 := by decide +kernel
theorem ndl_X9_fits : yX9_fits.cls = RX9 ∧ yX9_fits.cls ≠ "java/lang/invoke/MethodHandle" ∧ yX9_fits.cls ≠ "java/lang/invoke/VarHandle" ∧ (parseMethodDescriptor yX9_fits.desc).map (fun d => d.parameters.length) = some 3 := by decide +kernel
theorem ndl_X9_free : yX9_free.cls = RX9 ∧ yX9_free.cls ≠ "java/lang/invoke/MethodHandle" ∧ yX9_free.cls ≠ "java/lang/invoke/VarHandle" ∧ (parseMethodDescriptor yX9_free.desc).map (fun d => d.parameters.length) = some 2 := by decide +kernel
theorem ndl_X9_give : yX9_give.cls = RX9 ∧ yX9_give.cls ≠ "java/lang/invoke/MethodHandle" ∧ yX9_give.cls ≠ "java/lang/invoke/VarHandle" ∧ (parseMethodDescriptor yX9_give.desc).map (fun d => d.parameters.length) = some 1 := by decide +kernel
theorem ndl_X9_gown : yX9_gown.cls = RX9 ∧ yX9_gown.cls ≠ "java/lang/invoke/MethodHandle" ∧ yX9_gown.cls ≠ "java/lang/invoke/VarHandle" ∧ (parseMethodDescriptor yX9_gown.desc).map (fun d => d.parameters.length) = some 6 := by decide +kernel
theorem ndl_X9_has : yX9_has.cls = RX9 ∧ yX9_has.cls ≠ "java/lang/invoke/MethodHandle" ∧ yX9_has.cls ≠ "java/lang/invoke/VarHandle" ∧ (parseMethodDescriptor yX9_has.desc).map (fun d => d.parameters.length) = some 1 := by decide +kernel
theorem ndl_X9_hem : yX9_hem.cls = RX9 ∧ yX9_hem.cls ≠ "java/lang/invoke/MethodHandle" ∧ yX9_hem.cls ≠ "java/lang/invoke/VarHandle" ∧ (parseMethodDescriptor yX9_hem.desc).map (fun d => d.parameters.length) = some 2 := by decide +kernel
theorem ndl_X9_home : yX9_home.cls = RX9 ∧ yX9_home.cls ≠ "java/lang/invoke/MethodHandle" ∧ yX9_home.cls ≠ "java/lang/invoke/VarHandle" ∧ (parseMethodDescriptor yX9_home.desc).map (fun d => d.parameters.length) = some 3 := by decide +kernel
theorem ndl_X9_item : yX9_item.cls = RX9 ∧ yX9_item.cls ≠ "java/lang/invoke/MethodHandle" ∧ yX9_item.cls ≠ "java/lang/invoke/VarHandle" ∧ (parseMethodDescriptor yX9_item.desc).map (fun d => d.parameters.length) = some 4 := by decide +kernel
theorem ndl_X9_lie : yX9_lie.cls = RX9 ∧ yX9_lie.cls ≠ "java/lang/invoke/MethodHandle" ∧ yX9_lie.cls ≠ "java/lang/invoke/VarHandle" ∧ (parseMethodDescriptor yX9_lie.desc).map (fun d => d.parameters.length) = some 2 := by decide +kernel
theorem ndl_X9_link : yX9_link.cls = RX9 ∧ yX9_link.cls ≠ "java/lang/invoke/MethodHandle" ∧ yX9_link.cls ≠ "java/lang/invoke/VarHandle" ∧ (parseMethodDescriptor yX9_link.desc).map (fun d => d.parameters.length) = some 3 := by decide +kernel
theorem ndl_X9_longGown : yX9_longGown.cls = RX9 ∧ yX9_longGown.cls ≠ "java/lang/invoke/MethodHandle" ∧ yX9_longGown.cls ≠ "java/lang/invoke/VarHandle" ∧ (parseMethodDescriptor yX9_longGown.desc).map (fun d => d.parameters.length) = some 6 := by decide +kernel
theorem ndl_X9_match : yX9_match.cls = RX9 ∧ yX9_match.cls ≠ "java/lang/invoke/MethodHandle" ∧ yX9_match.cls ≠ "java/lang/invoke/VarHandle" ∧ (parseMethodDescriptor yX9_match.desc).map (fun d => d.parameters.length) = some 2 := by decide +kernel
theorem ndl_X9_mend : yX9_mend.cls = RX9 ∧ yX9_mend.cls ≠ "java/lang/invoke/MethodHandle" ∧ yX9_mend.cls ≠ "java/lang/invoke/VarHandle" ∧ (parseMethodDescriptor yX9_mend.desc).map (fun d => d.parameters.length) = some 1 := by decide +kernel
theorem ndl_X9_off : yX9_off.cls = RX9 ∧ yX9_off.cls ≠ "java/lang/invoke/MethodHandle" ∧ yX9_off.cls ≠ "java/lang/invoke/VarHandle" ∧ (parseMethodDescriptor yX9_off.desc).map (fun d => d.parameters.length) = some 2 := by decide +kernel
theorem ndl_X9_out : yX9_out.cls = RX9 ∧ yX9_out.cls ≠ "java/lang/invoke/MethodHandle" ∧ yX9_out.cls ≠ "java/lang/invoke/VarHandle" ∧ (parseMethodDescriptor yX9_out.desc).map (fun d => d.parameters.length) = some 2 := by decide +kernel
theorem ndl_X9_post : yX9_post.cls = RX9 ∧ yX9_post.cls ≠ "java/lang/invoke/MethodHandle" ∧ yX9_post.cls ≠ "java/lang/invoke/VarHandle" ∧ (parseMethodDescriptor yX9_post.desc).map (fun d => d.parameters.length) = some 3 := by decide +kernel
theorem ndl_X9_quarrel : yX9_quarrel.cls = RX9 ∧ yX9_quarrel.cls ≠ "java/lang/invoke/MethodHandle" ∧ yX9_quarrel.cls ≠ "java/lang/invoke/VarHandle" ∧ (parseMethodDescriptor yX9_quarrel.desc).map (fun d => d.parameters.length) = some 0 := by decide +kernel
theorem ndl_X9_retire : yX9_retire.cls = RX9 ∧ yX9_retire.cls ≠ "java/lang/invoke/MethodHandle" ∧ yX9_retire.cls ≠ "java/lang/invoke/VarHandle" ∧ (parseMethodDescriptor yX9_retire.desc).map (fun d => d.parameters.length) = some 1 := by decide +kernel
theorem ndl_X9_same : yX9_same.cls = RX9 ∧ yX9_same.cls ≠ "java/lang/invoke/MethodHandle" ∧ yX9_same.cls ≠ "java/lang/invoke/VarHandle" ∧ (parseMethodDescriptor yX9_same.desc).map (fun d => d.parameters.length) = some 4 := by decide +kernel
theorem ndl_X9_sheet : yX9_sheet.cls = RX9 ∧ yX9_sheet.cls ≠ "java/lang/invoke/MethodHandle" ∧ yX9_sheet.cls ≠ "java/lang/invoke/VarHandle" ∧ (parseMethodDescriptor yX9_sheet.desc).map (fun d => d.parameters.length) = some 3 := by decide +kernel
theorem ndl_X9_suit : yX9_suit.cls = RX9 ∧ yX9_suit.cls ≠ "java/lang/invoke/MethodHandle" ∧ yX9_suit.cls ≠ "java/lang/invoke/VarHandle" ∧ (parseMethodDescriptor yX9_suit.desc).map (fun d => d.parameters.length) = some 6 := by decide +kernel
theorem ndl_X9_swap : yX9_swap.cls = RX9 ∧ yX9_swap.cls ≠ "java/lang/invoke/MethodHandle" ∧ yX9_swap.cls ≠ "java/lang/invoke/VarHandle" ∧ (parseMethodDescriptor yX9_swap.desc).map (fun d => d.parameters.length) = some 1 := by decide +kernel
theorem ndl_X9_tear : yX9_tear.cls = RX9 ∧ yX9_tear.cls ≠ "java/lang/invoke/MethodHandle" ∧ yX9_tear.cls ≠ "java/lang/invoke/VarHandle" ∧ (parseMethodDescriptor yX9_tear.desc).map (fun d => d.parameters.length) = some 2 := by decide +kernel
theorem ndl_X9_term : yX9_term.cls = RX9 ∧ yX9_term.cls ≠ "java/lang/invoke/MethodHandle" ∧ yX9_term.cls ≠ "java/lang/invoke/VarHandle" ∧ (parseMethodDescriptor yX9_term.desc).map (fun d => d.parameters.length) = some 1 := by decide +kernel
theorem ndl_X9_terms : yX9_terms.cls = RX9 ∧ yX9_terms.cls ≠ "java/lang/invoke/MethodHandle" ∧ yX9_terms.cls ≠ "java/lang/invoke/VarHandle" ∧ (parseMethodDescriptor yX9_terms.desc).map (fun d => d.parameters.length) = some 0 := by decide +kernel
theorem ndl_X9_told : yX9_told.cls = RX9 ∧ yX9_told.cls ≠ "java/lang/invoke/MethodHandle" ∧ yX9_told.cls ≠ "java/lang/invoke/VarHandle" ∧ (parseMethodDescriptor yX9_told.desc).map (fun d => d.parameters.length) = some 2 := by decide +kernel
theorem ndl_X9_type : yX9_type.cls = RX9 ∧ yX9_type.cls ≠ "java/lang/invoke/MethodHandle" ∧ yX9_type.cls ≠ "java/lang/invoke/VarHandle" ∧ (parseMethodDescriptor yX9_type.desc).map (fun d => d.parameters.length) = some 2 := by decide +kernel
set_option maxRecDepth 100000 in
set_option maxHeartbeats 4000000 in
theorem k_law_c0 {p : Program} {l : Launch} {e : Env} {s : State} {m : MethodId} {below : List Frame} {meth : Method} {c : Code} {D : va_G} {cc : Nat → ClassId} {t1 t2 b0 L : Nat} {A : Nat → Prop} {a am : Nat → Nat} {xs : Nat → Int32} (hX : va_X b0 L xs s s.heap) (hbl : b0 < s.heap.size) (hbA : ¬ A b0) (B : gw_B p s m #[Value.ref b0] meth c cL_law 4 wsL_law RL ret D (gw_ty cc) t1 t2 A) {i : Int32} {cl sl : Nat} (h1 : cl + 7 ≤ 600000) (h2 : sl + 98 ≤ 7302250) {K : gw_S → gw_S → Option Int32} (hK : ∀ (S M : gw_S), K S M = some 1 → ∀ (b d : Nat → Nat) (H : Heap) (locs : List Loc) (ls : Array Slot), gw_I D A s.heap (gw_mw cc am M ++ gw_cw cc a b d S) H locs → lv_has ls 4 [(0, .ref b0), (1, .ref (a 0)), (2, .ref (am 0)), (3, .int i)] → W p l e room_1 s m #[Value.ref b0] below meth c H locs (cl + 7) (sl + 98) (lw_Z below #[Value.ref b0] s) (F0 m 1551 ls [])) (S M : gw_S) (h : f_law_c0 xs L i K S M = some 1) (b d : Nat → Nat) (H : Heap) (locs : List Loc) (ls : Array Slot) (hI : gw_I D A s.heap (gw_mw cc am M ++ gw_cw cc a b d S) H locs) (hl : lv_has ls 4 [(0, .ref b0), (1, .ref (a 0)), (2, .ref (am 0)), (3, .int i)]) : W p l e room_1 s m #[Value.ref b0] below meth c H locs cl sl (lw_Z below #[Value.ref b0] s) (F0 m 188 ls []) := by
  have hx := B.1.1
  have hb := B.1.2.1
  have hown : s.vm.findClass RL = some m.cls := B.1.2.2.2.1
  have hts := B.1.2.2.2.2
  unfold f_law_c0 at h
  refine lv_aload_n hx hb dL_law_188 rfl (lv_at hl 1 rfl) ?_
  refine lv_aload_n hx hb dL_law_189 rfl (lv_at hl 0 rfl) ?_
  refine lv_iload_n hx hb dL_law_190 rfl (lv_at hl 3 rfl) ?_
  refine lv_iconst (v := 1) hx hb dL_law_191 (by decide) ?_
  refine lv_iadd hx hb dL_law_192 ?_
  obtain ⟨g1, h⟩ := gw_gdE h
  refine va_sld hx hb hX hbl hbA hI.2.2 g1 dL_law_193 ?_
  refine lv_i2l hx hb dL_law_194 rfl ?_
  refine lv_bipush (v := 32) hx hb dL_law_195 (by decide) ?_
  refine lv_lshl hx hb dL_law_197 rfl ?_
  refine lv_aload_n hx hb dL_law_198 rfl (lv_at hl 0 rfl) ?_
  refine lv_iload_n hx hb dL_law_199 rfl (lv_at hl 3 rfl) ?_
  refine lv_iconst (v := 2) hx hb dL_law_200 (by decide) ?_
  refine lv_iadd hx hb dL_law_201 ?_
  obtain ⟨g2, h⟩ := gw_gdE h
  refine va_sld hx hb hX hbl hbA hI.2.2 g2 dL_law_202 ?_
  refine lv_i2l hx hb dL_law_203 rfl ?_
  refine lv_ldc2 (v := 4294967295) hx hb hown (hts (.constantLong RL 13 (4294967295)) (by decide +kernel)) dL_law_204 ?_
  refine lv_land hx hb dL_law_207 ?_
  refine lv_lor hx hb dL_law_208 ?_
  refine lv_aload_n hx hb dL_law_209 rfl (lv_at hl 0 rfl) ?_
  refine lv_iload_n hx hb dL_law_210 rfl (lv_at hl 3 rfl) ?_
  refine lv_iconst (v := 3) hx hb dL_law_211 (by decide) ?_
  refine lv_iadd hx hb dL_law_212 ?_
  obtain ⟨g3, h⟩ := gw_gdE h
  refine va_sld hx hb hX hbl hbA hI.2.2 g3 dL_law_213 ?_
  obtain ⟨r4, S6, e5, h⟩ := gw_b2E h
  refine gw_callVF (w := gw_mw cc am M) (wc := gw_cw cc a b d S) (As := [.long ((((xs (i + (1 : Int32)).toNatClampNeg).toInt64) <<< ((32 : Int32).toInt64 &&& 63)) ||| (((xs (i + (2 : Int32)).toNatClampNeg).toInt64) &&& (4294967295 : Int64))), .int (xs (i + (3 : Int32)).toNatClampNeg)]) (n := 2) B hI (k_X8_type ((((xs (i + (1 : Int32)).toNatClampNeg).toInt64) <<< ((32 : Int32).toInt64 &&& 63)) ||| (((xs (i + (2 : Int32)).toNatClampNeg).toInt64) &&& (4294967295 : Int64))) (xs (i + (3 : Int32)).toNatClampNeg) S e5) gL_law_X8_type rfl rfl rfl ndl_X8_type ⟨Nat.le_of_ble_eq_true rfl, Nat.le_of_ble_eq_true rfl⟩ gc_g0 rfl rfl rfl hl.1 (Nat.le_of_ble_eq_true rfl) dL_law_214 ⟨by show cl + 0 + 0 ≤ 600000; omega, by show sl + 0 + 0 ≤ 7302250; omega⟩ rfl (fun w' H locs hw hI => ?_)
  subst hw
  refine lv_pop hx hb dL_law_217 rfl ?_
  refine lv_aload_n hx hb dL_law_218 rfl (lv_at hl 2 rfl) ?_
  refine lv_aload_n hx hb dL_law_219 rfl (lv_at hl 0 rfl) ?_
  refine lv_iload_n hx hb dL_law_220 rfl (lv_at hl 3 rfl) ?_
  refine lv_iconst (v := 1) hx hb dL_law_221 (by decide) ?_
  refine lv_iadd hx hb dL_law_222 ?_
  refine va_sld hx hb hX hbl hbA hI.2.2 g1 dL_law_223 ?_
  refine lv_i2l hx hb dL_law_224 rfl ?_
  refine lv_bipush (v := 32) hx hb dL_law_225 (by decide) ?_
  refine lv_lshl hx hb dL_law_227 rfl ?_
  refine lv_aload_n hx hb dL_law_228 rfl (lv_at hl 0 rfl) ?_
  refine lv_iload_n hx hb dL_law_229 rfl (lv_at hl 3 rfl) ?_
  refine lv_iconst (v := 2) hx hb dL_law_230 (by decide) ?_
  refine lv_iadd hx hb dL_law_231 ?_
  refine va_sld hx hb hX hbl hbA hI.2.2 g2 dL_law_232 ?_
  refine lv_i2l hx hb dL_law_233 rfl ?_
  refine lv_ldc2 (v := 4294967295) hx hb hown (hts (.constantLong RL 13 (4294967295)) (by decide +kernel)) dL_law_234 ?_
  refine lv_land hx hb dL_law_237 ?_
  refine lv_lor hx hb dL_law_238 ?_
  refine lv_aload_n hx hb dL_law_239 rfl (lv_at hl 0 rfl) ?_
  refine lv_iload_n hx hb dL_law_240 rfl (lv_at hl 3 rfl) ?_
  refine lv_iconst (v := 3) hx hb dL_law_241 (by decide) ?_
  refine lv_iadd hx hb dL_law_242 ?_
  refine va_sld hx hb hX hbl hbA hI.2.2 g3 dL_law_243 ?_
  obtain ⟨r7, M9, e8, h⟩ := gw_b2E h
  have hI := gw_perm List.perm_append_comm hI
  refine gw_callVF (w := gw_cw cc a b d S6) (wc := gw_mw cc am M) (As := [.long ((((xs (i + (1 : Int32)).toNatClampNeg).toInt64) <<< ((32 : Int32).toInt64 &&& 63)) ||| (((xs (i + (2 : Int32)).toNatClampNeg).toInt64) &&& (4294967295 : Int64))), .int (xs (i + (3 : Int32)).toNatClampNeg)]) (n := 2) B hI (k_X9_type ((((xs (i + (1 : Int32)).toNatClampNeg).toInt64) <<< ((32 : Int32).toInt64 &&& 63)) ||| (((xs (i + (2 : Int32)).toNatClampNeg).toInt64) &&& (4294967295 : Int64))) (xs (i + (3 : Int32)).toNatClampNeg) M e8) gL_law_X9_type rfl rfl rfl ndl_X9_type ⟨Nat.le_of_ble_eq_true rfl, Nat.le_of_ble_eq_true rfl⟩ gm_g0 rfl rfl rfl hl.1 (Nat.le_of_ble_eq_true rfl) dL_law_244 ⟨by show cl + 0 + 0 ≤ 600000; omega, by show sl + 0 + 0 ≤ 7302250; omega⟩ rfl (fun w' H locs hw hI => ?_)
  subst hw
  have hI := gw_perm List.perm_append_comm hI
  refine lv_pop hx hb dL_law_247 rfl ?_
  refine lv_goto (tgt := 1551) hx hb dL_law_248 (by decide) ?_
  refine W.widen (k := cl + 7) (n := sl + 98) (by omega) (by omega) ?_
  exact hK S6 M9 h b d _ _ ls hI hl
set_option maxRecDepth 100000 in
set_option maxHeartbeats 4000000 in
theorem k_law_c1 {p : Program} {l : Launch} {e : Env} {s : State} {m : MethodId} {below : List Frame} {meth : Method} {c : Code} {D : va_G} {cc : Nat → ClassId} {t1 t2 b0 L : Nat} {A : Nat → Prop} {a am : Nat → Nat} {xs : Nat → Int32} (hX : va_X b0 L xs s s.heap) (hbl : b0 < s.heap.size) (hbA : ¬ A b0) (B : gw_B p s m #[Value.ref b0] meth c cL_law 4 wsL_law RL ret D (gw_ty cc) t1 t2 A) {i : Int32} {cl sl : Nat} (h1 : cl + 7 ≤ 600000) (h2 : sl + 98 ≤ 7302250) {K : gw_S → gw_S → Option Int32} (hK : ∀ (S M : gw_S), K S M = some 1 → ∀ (b d : Nat → Nat) (H : Heap) (locs : List Loc) (ls : Array Slot), gw_I D A s.heap (gw_mw cc am M ++ gw_cw cc a b d S) H locs → lv_has ls 4 [(0, .ref b0), (1, .ref (a 0)), (2, .ref (am 0)), (3, .int i)] → W p l e room_1 s m #[Value.ref b0] below meth c H locs (cl + 7) (sl + 98) (lw_Z below #[Value.ref b0] s) (F0 m 1551 ls [])) (S M : gw_S) (h : f_law_c1 xs L i K S M = some 1) (b d : Nat → Nat) (H : Heap) (locs : List Loc) (ls : Array Slot) (hI : gw_I D A s.heap (gw_mw cc am M ++ gw_cw cc a b d S) H locs) (hl : lv_has ls 4 [(0, .ref b0), (1, .ref (a 0)), (2, .ref (am 0)), (3, .int i)]) : W p l e room_1 s m #[Value.ref b0] below meth c H locs cl sl (lw_Z below #[Value.ref b0] s) (F0 m 251 ls []) := by
  have hx := B.1.1
  have hb := B.1.2.1
  have hown : s.vm.findClass RL = some m.cls := B.1.2.2.2.1
  have hts := B.1.2.2.2.2
  unfold f_law_c1 at h
  refine lv_aload_n hx hb dL_law_251 rfl (lv_at hl 1 rfl) ?_
  obtain ⟨r1, S3, e2, h⟩ := gw_b2E h
  refine gw_callVF (w := gw_mw cc am M) (wc := gw_cw cc a b d S) (As := []) (n := 0) B hI (k_X8_terms  S e2) gL_law_X8_terms rfl rfl rfl ndl_X8_terms ⟨Nat.le_of_ble_eq_true rfl, Nat.le_of_ble_eq_true rfl⟩ gc_g0 rfl rfl rfl hl.1 (Nat.le_of_ble_eq_true rfl) dL_law_252 ⟨by show cl + 0 + 0 ≤ 600000; omega, by show sl + 0 + 0 ≤ 7302250; omega⟩ rfl (fun w' H locs hw hI => ?_)
  subst hw
  refine lv_pop hx hb dL_law_255 rfl ?_
  refine lv_aload_n hx hb dL_law_256 rfl (lv_at hl 2 rfl) ?_
  obtain ⟨r4, M6, e5, h⟩ := gw_b2E h
  have hI := gw_perm List.perm_append_comm hI
  refine gw_callVF (w := gw_cw cc a b d S3) (wc := gw_mw cc am M) (As := []) (n := 0) B hI (k_X9_terms  M e5) gL_law_X9_terms rfl rfl rfl ndl_X9_terms ⟨Nat.le_of_ble_eq_true rfl, Nat.le_of_ble_eq_true rfl⟩ gm_g0 rfl rfl rfl hl.1 (Nat.le_of_ble_eq_true rfl) dL_law_257 ⟨by show cl + 0 + 0 ≤ 600000; omega, by show sl + 0 + 0 ≤ 7302250; omega⟩ rfl (fun w' H locs hw hI => ?_)
  subst hw
  have hI := gw_perm List.perm_append_comm hI
  refine lv_pop hx hb dL_law_260 rfl ?_
  refine lv_goto (tgt := 1551) hx hb dL_law_261 (by decide) ?_
  refine W.widen (k := cl + 7) (n := sl + 98) (by omega) (by omega) ?_
  exact hK S3 M6 h b d _ _ ls hI hl
set_option maxRecDepth 100000 in
set_option maxHeartbeats 4000000 in
theorem k_law_c2 {p : Program} {l : Launch} {e : Env} {s : State} {m : MethodId} {below : List Frame} {meth : Method} {c : Code} {D : va_G} {cc : Nat → ClassId} {t1 t2 b0 L : Nat} {A : Nat → Prop} {a am : Nat → Nat} {xs : Nat → Int32} (hX : va_X b0 L xs s s.heap) (hbl : b0 < s.heap.size) (hbA : ¬ A b0) (B : gw_B p s m #[Value.ref b0] meth c cL_law 4 wsL_law RL ret D (gw_ty cc) t1 t2 A) {i : Int32} {cl sl : Nat} (h1 : cl + 7 ≤ 600000) (h2 : sl + 98 ≤ 7302250) {K : gw_S → gw_S → Option Int32} (hK : ∀ (S M : gw_S), K S M = some 1 → ∀ (b d : Nat → Nat) (H : Heap) (locs : List Loc) (ls : Array Slot), gw_I D A s.heap (gw_mw cc am M ++ gw_cw cc a b d S) H locs → lv_has ls 4 [(0, .ref b0), (1, .ref (a 0)), (2, .ref (am 0)), (3, .int i)] → W p l e room_1 s m #[Value.ref b0] below meth c H locs (cl + 7) (sl + 98) (lw_Z below #[Value.ref b0] s) (F0 m 1551 ls [])) (S M : gw_S) (h : f_law_c2 xs L i K S M = some 1) (b d : Nat → Nat) (H : Heap) (locs : List Loc) (ls : Array Slot) (hI : gw_I D A s.heap (gw_mw cc am M ++ gw_cw cc a b d S) H locs) (hl : lv_has ls 4 [(0, .ref b0), (1, .ref (a 0)), (2, .ref (am 0)), (3, .int i)]) : W p l e room_1 s m #[Value.ref b0] below meth c H locs cl sl (lw_Z below #[Value.ref b0] s) (F0 m 264 ls []) := by
  have hx := B.1.1
  have hb := B.1.2.1
  have hown : s.vm.findClass RL = some m.cls := B.1.2.2.2.1
  have hts := B.1.2.2.2.2
  unfold f_law_c2 at h
  refine lv_aload_n hx hb dL_law_264 rfl (lv_at hl 1 rfl) ?_
  refine lv_aload_n hx hb dL_law_265 rfl (lv_at hl 0 rfl) ?_
  refine lv_iload_n hx hb dL_law_266 rfl (lv_at hl 3 rfl) ?_
  refine lv_iconst (v := 1) hx hb dL_law_267 (by decide) ?_
  refine lv_iadd hx hb dL_law_268 ?_
  obtain ⟨g1, h⟩ := gw_gdE h
  refine va_sld hx hb hX hbl hbA hI.2.2 g1 dL_law_269 ?_
  obtain ⟨r2, e3, h⟩ := gw_bdE h
  refine gw_callVF (w := gw_mw cc am M) (wc := gw_cw cc a b d S) (As := [.int (xs (i + (1 : Int32)).toNatClampNeg)]) (n := 1) B hI (k_X8_term (xs (i + (1 : Int32)).toNatClampNeg) S e3) gL_law_X8_term rfl rfl rfl ndl_X8_term ⟨Nat.le_of_ble_eq_true rfl, Nat.le_of_ble_eq_true rfl⟩ gc_g0 rfl rfl rfl hl.1 (Nat.le_of_ble_eq_true rfl) dL_law_270 ⟨by show cl + 0 + 0 ≤ 600000; omega, by show sl + 0 + 0 ≤ 7302250; omega⟩ rfl (fun w' H locs hw hI => ?_)
  subst hw
  refine lv_pop hx hb dL_law_273 rfl ?_
  refine lv_aload_n hx hb dL_law_274 rfl (lv_at hl 2 rfl) ?_
  refine lv_aload_n hx hb dL_law_275 rfl (lv_at hl 0 rfl) ?_
  refine lv_iload_n hx hb dL_law_276 rfl (lv_at hl 3 rfl) ?_
  refine lv_iconst (v := 1) hx hb dL_law_277 (by decide) ?_
  refine lv_iadd hx hb dL_law_278 ?_
  refine va_sld hx hb hX hbl hbA hI.2.2 g1 dL_law_279 ?_
  obtain ⟨r4, e5, h⟩ := gw_bdE h
  have hI := gw_perm List.perm_append_comm hI
  refine gw_callVF (w := gw_cw cc a b d S) (wc := gw_mw cc am M) (As := [.int (xs (i + (1 : Int32)).toNatClampNeg)]) (n := 1) B hI (k_X9_term (xs (i + (1 : Int32)).toNatClampNeg) M e5) gL_law_X9_term rfl rfl rfl ndl_X9_term ⟨Nat.le_of_ble_eq_true rfl, Nat.le_of_ble_eq_true rfl⟩ gm_g0 rfl rfl rfl hl.1 (Nat.le_of_ble_eq_true rfl) dL_law_280 ⟨by show cl + 0 + 0 ≤ 600000; omega, by show sl + 0 + 0 ≤ 7302250; omega⟩ rfl (fun w' H locs hw hI => ?_)
  subst hw
  have hI := gw_perm List.perm_append_comm hI
  refine lv_pop hx hb dL_law_283 rfl ?_
  refine lv_goto (tgt := 1551) hx hb dL_law_284 (by decide) ?_
  refine W.widen (k := cl + 7) (n := sl + 98) (by omega) (by omega) ?_
  exact hK S M h b d _ _ ls hI hl
set_option maxRecDepth 100000 in
set_option maxHeartbeats 4000000 in
theorem k_law_c3 {p : Program} {l : Launch} {e : Env} {s : State} {m : MethodId} {below : List Frame} {meth : Method} {c : Code} {D : va_G} {cc : Nat → ClassId} {t1 t2 b0 L : Nat} {A : Nat → Prop} {a am : Nat → Nat} {xs : Nat → Int32} (hX : va_X b0 L xs s s.heap) (hbl : b0 < s.heap.size) (hbA : ¬ A b0) (B : gw_B p s m #[Value.ref b0] meth c cL_law 4 wsL_law RL ret D (gw_ty cc) t1 t2 A) {i : Int32} {cl sl : Nat} (h1 : cl + 7 ≤ 600000) (h2 : sl + 98 ≤ 7302250) {K : gw_S → gw_S → Option Int32} (hK : ∀ (S M : gw_S), K S M = some 1 → ∀ (b d : Nat → Nat) (H : Heap) (locs : List Loc) (ls : Array Slot), gw_I D A s.heap (gw_mw cc am M ++ gw_cw cc a b d S) H locs → lv_has ls 4 [(0, .ref b0), (1, .ref (a 0)), (2, .ref (am 0)), (3, .int i)] → W p l e room_1 s m #[Value.ref b0] below meth c H locs (cl + 7) (sl + 98) (lw_Z below #[Value.ref b0] s) (F0 m 1551 ls [])) (S M : gw_S) (h : f_law_c3 xs L i K S M = some 1) (b d : Nat → Nat) (H : Heap) (locs : List Loc) (ls : Array Slot) (hI : gw_I D A s.heap (gw_mw cc am M ++ gw_cw cc a b d S) H locs) (hl : lv_has ls 4 [(0, .ref b0), (1, .ref (a 0)), (2, .ref (am 0)), (3, .int i)]) : W p l e room_1 s m #[Value.ref b0] below meth c H locs cl sl (lw_Z below #[Value.ref b0] s) (F0 m 287 ls []) := by
  have hx := B.1.1
  have hb := B.1.2.1
  have hown : s.vm.findClass RL = some m.cls := B.1.2.2.2.1
  have hts := B.1.2.2.2.2
  unfold f_law_c3 at h
  refine lv_aload_n hx hb dL_law_287 rfl (lv_at hl 1 rfl) ?_
  refine lv_aload_n hx hb dL_law_288 rfl (lv_at hl 0 rfl) ?_
  refine lv_iload_n hx hb dL_law_289 rfl (lv_at hl 3 rfl) ?_
  refine lv_iconst (v := 1) hx hb dL_law_290 (by decide) ?_
  refine lv_iadd hx hb dL_law_291 ?_
  obtain ⟨g1, h⟩ := gw_gdE h
  refine va_sld hx hb hX hbl hbA hI.2.2 g1 dL_law_292 ?_
  refine lv_aload_n hx hb dL_law_293 rfl (lv_at hl 0 rfl) ?_
  refine lv_iload_n hx hb dL_law_294 rfl (lv_at hl 3 rfl) ?_
  refine lv_iconst (v := 2) hx hb dL_law_295 (by decide) ?_
  refine lv_iadd hx hb dL_law_296 ?_
  obtain ⟨g2, h⟩ := gw_gdE h
  refine va_sld hx hb hX hbl hbA hI.2.2 g2 dL_law_297 ?_
  refine lv_aload_n hx hb dL_law_298 rfl (lv_at hl 0 rfl) ?_
  refine lv_iload_n hx hb dL_law_299 rfl (lv_at hl 3 rfl) ?_
  refine lv_iconst (v := 3) hx hb dL_law_300 (by decide) ?_
  refine lv_iadd hx hb dL_law_301 ?_
  obtain ⟨g3, h⟩ := gw_gdE h
  refine va_sld hx hb hX hbl hbA hI.2.2 g3 dL_law_302 ?_
  obtain ⟨r4, S6, e5, h⟩ := gw_b2E h
  refine gw_callVF (w := gw_mw cc am M) (wc := gw_cw cc a b d S) (As := [.int (xs (i + (1 : Int32)).toNatClampNeg), .int (xs (i + (2 : Int32)).toNatClampNeg), .int (xs (i + (3 : Int32)).toNatClampNeg)]) (n := 3) B hI (k_X8_post (xs (i + (1 : Int32)).toNatClampNeg) (xs (i + (2 : Int32)).toNatClampNeg) (xs (i + (3 : Int32)).toNatClampNeg) S e5) gL_law_X8_post rfl rfl rfl ndl_X8_post ⟨Nat.le_of_ble_eq_true rfl, Nat.le_of_ble_eq_true rfl⟩ gc_g0 rfl rfl rfl hl.1 (Nat.le_of_ble_eq_true rfl) dL_law_303 ⟨by show cl + 0 + 0 ≤ 600000; omega, by show sl + 0 + 0 ≤ 7302250; omega⟩ rfl (fun w' H locs hw hI => ?_)
  subst hw
  refine lv_pop hx hb dL_law_306 rfl ?_
  refine lv_aload_n hx hb dL_law_307 rfl (lv_at hl 2 rfl) ?_
  refine lv_aload_n hx hb dL_law_308 rfl (lv_at hl 0 rfl) ?_
  refine lv_iload_n hx hb dL_law_309 rfl (lv_at hl 3 rfl) ?_
  refine lv_iconst (v := 1) hx hb dL_law_310 (by decide) ?_
  refine lv_iadd hx hb dL_law_311 ?_
  refine va_sld hx hb hX hbl hbA hI.2.2 g1 dL_law_312 ?_
  refine lv_aload_n hx hb dL_law_313 rfl (lv_at hl 0 rfl) ?_
  refine lv_iload_n hx hb dL_law_314 rfl (lv_at hl 3 rfl) ?_
  refine lv_iconst (v := 2) hx hb dL_law_315 (by decide) ?_
  refine lv_iadd hx hb dL_law_316 ?_
  refine va_sld hx hb hX hbl hbA hI.2.2 g2 dL_law_317 ?_
  refine lv_aload_n hx hb dL_law_318 rfl (lv_at hl 0 rfl) ?_
  refine lv_iload_n hx hb dL_law_319 rfl (lv_at hl 3 rfl) ?_
  refine lv_iconst (v := 3) hx hb dL_law_320 (by decide) ?_
  refine lv_iadd hx hb dL_law_321 ?_
  refine va_sld hx hb hX hbl hbA hI.2.2 g3 dL_law_322 ?_
  obtain ⟨r7, M9, e8, h⟩ := gw_b2E h
  have hI := gw_perm List.perm_append_comm hI
  refine gw_callVF (w := gw_cw cc a b d S6) (wc := gw_mw cc am M) (As := [.int (xs (i + (1 : Int32)).toNatClampNeg), .int (xs (i + (2 : Int32)).toNatClampNeg), .int (xs (i + (3 : Int32)).toNatClampNeg)]) (n := 3) B hI (k_X9_post (xs (i + (1 : Int32)).toNatClampNeg) (xs (i + (2 : Int32)).toNatClampNeg) (xs (i + (3 : Int32)).toNatClampNeg) M e8) gL_law_X9_post rfl rfl rfl ndl_X9_post ⟨Nat.le_of_ble_eq_true rfl, Nat.le_of_ble_eq_true rfl⟩ gm_g0 rfl rfl rfl hl.1 (Nat.le_of_ble_eq_true rfl) dL_law_323 ⟨by show cl + 0 + 0 ≤ 600000; omega, by show sl + 0 + 0 ≤ 7302250; omega⟩ rfl (fun w' H locs hw hI => ?_)
  subst hw
  have hI := gw_perm List.perm_append_comm hI
  refine lv_pop hx hb dL_law_326 rfl ?_
  refine lv_goto (tgt := 1551) hx hb dL_law_327 (by decide) ?_
  refine W.widen (k := cl + 7) (n := sl + 98) (by omega) (by omega) ?_
  exact hK S6 M9 h b d _ _ ls hI hl
set_option maxRecDepth 100000 in
set_option maxHeartbeats 4000000 in
theorem k_law_c4 {p : Program} {l : Launch} {e : Env} {s : State} {m : MethodId} {below : List Frame} {meth : Method} {c : Code} {D : va_G} {cc : Nat → ClassId} {t1 t2 b0 L : Nat} {A : Nat → Prop} {a am : Nat → Nat} {xs : Nat → Int32} (hX : va_X b0 L xs s s.heap) (hbl : b0 < s.heap.size) (hbA : ¬ A b0) (B : gw_B p s m #[Value.ref b0] meth c cL_law 4 wsL_law RL ret D (gw_ty cc) t1 t2 A) {i : Int32} {cl sl : Nat} (h1 : cl + 7 ≤ 600000) (h2 : sl + 98 ≤ 7302250) {K : gw_S → gw_S → Option Int32} (hK : ∀ (S M : gw_S), K S M = some 1 → ∀ (b d : Nat → Nat) (H : Heap) (locs : List Loc) (ls : Array Slot), gw_I D A s.heap (gw_mw cc am M ++ gw_cw cc a b d S) H locs → lv_has ls 4 [(0, .ref b0), (1, .ref (a 0)), (2, .ref (am 0)), (3, .int i)] → W p l e room_1 s m #[Value.ref b0] below meth c H locs (cl + 7) (sl + 98) (lw_Z below #[Value.ref b0] s) (F0 m 1551 ls [])) (S M : gw_S) (h : f_law_c4 xs L i K S M = some 1) (b d : Nat → Nat) (H : Heap) (locs : List Loc) (ls : Array Slot) (hI : gw_I D A s.heap (gw_mw cc am M ++ gw_cw cc a b d S) H locs) (hl : lv_has ls 4 [(0, .ref b0), (1, .ref (a 0)), (2, .ref (am 0)), (3, .int i)]) : W p l e room_1 s m #[Value.ref b0] below meth c H locs cl sl (lw_Z below #[Value.ref b0] s) (F0 m 330 ls []) := by
  have hx := B.1.1
  have hb := B.1.2.1
  have hown : s.vm.findClass RL = some m.cls := B.1.2.2.2.1
  have hts := B.1.2.2.2.2
  unfold f_law_c4 at h
  refine lv_aload_n hx hb dL_law_330 rfl (lv_at hl 1 rfl) ?_
  refine lv_aload_n hx hb dL_law_331 rfl (lv_at hl 0 rfl) ?_
  refine lv_iload_n hx hb dL_law_332 rfl (lv_at hl 3 rfl) ?_
  refine lv_iconst (v := 1) hx hb dL_law_333 (by decide) ?_
  refine lv_iadd hx hb dL_law_334 ?_
  obtain ⟨g1, h⟩ := gw_gdE h
  refine va_sld hx hb hX hbl hbA hI.2.2 g1 dL_law_335 ?_
  refine lv_aload_n hx hb dL_law_336 rfl (lv_at hl 0 rfl) ?_
  refine lv_iload_n hx hb dL_law_337 rfl (lv_at hl 3 rfl) ?_
  refine lv_iconst (v := 2) hx hb dL_law_338 (by decide) ?_
  refine lv_iadd hx hb dL_law_339 ?_
  obtain ⟨g2, h⟩ := gw_gdE h
  refine va_sld hx hb hX hbl hbA hI.2.2 g2 dL_law_340 ?_
  refine lv_aload_n hx hb dL_law_341 rfl (lv_at hl 0 rfl) ?_
  refine lv_iload_n hx hb dL_law_342 rfl (lv_at hl 3 rfl) ?_
  refine lv_iconst (v := 3) hx hb dL_law_343 (by decide) ?_
  refine lv_iadd hx hb dL_law_344 ?_
  obtain ⟨g3, h⟩ := gw_gdE h
  refine va_sld hx hb hX hbl hbA hI.2.2 g3 dL_law_345 ?_
  refine lv_aload_n hx hb dL_law_346 rfl (lv_at hl 0 rfl) ?_
  refine lv_iload_n hx hb dL_law_347 rfl (lv_at hl 3 rfl) ?_
  refine lv_iconst (v := 4) hx hb dL_law_348 (by decide) ?_
  refine lv_iadd hx hb dL_law_349 ?_
  obtain ⟨g4, h⟩ := gw_gdE h
  refine va_sld hx hb hX hbl hbA hI.2.2 g4 dL_law_350 ?_
  refine lv_aload_n hx hb dL_law_351 rfl (lv_at hl 0 rfl) ?_
  refine lv_iload_n hx hb dL_law_352 rfl (lv_at hl 3 rfl) ?_
  refine lv_iconst (v := 5) hx hb dL_law_353 (by decide) ?_
  refine lv_iadd hx hb dL_law_354 ?_
  obtain ⟨g5, h⟩ := gw_gdE h
  refine va_sld hx hb hX hbl hbA hI.2.2 g5 dL_law_355 ?_
  refine lv_aload_n hx hb dL_law_356 rfl (lv_at hl 0 rfl) ?_
  refine lv_iload_n hx hb dL_law_357 rfl (lv_at hl 3 rfl) ?_
  refine lv_bipush (v := 6) hx hb dL_law_358 (by decide) ?_
  refine lv_iadd hx hb dL_law_360 ?_
  obtain ⟨g6, h⟩ := gw_gdE h
  refine va_sld hx hb hX hbl hbA hI.2.2 g6 dL_law_361 ?_
  obtain ⟨r7, S9, e8, h⟩ := gw_b2E h
  refine gw_callVF (w := gw_mw cc am M) (wc := gw_cw cc a b d S) (As := [.int (xs (i + (1 : Int32)).toNatClampNeg), .int (xs (i + (2 : Int32)).toNatClampNeg), .int (xs (i + (3 : Int32)).toNatClampNeg), .int (xs (i + (4 : Int32)).toNatClampNeg), .int (xs (i + (5 : Int32)).toNatClampNeg), .int (xs (i + (6 : Int32)).toNatClampNeg)]) (n := 6) B hI (k_X8_gown (xs (i + (1 : Int32)).toNatClampNeg) (xs (i + (2 : Int32)).toNatClampNeg) (xs (i + (3 : Int32)).toNatClampNeg) (xs (i + (4 : Int32)).toNatClampNeg) (xs (i + (5 : Int32)).toNatClampNeg) (xs (i + (6 : Int32)).toNatClampNeg) S e8) gL_law_X8_gown rfl rfl rfl ndl_X8_gown ⟨Nat.le_of_ble_eq_true rfl, Nat.le_of_ble_eq_true rfl⟩ gc_g0 rfl rfl rfl hl.1 (Nat.le_of_ble_eq_true rfl) dL_law_362 ⟨by show cl + 0 + 1 ≤ 600000; omega, by show sl + 0 + 12 ≤ 7302250; omega⟩ rfl (fun w' H locs hw hI => ?_)
  obtain ⟨b10, d11, rfl⟩ := hw
  refine lv_pop hx hb dL_law_365 rfl ?_
  refine lv_aload_n hx hb dL_law_366 rfl (lv_at hl 2 rfl) ?_
  refine lv_aload_n hx hb dL_law_367 rfl (lv_at hl 0 rfl) ?_
  refine lv_iload_n hx hb dL_law_368 rfl (lv_at hl 3 rfl) ?_
  refine lv_iconst (v := 1) hx hb dL_law_369 (by decide) ?_
  refine lv_iadd hx hb dL_law_370 ?_
  refine va_sld hx hb hX hbl hbA hI.2.2 g1 dL_law_371 ?_
  refine lv_aload_n hx hb dL_law_372 rfl (lv_at hl 0 rfl) ?_
  refine lv_iload_n hx hb dL_law_373 rfl (lv_at hl 3 rfl) ?_
  refine lv_iconst (v := 2) hx hb dL_law_374 (by decide) ?_
  refine lv_iadd hx hb dL_law_375 ?_
  refine va_sld hx hb hX hbl hbA hI.2.2 g2 dL_law_376 ?_
  refine lv_aload_n hx hb dL_law_377 rfl (lv_at hl 0 rfl) ?_
  refine lv_iload_n hx hb dL_law_378 rfl (lv_at hl 3 rfl) ?_
  refine lv_iconst (v := 3) hx hb dL_law_379 (by decide) ?_
  refine lv_iadd hx hb dL_law_380 ?_
  refine va_sld hx hb hX hbl hbA hI.2.2 g3 dL_law_381 ?_
  refine lv_aload_n hx hb dL_law_382 rfl (lv_at hl 0 rfl) ?_
  refine lv_iload_n hx hb dL_law_383 rfl (lv_at hl 3 rfl) ?_
  refine lv_iconst (v := 4) hx hb dL_law_384 (by decide) ?_
  refine lv_iadd hx hb dL_law_385 ?_
  refine va_sld hx hb hX hbl hbA hI.2.2 g4 dL_law_386 ?_
  refine lv_aload_n hx hb dL_law_387 rfl (lv_at hl 0 rfl) ?_
  refine lv_iload_n hx hb dL_law_388 rfl (lv_at hl 3 rfl) ?_
  refine lv_iconst (v := 5) hx hb dL_law_389 (by decide) ?_
  refine lv_iadd hx hb dL_law_390 ?_
  refine va_sld hx hb hX hbl hbA hI.2.2 g5 dL_law_391 ?_
  refine lv_aload_n hx hb dL_law_392 rfl (lv_at hl 0 rfl) ?_
  refine lv_iload_n hx hb dL_law_393 rfl (lv_at hl 3 rfl) ?_
  refine lv_bipush (v := 6) hx hb dL_law_394 (by decide) ?_
  refine lv_iadd hx hb dL_law_396 ?_
  refine va_sld hx hb hX hbl hbA hI.2.2 g6 dL_law_397 ?_
  obtain ⟨r12, M14, e13, h⟩ := gw_b2E h
  have hI := gw_perm List.perm_append_comm hI
  refine gw_callVF (w := gw_cw cc a b10 d11 S9) (wc := gw_mw cc am M) (As := [.int (xs (i + (1 : Int32)).toNatClampNeg), .int (xs (i + (2 : Int32)).toNatClampNeg), .int (xs (i + (3 : Int32)).toNatClampNeg), .int (xs (i + (4 : Int32)).toNatClampNeg), .int (xs (i + (5 : Int32)).toNatClampNeg), .int (xs (i + (6 : Int32)).toNatClampNeg)]) (n := 6) B hI (k_X9_gown (xs (i + (1 : Int32)).toNatClampNeg) (xs (i + (2 : Int32)).toNatClampNeg) (xs (i + (3 : Int32)).toNatClampNeg) (xs (i + (4 : Int32)).toNatClampNeg) (xs (i + (5 : Int32)).toNatClampNeg) (xs (i + (6 : Int32)).toNatClampNeg) M e13) gL_law_X9_gown rfl rfl rfl ndl_X9_gown ⟨Nat.le_of_ble_eq_true rfl, Nat.le_of_ble_eq_true rfl⟩ gm_g0 rfl rfl rfl hl.1 (Nat.le_of_ble_eq_true rfl) dL_law_398 ⟨by show cl + 1 + 0 ≤ 600000; omega, by show sl + 12 + 0 ≤ 7302250; omega⟩ rfl (fun w' H locs hw hI => ?_)
  subst hw
  have hI := gw_perm List.perm_append_comm hI
  refine lv_pop hx hb dL_law_401 rfl ?_
  refine lv_goto (tgt := 1551) hx hb dL_law_402 (by decide) ?_
  refine W.widen (k := cl + 7) (n := sl + 98) (by omega) (by omega) ?_
  exact hK S9 M14 h b10 d11 _ _ ls hI hl
set_option maxRecDepth 100000 in
set_option maxHeartbeats 4000000 in
theorem k_law_c5 {p : Program} {l : Launch} {e : Env} {s : State} {m : MethodId} {below : List Frame} {meth : Method} {c : Code} {D : va_G} {cc : Nat → ClassId} {t1 t2 b0 L : Nat} {A : Nat → Prop} {a am : Nat → Nat} {xs : Nat → Int32} (hX : va_X b0 L xs s s.heap) (hbl : b0 < s.heap.size) (hbA : ¬ A b0) (B : gw_B p s m #[Value.ref b0] meth c cL_law 4 wsL_law RL ret D (gw_ty cc) t1 t2 A) {i : Int32} {cl sl : Nat} (h1 : cl + 7 ≤ 600000) (h2 : sl + 98 ≤ 7302250) {K : gw_S → gw_S → Option Int32} (hK : ∀ (S M : gw_S), K S M = some 1 → ∀ (b d : Nat → Nat) (H : Heap) (locs : List Loc) (ls : Array Slot), gw_I D A s.heap (gw_mw cc am M ++ gw_cw cc a b d S) H locs → lv_has ls 4 [(0, .ref b0), (1, .ref (a 0)), (2, .ref (am 0)), (3, .int i)] → W p l e room_1 s m #[Value.ref b0] below meth c H locs (cl + 7) (sl + 98) (lw_Z below #[Value.ref b0] s) (F0 m 1551 ls [])) (S M : gw_S) (h : f_law_c5 xs L i K S M = some 1) (b d : Nat → Nat) (H : Heap) (locs : List Loc) (ls : Array Slot) (hI : gw_I D A s.heap (gw_mw cc am M ++ gw_cw cc a b d S) H locs) (hl : lv_has ls 4 [(0, .ref b0), (1, .ref (a 0)), (2, .ref (am 0)), (3, .int i)]) : W p l e room_1 s m #[Value.ref b0] below meth c H locs cl sl (lw_Z below #[Value.ref b0] s) (F0 m 405 ls []) := by
  have hx := B.1.1
  have hb := B.1.2.1
  have hown : s.vm.findClass RL = some m.cls := B.1.2.2.2.1
  have hts := B.1.2.2.2.2
  unfold f_law_c5 at h
  refine lv_aload_n hx hb dL_law_405 rfl (lv_at hl 1 rfl) ?_
  refine lv_aload_n hx hb dL_law_406 rfl (lv_at hl 0 rfl) ?_
  refine lv_iload_n hx hb dL_law_407 rfl (lv_at hl 3 rfl) ?_
  refine lv_iconst (v := 1) hx hb dL_law_408 (by decide) ?_
  refine lv_iadd hx hb dL_law_409 ?_
  obtain ⟨g1, h⟩ := gw_gdE h
  refine va_sld hx hb hX hbl hbA hI.2.2 g1 dL_law_410 ?_
  refine lv_aload_n hx hb dL_law_411 rfl (lv_at hl 0 rfl) ?_
  refine lv_iload_n hx hb dL_law_412 rfl (lv_at hl 3 rfl) ?_
  refine lv_iconst (v := 2) hx hb dL_law_413 (by decide) ?_
  refine lv_iadd hx hb dL_law_414 ?_
  obtain ⟨g2, h⟩ := gw_gdE h
  refine va_sld hx hb hX hbl hbA hI.2.2 g2 dL_law_415 ?_
  refine lv_aload_n hx hb dL_law_416 rfl (lv_at hl 0 rfl) ?_
  refine lv_iload_n hx hb dL_law_417 rfl (lv_at hl 3 rfl) ?_
  refine lv_iconst (v := 3) hx hb dL_law_418 (by decide) ?_
  refine lv_iadd hx hb dL_law_419 ?_
  obtain ⟨g3, h⟩ := gw_gdE h
  refine va_sld hx hb hX hbl hbA hI.2.2 g3 dL_law_420 ?_
  refine lv_aload_n hx hb dL_law_421 rfl (lv_at hl 0 rfl) ?_
  refine lv_iload_n hx hb dL_law_422 rfl (lv_at hl 3 rfl) ?_
  refine lv_iconst (v := 4) hx hb dL_law_423 (by decide) ?_
  refine lv_iadd hx hb dL_law_424 ?_
  obtain ⟨g4, h⟩ := gw_gdE h
  refine va_sld hx hb hX hbl hbA hI.2.2 g4 dL_law_425 ?_
  refine lv_aload_n hx hb dL_law_426 rfl (lv_at hl 0 rfl) ?_
  refine lv_iload_n hx hb dL_law_427 rfl (lv_at hl 3 rfl) ?_
  refine lv_iconst (v := 5) hx hb dL_law_428 (by decide) ?_
  refine lv_iadd hx hb dL_law_429 ?_
  obtain ⟨g5, h⟩ := gw_gdE h
  refine va_sld hx hb hX hbl hbA hI.2.2 g5 dL_law_430 ?_
  refine lv_aload_n hx hb dL_law_431 rfl (lv_at hl 0 rfl) ?_
  refine lv_iload_n hx hb dL_law_432 rfl (lv_at hl 3 rfl) ?_
  refine lv_bipush (v := 6) hx hb dL_law_433 (by decide) ?_
  refine lv_iadd hx hb dL_law_435 ?_
  obtain ⟨g6, h⟩ := gw_gdE h
  refine va_sld hx hb hX hbl hbA hI.2.2 g6 dL_law_436 ?_
  obtain ⟨r7, S9, e8, h⟩ := gw_b2E h
  refine gw_callVF (w := gw_mw cc am M) (wc := gw_cw cc a b d S) (As := [.int (xs (i + (1 : Int32)).toNatClampNeg), .int (xs (i + (2 : Int32)).toNatClampNeg), .int (xs (i + (3 : Int32)).toNatClampNeg), .int (xs (i + (4 : Int32)).toNatClampNeg), .int (xs (i + (5 : Int32)).toNatClampNeg), .int (xs (i + (6 : Int32)).toNatClampNeg)]) (n := 6) B hI (k_X8_longGown (xs (i + (1 : Int32)).toNatClampNeg) (xs (i + (2 : Int32)).toNatClampNeg) (xs (i + (3 : Int32)).toNatClampNeg) (xs (i + (4 : Int32)).toNatClampNeg) (xs (i + (5 : Int32)).toNatClampNeg) (xs (i + (6 : Int32)).toNatClampNeg) S e8) gL_law_X8_longGown rfl rfl rfl ndl_X8_longGown ⟨Nat.le_of_ble_eq_true rfl, Nat.le_of_ble_eq_true rfl⟩ gc_g0 rfl rfl rfl hl.1 (Nat.le_of_ble_eq_true rfl) dL_law_437 ⟨by show cl + 0 + 1 ≤ 600000; omega, by show sl + 0 + 12 ≤ 7302250; omega⟩ rfl (fun w' H locs hw hI => ?_)
  obtain ⟨b10, d11, rfl⟩ := hw
  refine lv_pop hx hb dL_law_440 rfl ?_
  refine lv_aload_n hx hb dL_law_441 rfl (lv_at hl 2 rfl) ?_
  refine lv_aload_n hx hb dL_law_442 rfl (lv_at hl 0 rfl) ?_
  refine lv_iload_n hx hb dL_law_443 rfl (lv_at hl 3 rfl) ?_
  refine lv_iconst (v := 1) hx hb dL_law_444 (by decide) ?_
  refine lv_iadd hx hb dL_law_445 ?_
  refine va_sld hx hb hX hbl hbA hI.2.2 g1 dL_law_446 ?_
  refine lv_aload_n hx hb dL_law_447 rfl (lv_at hl 0 rfl) ?_
  refine lv_iload_n hx hb dL_law_448 rfl (lv_at hl 3 rfl) ?_
  refine lv_iconst (v := 2) hx hb dL_law_449 (by decide) ?_
  refine lv_iadd hx hb dL_law_450 ?_
  refine va_sld hx hb hX hbl hbA hI.2.2 g2 dL_law_451 ?_
  refine lv_aload_n hx hb dL_law_452 rfl (lv_at hl 0 rfl) ?_
  refine lv_iload_n hx hb dL_law_453 rfl (lv_at hl 3 rfl) ?_
  refine lv_iconst (v := 3) hx hb dL_law_454 (by decide) ?_
  refine lv_iadd hx hb dL_law_455 ?_
  refine va_sld hx hb hX hbl hbA hI.2.2 g3 dL_law_456 ?_
  refine lv_aload_n hx hb dL_law_457 rfl (lv_at hl 0 rfl) ?_
  refine lv_iload_n hx hb dL_law_458 rfl (lv_at hl 3 rfl) ?_
  refine lv_iconst (v := 4) hx hb dL_law_459 (by decide) ?_
  refine lv_iadd hx hb dL_law_460 ?_
  refine va_sld hx hb hX hbl hbA hI.2.2 g4 dL_law_461 ?_
  refine lv_aload_n hx hb dL_law_462 rfl (lv_at hl 0 rfl) ?_
  refine lv_iload_n hx hb dL_law_463 rfl (lv_at hl 3 rfl) ?_
  refine lv_iconst (v := 5) hx hb dL_law_464 (by decide) ?_
  refine lv_iadd hx hb dL_law_465 ?_
  refine va_sld hx hb hX hbl hbA hI.2.2 g5 dL_law_466 ?_
  refine lv_aload_n hx hb dL_law_467 rfl (lv_at hl 0 rfl) ?_
  refine lv_iload_n hx hb dL_law_468 rfl (lv_at hl 3 rfl) ?_
  refine lv_bipush (v := 6) hx hb dL_law_469 (by decide) ?_
  refine lv_iadd hx hb dL_law_471 ?_
  refine va_sld hx hb hX hbl hbA hI.2.2 g6 dL_law_472 ?_
  obtain ⟨r12, M14, e13, h⟩ := gw_b2E h
  have hI := gw_perm List.perm_append_comm hI
  refine gw_callVF (w := gw_cw cc a b10 d11 S9) (wc := gw_mw cc am M) (As := [.int (xs (i + (1 : Int32)).toNatClampNeg), .int (xs (i + (2 : Int32)).toNatClampNeg), .int (xs (i + (3 : Int32)).toNatClampNeg), .int (xs (i + (4 : Int32)).toNatClampNeg), .int (xs (i + (5 : Int32)).toNatClampNeg), .int (xs (i + (6 : Int32)).toNatClampNeg)]) (n := 6) B hI (k_X9_longGown (xs (i + (1 : Int32)).toNatClampNeg) (xs (i + (2 : Int32)).toNatClampNeg) (xs (i + (3 : Int32)).toNatClampNeg) (xs (i + (4 : Int32)).toNatClampNeg) (xs (i + (5 : Int32)).toNatClampNeg) (xs (i + (6 : Int32)).toNatClampNeg) M e13) gL_law_X9_longGown rfl rfl rfl ndl_X9_longGown ⟨Nat.le_of_ble_eq_true rfl, Nat.le_of_ble_eq_true rfl⟩ gm_g0 rfl rfl rfl hl.1 (Nat.le_of_ble_eq_true rfl) dL_law_473 ⟨by show cl + 1 + 0 ≤ 600000; omega, by show sl + 12 + 0 ≤ 7302250; omega⟩ rfl (fun w' H locs hw hI => ?_)
  subst hw
  have hI := gw_perm List.perm_append_comm hI
  refine lv_pop hx hb dL_law_476 rfl ?_
  refine lv_goto (tgt := 1551) hx hb dL_law_477 (by decide) ?_
  refine W.widen (k := cl + 7) (n := sl + 98) (by omega) (by omega) ?_
  exact hK S9 M14 h b10 d11 _ _ ls hI hl
set_option maxRecDepth 100000 in
set_option maxHeartbeats 4000000 in
theorem k_law_c6 {p : Program} {l : Launch} {e : Env} {s : State} {m : MethodId} {below : List Frame} {meth : Method} {c : Code} {D : va_G} {cc : Nat → ClassId} {t1 t2 b0 L : Nat} {A : Nat → Prop} {a am : Nat → Nat} {xs : Nat → Int32} (hX : va_X b0 L xs s s.heap) (hbl : b0 < s.heap.size) (hbA : ¬ A b0) (B : gw_B p s m #[Value.ref b0] meth c cL_law 4 wsL_law RL ret D (gw_ty cc) t1 t2 A) {i : Int32} {cl sl : Nat} (h1 : cl + 7 ≤ 600000) (h2 : sl + 98 ≤ 7302250) {K : gw_S → gw_S → Option Int32} (hK : ∀ (S M : gw_S), K S M = some 1 → ∀ (b d : Nat → Nat) (H : Heap) (locs : List Loc) (ls : Array Slot), gw_I D A s.heap (gw_mw cc am M ++ gw_cw cc a b d S) H locs → lv_has ls 4 [(0, .ref b0), (1, .ref (a 0)), (2, .ref (am 0)), (3, .int i)] → W p l e room_1 s m #[Value.ref b0] below meth c H locs (cl + 7) (sl + 98) (lw_Z below #[Value.ref b0] s) (F0 m 1551 ls [])) (S M : gw_S) (h : f_law_c6 xs L i K S M = some 1) (b d : Nat → Nat) (H : Heap) (locs : List Loc) (ls : Array Slot) (hI : gw_I D A s.heap (gw_mw cc am M ++ gw_cw cc a b d S) H locs) (hl : lv_has ls 4 [(0, .ref b0), (1, .ref (a 0)), (2, .ref (am 0)), (3, .int i)]) : W p l e room_1 s m #[Value.ref b0] below meth c H locs cl sl (lw_Z below #[Value.ref b0] s) (F0 m 480 ls []) := by
  have hx := B.1.1
  have hb := B.1.2.1
  have hown : s.vm.findClass RL = some m.cls := B.1.2.2.2.1
  have hts := B.1.2.2.2.2
  unfold f_law_c6 at h
  refine lv_aload_n hx hb dL_law_480 rfl (lv_at hl 1 rfl) ?_
  refine lv_aload_n hx hb dL_law_481 rfl (lv_at hl 0 rfl) ?_
  refine lv_iload_n hx hb dL_law_482 rfl (lv_at hl 3 rfl) ?_
  refine lv_iconst (v := 1) hx hb dL_law_483 (by decide) ?_
  refine lv_iadd hx hb dL_law_484 ?_
  obtain ⟨g1, h⟩ := gw_gdE h
  refine va_sld hx hb hX hbl hbA hI.2.2 g1 dL_law_485 ?_
  refine lv_aload_n hx hb dL_law_486 rfl (lv_at hl 0 rfl) ?_
  refine lv_iload_n hx hb dL_law_487 rfl (lv_at hl 3 rfl) ?_
  refine lv_iconst (v := 2) hx hb dL_law_488 (by decide) ?_
  refine lv_iadd hx hb dL_law_489 ?_
  obtain ⟨g2, h⟩ := gw_gdE h
  refine va_sld hx hb hX hbl hbA hI.2.2 g2 dL_law_490 ?_
  refine lv_aload_n hx hb dL_law_491 rfl (lv_at hl 0 rfl) ?_
  refine lv_iload_n hx hb dL_law_492 rfl (lv_at hl 3 rfl) ?_
  refine lv_iconst (v := 3) hx hb dL_law_493 (by decide) ?_
  refine lv_iadd hx hb dL_law_494 ?_
  obtain ⟨g3, h⟩ := gw_gdE h
  refine va_sld hx hb hX hbl hbA hI.2.2 g3 dL_law_495 ?_
  refine lv_aload_n hx hb dL_law_496 rfl (lv_at hl 0 rfl) ?_
  refine lv_iload_n hx hb dL_law_497 rfl (lv_at hl 3 rfl) ?_
  refine lv_iconst (v := 4) hx hb dL_law_498 (by decide) ?_
  refine lv_iadd hx hb dL_law_499 ?_
  obtain ⟨g4, h⟩ := gw_gdE h
  refine va_sld hx hb hX hbl hbA hI.2.2 g4 dL_law_500 ?_
  refine lv_aload_n hx hb dL_law_501 rfl (lv_at hl 0 rfl) ?_
  refine lv_iload_n hx hb dL_law_502 rfl (lv_at hl 3 rfl) ?_
  refine lv_iconst (v := 5) hx hb dL_law_503 (by decide) ?_
  refine lv_iadd hx hb dL_law_504 ?_
  obtain ⟨g5, h⟩ := gw_gdE h
  refine va_sld hx hb hX hbl hbA hI.2.2 g5 dL_law_505 ?_
  refine lv_aload_n hx hb dL_law_506 rfl (lv_at hl 0 rfl) ?_
  refine lv_iload_n hx hb dL_law_507 rfl (lv_at hl 3 rfl) ?_
  refine lv_bipush (v := 6) hx hb dL_law_508 (by decide) ?_
  refine lv_iadd hx hb dL_law_510 ?_
  obtain ⟨g6, h⟩ := gw_gdE h
  refine va_sld hx hb hX hbl hbA hI.2.2 g6 dL_law_511 ?_
  obtain ⟨r7, S9, e8, h⟩ := gw_b2E h
  refine gw_callVF (w := gw_mw cc am M) (wc := gw_cw cc a b d S) (As := [.int (xs (i + (1 : Int32)).toNatClampNeg), .int (xs (i + (2 : Int32)).toNatClampNeg), .int (xs (i + (3 : Int32)).toNatClampNeg), .int (xs (i + (4 : Int32)).toNatClampNeg), .int (xs (i + (5 : Int32)).toNatClampNeg), .int (xs (i + (6 : Int32)).toNatClampNeg)]) (n := 6) B hI (k_X8_suit (xs (i + (1 : Int32)).toNatClampNeg) (xs (i + (2 : Int32)).toNatClampNeg) (xs (i + (3 : Int32)).toNatClampNeg) (xs (i + (4 : Int32)).toNatClampNeg) (xs (i + (5 : Int32)).toNatClampNeg) (xs (i + (6 : Int32)).toNatClampNeg) S e8) gL_law_X8_suit rfl rfl rfl ndl_X8_suit ⟨Nat.le_of_ble_eq_true rfl, Nat.le_of_ble_eq_true rfl⟩ gc_g0 rfl rfl rfl hl.1 (Nat.le_of_ble_eq_true rfl) dL_law_512 ⟨by show cl + 0 + 1 ≤ 600000; omega, by show sl + 0 + 12 ≤ 7302250; omega⟩ rfl (fun w' H locs hw hI => ?_)
  obtain ⟨b10, d11, rfl⟩ := hw
  refine lv_pop hx hb dL_law_515 rfl ?_
  refine lv_aload_n hx hb dL_law_516 rfl (lv_at hl 2 rfl) ?_
  refine lv_aload_n hx hb dL_law_517 rfl (lv_at hl 0 rfl) ?_
  refine lv_iload_n hx hb dL_law_518 rfl (lv_at hl 3 rfl) ?_
  refine lv_iconst (v := 1) hx hb dL_law_519 (by decide) ?_
  refine lv_iadd hx hb dL_law_520 ?_
  refine va_sld hx hb hX hbl hbA hI.2.2 g1 dL_law_521 ?_
  refine lv_aload_n hx hb dL_law_522 rfl (lv_at hl 0 rfl) ?_
  refine lv_iload_n hx hb dL_law_523 rfl (lv_at hl 3 rfl) ?_
  refine lv_iconst (v := 2) hx hb dL_law_524 (by decide) ?_
  refine lv_iadd hx hb dL_law_525 ?_
  refine va_sld hx hb hX hbl hbA hI.2.2 g2 dL_law_526 ?_
  refine lv_aload_n hx hb dL_law_527 rfl (lv_at hl 0 rfl) ?_
  refine lv_iload_n hx hb dL_law_528 rfl (lv_at hl 3 rfl) ?_
  refine lv_iconst (v := 3) hx hb dL_law_529 (by decide) ?_
  refine lv_iadd hx hb dL_law_530 ?_
  refine va_sld hx hb hX hbl hbA hI.2.2 g3 dL_law_531 ?_
  refine lv_aload_n hx hb dL_law_532 rfl (lv_at hl 0 rfl) ?_
  refine lv_iload_n hx hb dL_law_533 rfl (lv_at hl 3 rfl) ?_
  refine lv_iconst (v := 4) hx hb dL_law_534 (by decide) ?_
  refine lv_iadd hx hb dL_law_535 ?_
  refine va_sld hx hb hX hbl hbA hI.2.2 g4 dL_law_536 ?_
  refine lv_aload_n hx hb dL_law_537 rfl (lv_at hl 0 rfl) ?_
  refine lv_iload_n hx hb dL_law_538 rfl (lv_at hl 3 rfl) ?_
  refine lv_iconst (v := 5) hx hb dL_law_539 (by decide) ?_
  refine lv_iadd hx hb dL_law_540 ?_
  refine va_sld hx hb hX hbl hbA hI.2.2 g5 dL_law_541 ?_
  refine lv_aload_n hx hb dL_law_542 rfl (lv_at hl 0 rfl) ?_
  refine lv_iload_n hx hb dL_law_543 rfl (lv_at hl 3 rfl) ?_
  refine lv_bipush (v := 6) hx hb dL_law_544 (by decide) ?_
  refine lv_iadd hx hb dL_law_546 ?_
  refine va_sld hx hb hX hbl hbA hI.2.2 g6 dL_law_547 ?_
  obtain ⟨r12, M14, e13, h⟩ := gw_b2E h
  have hI := gw_perm List.perm_append_comm hI
  refine gw_callVF (w := gw_cw cc a b10 d11 S9) (wc := gw_mw cc am M) (As := [.int (xs (i + (1 : Int32)).toNatClampNeg), .int (xs (i + (2 : Int32)).toNatClampNeg), .int (xs (i + (3 : Int32)).toNatClampNeg), .int (xs (i + (4 : Int32)).toNatClampNeg), .int (xs (i + (5 : Int32)).toNatClampNeg), .int (xs (i + (6 : Int32)).toNatClampNeg)]) (n := 6) B hI (k_X9_suit (xs (i + (1 : Int32)).toNatClampNeg) (xs (i + (2 : Int32)).toNatClampNeg) (xs (i + (3 : Int32)).toNatClampNeg) (xs (i + (4 : Int32)).toNatClampNeg) (xs (i + (5 : Int32)).toNatClampNeg) (xs (i + (6 : Int32)).toNatClampNeg) M e13) gL_law_X9_suit rfl rfl rfl ndl_X9_suit ⟨Nat.le_of_ble_eq_true rfl, Nat.le_of_ble_eq_true rfl⟩ gm_g0 rfl rfl rfl hl.1 (Nat.le_of_ble_eq_true rfl) dL_law_548 ⟨by show cl + 1 + 0 ≤ 600000; omega, by show sl + 12 + 0 ≤ 7302250; omega⟩ rfl (fun w' H locs hw hI => ?_)
  subst hw
  have hI := gw_perm List.perm_append_comm hI
  refine lv_pop hx hb dL_law_551 rfl ?_
  refine lv_goto (tgt := 1551) hx hb dL_law_552 (by decide) ?_
  refine W.widen (k := cl + 7) (n := sl + 98) (by omega) (by omega) ?_
  exact hK S9 M14 h b10 d11 _ _ ls hI hl
set_option maxRecDepth 100000 in
set_option maxHeartbeats 4000000 in
theorem k_law_c7 {p : Program} {l : Launch} {e : Env} {s : State} {m : MethodId} {below : List Frame} {meth : Method} {c : Code} {D : va_G} {cc : Nat → ClassId} {t1 t2 b0 L : Nat} {A : Nat → Prop} {a am : Nat → Nat} {xs : Nat → Int32} (hX : va_X b0 L xs s s.heap) (hbl : b0 < s.heap.size) (hbA : ¬ A b0) (B : gw_B p s m #[Value.ref b0] meth c cL_law 4 wsL_law RL ret D (gw_ty cc) t1 t2 A) {i : Int32} {cl sl : Nat} (h1 : cl + 7 ≤ 600000) (h2 : sl + 98 ≤ 7302250) {K : gw_S → gw_S → Option Int32} (hK : ∀ (S M : gw_S), K S M = some 1 → ∀ (b d : Nat → Nat) (H : Heap) (locs : List Loc) (ls : Array Slot), gw_I D A s.heap (gw_mw cc am M ++ gw_cw cc a b d S) H locs → lv_has ls 4 [(0, .ref b0), (1, .ref (a 0)), (2, .ref (am 0)), (3, .int i)] → W p l e room_1 s m #[Value.ref b0] below meth c H locs (cl + 7) (sl + 98) (lw_Z below #[Value.ref b0] s) (F0 m 1551 ls [])) (S M : gw_S) (h : f_law_c7 xs L i K S M = some 1) (b d : Nat → Nat) (H : Heap) (locs : List Loc) (ls : Array Slot) (hI : gw_I D A s.heap (gw_mw cc am M ++ gw_cw cc a b d S) H locs) (hl : lv_has ls 4 [(0, .ref b0), (1, .ref (a 0)), (2, .ref (am 0)), (3, .int i)]) : W p l e room_1 s m #[Value.ref b0] below meth c H locs cl sl (lw_Z below #[Value.ref b0] s) (F0 m 555 ls []) := by
  have hx := B.1.1
  have hb := B.1.2.1
  have hown : s.vm.findClass RL = some m.cls := B.1.2.2.2.1
  have hts := B.1.2.2.2.2
  unfold f_law_c7 at h
  refine lv_aload_n hx hb dL_law_555 rfl (lv_at hl 1 rfl) ?_
  refine lv_aload_n hx hb dL_law_556 rfl (lv_at hl 0 rfl) ?_
  refine lv_iload_n hx hb dL_law_557 rfl (lv_at hl 3 rfl) ?_
  refine lv_iconst (v := 1) hx hb dL_law_558 (by decide) ?_
  refine lv_iadd hx hb dL_law_559 ?_
  obtain ⟨g1, h⟩ := gw_gdE h
  refine va_sld hx hb hX hbl hbA hI.2.2 g1 dL_law_560 ?_
  refine lv_aload_n hx hb dL_law_561 rfl (lv_at hl 0 rfl) ?_
  refine lv_iload_n hx hb dL_law_562 rfl (lv_at hl 3 rfl) ?_
  refine lv_iconst (v := 2) hx hb dL_law_563 (by decide) ?_
  refine lv_iadd hx hb dL_law_564 ?_
  obtain ⟨g2, h⟩ := gw_gdE h
  refine va_sld hx hb hX hbl hbA hI.2.2 g2 dL_law_565 ?_
  obtain ⟨r3, S5, e4, h⟩ := gw_b2E h
  refine gw_callVF (w := gw_mw cc am M) (wc := gw_cw cc a b d S) (As := [.int (xs (i + (1 : Int32)).toNatClampNeg), .int (xs (i + (2 : Int32)).toNatClampNeg)]) (n := 2) B hI (k_X8_hem (xs (i + (1 : Int32)).toNatClampNeg) (xs (i + (2 : Int32)).toNatClampNeg) S e4) gL_law_X8_hem rfl rfl rfl ndl_X8_hem ⟨Nat.le_of_ble_eq_true rfl, Nat.le_of_ble_eq_true rfl⟩ gc_g0 rfl rfl rfl hl.1 (Nat.le_of_ble_eq_true rfl) dL_law_566 ⟨by show cl + 0 + 0 ≤ 600000; omega, by show sl + 0 + 0 ≤ 7302250; omega⟩ rfl (fun w' H locs hw hI => ?_)
  subst hw
  refine lv_pop hx hb dL_law_569 rfl ?_
  refine lv_aload_n hx hb dL_law_570 rfl (lv_at hl 2 rfl) ?_
  refine lv_aload_n hx hb dL_law_571 rfl (lv_at hl 0 rfl) ?_
  refine lv_iload_n hx hb dL_law_572 rfl (lv_at hl 3 rfl) ?_
  refine lv_iconst (v := 1) hx hb dL_law_573 (by decide) ?_
  refine lv_iadd hx hb dL_law_574 ?_
  refine va_sld hx hb hX hbl hbA hI.2.2 g1 dL_law_575 ?_
  refine lv_aload_n hx hb dL_law_576 rfl (lv_at hl 0 rfl) ?_
  refine lv_iload_n hx hb dL_law_577 rfl (lv_at hl 3 rfl) ?_
  refine lv_iconst (v := 2) hx hb dL_law_578 (by decide) ?_
  refine lv_iadd hx hb dL_law_579 ?_
  refine va_sld hx hb hX hbl hbA hI.2.2 g2 dL_law_580 ?_
  obtain ⟨r6, M8, e7, h⟩ := gw_b2E h
  have hI := gw_perm List.perm_append_comm hI
  refine gw_callVF (w := gw_cw cc a b d S5) (wc := gw_mw cc am M) (As := [.int (xs (i + (1 : Int32)).toNatClampNeg), .int (xs (i + (2 : Int32)).toNatClampNeg)]) (n := 2) B hI (k_X9_hem (xs (i + (1 : Int32)).toNatClampNeg) (xs (i + (2 : Int32)).toNatClampNeg) M e7) gL_law_X9_hem rfl rfl rfl ndl_X9_hem ⟨Nat.le_of_ble_eq_true rfl, Nat.le_of_ble_eq_true rfl⟩ gm_g0 rfl rfl rfl hl.1 (Nat.le_of_ble_eq_true rfl) dL_law_581 ⟨by show cl + 0 + 0 ≤ 600000; omega, by show sl + 0 + 0 ≤ 7302250; omega⟩ rfl (fun w' H locs hw hI => ?_)
  subst hw
  have hI := gw_perm List.perm_append_comm hI
  refine lv_pop hx hb dL_law_584 rfl ?_
  refine lv_goto (tgt := 1551) hx hb dL_law_585 (by decide) ?_
  refine W.widen (k := cl + 7) (n := sl + 98) (by omega) (by omega) ?_
  exact hK S5 M8 h b d _ _ ls hI hl
set_option maxRecDepth 100000 in
set_option maxHeartbeats 4000000 in
theorem k_law_c8 {p : Program} {l : Launch} {e : Env} {s : State} {m : MethodId} {below : List Frame} {meth : Method} {c : Code} {D : va_G} {cc : Nat → ClassId} {t1 t2 b0 L : Nat} {A : Nat → Prop} {a am : Nat → Nat} {xs : Nat → Int32} (hX : va_X b0 L xs s s.heap) (hbl : b0 < s.heap.size) (hbA : ¬ A b0) (B : gw_B p s m #[Value.ref b0] meth c cL_law 4 wsL_law RL ret D (gw_ty cc) t1 t2 A) {i : Int32} {cl sl : Nat} (h1 : cl + 7 ≤ 600000) (h2 : sl + 98 ≤ 7302250) {K : gw_S → gw_S → Option Int32} (hK : ∀ (S M : gw_S), K S M = some 1 → ∀ (b d : Nat → Nat) (H : Heap) (locs : List Loc) (ls : Array Slot), gw_I D A s.heap (gw_mw cc am M ++ gw_cw cc a b d S) H locs → lv_has ls 4 [(0, .ref b0), (1, .ref (a 0)), (2, .ref (am 0)), (3, .int i)] → W p l e room_1 s m #[Value.ref b0] below meth c H locs (cl + 7) (sl + 98) (lw_Z below #[Value.ref b0] s) (F0 m 1551 ls [])) (S M : gw_S) (h : f_law_c8 xs L i K S M = some 1) (b d : Nat → Nat) (H : Heap) (locs : List Loc) (ls : Array Slot) (hI : gw_I D A s.heap (gw_mw cc am M ++ gw_cw cc a b d S) H locs) (hl : lv_has ls 4 [(0, .ref b0), (1, .ref (a 0)), (2, .ref (am 0)), (3, .int i)]) : W p l e room_1 s m #[Value.ref b0] below meth c H locs cl sl (lw_Z below #[Value.ref b0] s) (F0 m 588 ls []) := by
  have hx := B.1.1
  have hb := B.1.2.1
  have hown : s.vm.findClass RL = some m.cls := B.1.2.2.2.1
  have hts := B.1.2.2.2.2
  unfold f_law_c8 at h
  refine lv_aload_n hx hb dL_law_588 rfl (lv_at hl 1 rfl) ?_
  refine lv_aload_n hx hb dL_law_589 rfl (lv_at hl 0 rfl) ?_
  refine lv_iload_n hx hb dL_law_590 rfl (lv_at hl 3 rfl) ?_
  refine lv_iconst (v := 1) hx hb dL_law_591 (by decide) ?_
  refine lv_iadd hx hb dL_law_592 ?_
  obtain ⟨g1, h⟩ := gw_gdE h
  refine va_sld hx hb hX hbl hbA hI.2.2 g1 dL_law_593 ?_
  refine lv_aload_n hx hb dL_law_594 rfl (lv_at hl 0 rfl) ?_
  refine lv_iload_n hx hb dL_law_595 rfl (lv_at hl 3 rfl) ?_
  refine lv_iconst (v := 2) hx hb dL_law_596 (by decide) ?_
  refine lv_iadd hx hb dL_law_597 ?_
  obtain ⟨g2, h⟩ := gw_gdE h
  refine va_sld hx hb hX hbl hbA hI.2.2 g2 dL_law_598 ?_
  obtain ⟨r3, e4, h⟩ := gw_bdE h
  refine gw_callVF (w := gw_mw cc am M) (wc := gw_cw cc a b d S) (As := [.int (xs (i + (1 : Int32)).toNatClampNeg), .int (xs (i + (2 : Int32)).toNatClampNeg)]) (n := 2) B hI (k_X8_told (xs (i + (1 : Int32)).toNatClampNeg) (xs (i + (2 : Int32)).toNatClampNeg) S e4) gL_law_X8_told rfl rfl rfl ndl_X8_told ⟨Nat.le_of_ble_eq_true rfl, Nat.le_of_ble_eq_true rfl⟩ gc_g0 rfl rfl rfl hl.1 (Nat.le_of_ble_eq_true rfl) dL_law_599 ⟨by show cl + 0 + 0 ≤ 600000; omega, by show sl + 0 + 0 ≤ 7302250; omega⟩ rfl (fun w' H locs hw hI => ?_)
  subst hw
  refine lv_pop hx hb dL_law_602 rfl ?_
  refine lv_aload_n hx hb dL_law_603 rfl (lv_at hl 2 rfl) ?_
  refine lv_aload_n hx hb dL_law_604 rfl (lv_at hl 0 rfl) ?_
  refine lv_iload_n hx hb dL_law_605 rfl (lv_at hl 3 rfl) ?_
  refine lv_iconst (v := 1) hx hb dL_law_606 (by decide) ?_
  refine lv_iadd hx hb dL_law_607 ?_
  refine va_sld hx hb hX hbl hbA hI.2.2 g1 dL_law_608 ?_
  refine lv_aload_n hx hb dL_law_609 rfl (lv_at hl 0 rfl) ?_
  refine lv_iload_n hx hb dL_law_610 rfl (lv_at hl 3 rfl) ?_
  refine lv_iconst (v := 2) hx hb dL_law_611 (by decide) ?_
  refine lv_iadd hx hb dL_law_612 ?_
  refine va_sld hx hb hX hbl hbA hI.2.2 g2 dL_law_613 ?_
  obtain ⟨r5, e6, h⟩ := gw_bdE h
  have hI := gw_perm List.perm_append_comm hI
  refine gw_callVF (w := gw_cw cc a b d S) (wc := gw_mw cc am M) (As := [.int (xs (i + (1 : Int32)).toNatClampNeg), .int (xs (i + (2 : Int32)).toNatClampNeg)]) (n := 2) B hI (k_X9_told (xs (i + (1 : Int32)).toNatClampNeg) (xs (i + (2 : Int32)).toNatClampNeg) M e6) gL_law_X9_told rfl rfl rfl ndl_X9_told ⟨Nat.le_of_ble_eq_true rfl, Nat.le_of_ble_eq_true rfl⟩ gm_g0 rfl rfl rfl hl.1 (Nat.le_of_ble_eq_true rfl) dL_law_614 ⟨by show cl + 0 + 0 ≤ 600000; omega, by show sl + 0 + 0 ≤ 7302250; omega⟩ rfl (fun w' H locs hw hI => ?_)
  subst hw
  have hI := gw_perm List.perm_append_comm hI
  refine lv_pop hx hb dL_law_617 rfl ?_
  refine lv_goto (tgt := 1551) hx hb dL_law_618 (by decide) ?_
  refine W.widen (k := cl + 7) (n := sl + 98) (by omega) (by omega) ?_
  exact hK S M h b d _ _ ls hI hl
set_option maxRecDepth 100000 in
set_option maxHeartbeats 4000000 in
theorem k_law_c9 {p : Program} {l : Launch} {e : Env} {s : State} {m : MethodId} {below : List Frame} {meth : Method} {c : Code} {D : va_G} {cc : Nat → ClassId} {t1 t2 b0 L : Nat} {A : Nat → Prop} {a am : Nat → Nat} {xs : Nat → Int32} (hX : va_X b0 L xs s s.heap) (hbl : b0 < s.heap.size) (hbA : ¬ A b0) (B : gw_B p s m #[Value.ref b0] meth c cL_law 4 wsL_law RL ret D (gw_ty cc) t1 t2 A) {i : Int32} {cl sl : Nat} (h1 : cl + 7 ≤ 600000) (h2 : sl + 98 ≤ 7302250) {K : gw_S → gw_S → Option Int32} (hK : ∀ (S M : gw_S), K S M = some 1 → ∀ (b d : Nat → Nat) (H : Heap) (locs : List Loc) (ls : Array Slot), gw_I D A s.heap (gw_mw cc am M ++ gw_cw cc a b d S) H locs → lv_has ls 4 [(0, .ref b0), (1, .ref (a 0)), (2, .ref (am 0)), (3, .int i)] → W p l e room_1 s m #[Value.ref b0] below meth c H locs (cl + 7) (sl + 98) (lw_Z below #[Value.ref b0] s) (F0 m 1551 ls [])) (S M : gw_S) (h : f_law_c9 xs L i K S M = some 1) (b d : Nat → Nat) (H : Heap) (locs : List Loc) (ls : Array Slot) (hI : gw_I D A s.heap (gw_mw cc am M ++ gw_cw cc a b d S) H locs) (hl : lv_has ls 4 [(0, .ref b0), (1, .ref (a 0)), (2, .ref (am 0)), (3, .int i)]) : W p l e room_1 s m #[Value.ref b0] below meth c H locs cl sl (lw_Z below #[Value.ref b0] s) (F0 m 621 ls []) := by
  have hx := B.1.1
  have hb := B.1.2.1
  have hown : s.vm.findClass RL = some m.cls := B.1.2.2.2.1
  have hts := B.1.2.2.2.2
  unfold f_law_c9 at h
  refine lv_aload_n hx hb dL_law_621 rfl (lv_at hl 1 rfl) ?_
  refine lv_aload_n hx hb dL_law_622 rfl (lv_at hl 0 rfl) ?_
  refine lv_iload_n hx hb dL_law_623 rfl (lv_at hl 3 rfl) ?_
  refine lv_iconst (v := 1) hx hb dL_law_624 (by decide) ?_
  refine lv_iadd hx hb dL_law_625 ?_
  obtain ⟨g1, h⟩ := gw_gdE h
  refine va_sld hx hb hX hbl hbA hI.2.2 g1 dL_law_626 ?_
  refine lv_aload_n hx hb dL_law_627 rfl (lv_at hl 0 rfl) ?_
  refine lv_iload_n hx hb dL_law_628 rfl (lv_at hl 3 rfl) ?_
  refine lv_iconst (v := 2) hx hb dL_law_629 (by decide) ?_
  refine lv_iadd hx hb dL_law_630 ?_
  obtain ⟨g2, h⟩ := gw_gdE h
  refine va_sld hx hb hX hbl hbA hI.2.2 g2 dL_law_631 ?_
  refine lv_aload_n hx hb dL_law_632 rfl (lv_at hl 0 rfl) ?_
  refine lv_iload_n hx hb dL_law_633 rfl (lv_at hl 3 rfl) ?_
  refine lv_iconst (v := 3) hx hb dL_law_634 (by decide) ?_
  refine lv_iadd hx hb dL_law_635 ?_
  obtain ⟨g3, h⟩ := gw_gdE h
  refine va_sld hx hb hX hbl hbA hI.2.2 g3 dL_law_636 ?_
  refine lv_aload_n hx hb dL_law_637 rfl (lv_at hl 0 rfl) ?_
  refine lv_iload_n hx hb dL_law_638 rfl (lv_at hl 3 rfl) ?_
  refine lv_iconst (v := 4) hx hb dL_law_639 (by decide) ?_
  refine lv_iadd hx hb dL_law_640 ?_
  obtain ⟨g4, h⟩ := gw_gdE h
  refine va_sld hx hb hX hbl hbA hI.2.2 g4 dL_law_641 ?_
  obtain ⟨r5, S7, e6, h⟩ := gw_b2E h
  refine gw_callVF (w := gw_mw cc am M) (wc := gw_cw cc a b d S) (As := [.int (xs (i + (1 : Int32)).toNatClampNeg), .int (xs (i + (2 : Int32)).toNatClampNeg), .int (xs (i + (3 : Int32)).toNatClampNeg), .int (xs (i + (4 : Int32)).toNatClampNeg)]) (n := 4) B hI (k_X8_same (xs (i + (1 : Int32)).toNatClampNeg) (xs (i + (2 : Int32)).toNatClampNeg) (xs (i + (3 : Int32)).toNatClampNeg) (xs (i + (4 : Int32)).toNatClampNeg) S e6) gL_law_X8_same rfl rfl rfl ndl_X8_same ⟨Nat.le_of_ble_eq_true rfl, Nat.le_of_ble_eq_true rfl⟩ gc_g0 rfl rfl rfl hl.1 (Nat.le_of_ble_eq_true rfl) dL_law_642 ⟨by show cl + 0 + 0 ≤ 600000; omega, by show sl + 0 + 0 ≤ 7302250; omega⟩ rfl (fun w' H locs hw hI => ?_)
  subst hw
  refine lv_pop hx hb dL_law_645 rfl ?_
  refine lv_aload_n hx hb dL_law_646 rfl (lv_at hl 2 rfl) ?_
  refine lv_aload_n hx hb dL_law_647 rfl (lv_at hl 0 rfl) ?_
  refine lv_iload_n hx hb dL_law_648 rfl (lv_at hl 3 rfl) ?_
  refine lv_iconst (v := 1) hx hb dL_law_649 (by decide) ?_
  refine lv_iadd hx hb dL_law_650 ?_
  refine va_sld hx hb hX hbl hbA hI.2.2 g1 dL_law_651 ?_
  refine lv_aload_n hx hb dL_law_652 rfl (lv_at hl 0 rfl) ?_
  refine lv_iload_n hx hb dL_law_653 rfl (lv_at hl 3 rfl) ?_
  refine lv_iconst (v := 2) hx hb dL_law_654 (by decide) ?_
  refine lv_iadd hx hb dL_law_655 ?_
  refine va_sld hx hb hX hbl hbA hI.2.2 g2 dL_law_656 ?_
  refine lv_aload_n hx hb dL_law_657 rfl (lv_at hl 0 rfl) ?_
  refine lv_iload_n hx hb dL_law_658 rfl (lv_at hl 3 rfl) ?_
  refine lv_iconst (v := 3) hx hb dL_law_659 (by decide) ?_
  refine lv_iadd hx hb dL_law_660 ?_
  refine va_sld hx hb hX hbl hbA hI.2.2 g3 dL_law_661 ?_
  refine lv_aload_n hx hb dL_law_662 rfl (lv_at hl 0 rfl) ?_
  refine lv_iload_n hx hb dL_law_663 rfl (lv_at hl 3 rfl) ?_
  refine lv_iconst (v := 4) hx hb dL_law_664 (by decide) ?_
  refine lv_iadd hx hb dL_law_665 ?_
  refine va_sld hx hb hX hbl hbA hI.2.2 g4 dL_law_666 ?_
  obtain ⟨r8, M10, e9, h⟩ := gw_b2E h
  have hI := gw_perm List.perm_append_comm hI
  refine gw_callVF (w := gw_cw cc a b d S7) (wc := gw_mw cc am M) (As := [.int (xs (i + (1 : Int32)).toNatClampNeg), .int (xs (i + (2 : Int32)).toNatClampNeg), .int (xs (i + (3 : Int32)).toNatClampNeg), .int (xs (i + (4 : Int32)).toNatClampNeg)]) (n := 4) B hI (k_X9_same (xs (i + (1 : Int32)).toNatClampNeg) (xs (i + (2 : Int32)).toNatClampNeg) (xs (i + (3 : Int32)).toNatClampNeg) (xs (i + (4 : Int32)).toNatClampNeg) M e9) gL_law_X9_same rfl rfl rfl ndl_X9_same ⟨Nat.le_of_ble_eq_true rfl, Nat.le_of_ble_eq_true rfl⟩ gm_g0 rfl rfl rfl hl.1 (Nat.le_of_ble_eq_true rfl) dL_law_667 ⟨by show cl + 0 + 0 ≤ 600000; omega, by show sl + 0 + 0 ≤ 7302250; omega⟩ rfl (fun w' H locs hw hI => ?_)
  subst hw
  have hI := gw_perm List.perm_append_comm hI
  refine lv_pop hx hb dL_law_670 rfl ?_
  refine lv_goto (tgt := 1551) hx hb dL_law_671 (by decide) ?_
  refine W.widen (k := cl + 7) (n := sl + 98) (by omega) (by omega) ?_
  exact hK S7 M10 h b d _ _ ls hI hl
set_option maxRecDepth 100000 in
set_option maxHeartbeats 4000000 in
theorem k_law_c10 {p : Program} {l : Launch} {e : Env} {s : State} {m : MethodId} {below : List Frame} {meth : Method} {c : Code} {D : va_G} {cc : Nat → ClassId} {t1 t2 b0 L : Nat} {A : Nat → Prop} {a am : Nat → Nat} {xs : Nat → Int32} (hX : va_X b0 L xs s s.heap) (hbl : b0 < s.heap.size) (hbA : ¬ A b0) (B : gw_B p s m #[Value.ref b0] meth c cL_law 4 wsL_law RL ret D (gw_ty cc) t1 t2 A) {i : Int32} {cl sl : Nat} (h1 : cl + 7 ≤ 600000) (h2 : sl + 98 ≤ 7302250) {K : gw_S → gw_S → Option Int32} (hK : ∀ (S M : gw_S), K S M = some 1 → ∀ (b d : Nat → Nat) (H : Heap) (locs : List Loc) (ls : Array Slot), gw_I D A s.heap (gw_mw cc am M ++ gw_cw cc a b d S) H locs → lv_has ls 4 [(0, .ref b0), (1, .ref (a 0)), (2, .ref (am 0)), (3, .int i)] → W p l e room_1 s m #[Value.ref b0] below meth c H locs (cl + 7) (sl + 98) (lw_Z below #[Value.ref b0] s) (F0 m 1551 ls [])) (S M : gw_S) (h : f_law_c10 xs L i K S M = some 1) (b d : Nat → Nat) (H : Heap) (locs : List Loc) (ls : Array Slot) (hI : gw_I D A s.heap (gw_mw cc am M ++ gw_cw cc a b d S) H locs) (hl : lv_has ls 4 [(0, .ref b0), (1, .ref (a 0)), (2, .ref (am 0)), (3, .int i)]) : W p l e room_1 s m #[Value.ref b0] below meth c H locs cl sl (lw_Z below #[Value.ref b0] s) (F0 m 674 ls []) := by
  have hx := B.1.1
  have hb := B.1.2.1
  have hown : s.vm.findClass RL = some m.cls := B.1.2.2.2.1
  have hts := B.1.2.2.2.2
  unfold f_law_c10 at h
  refine lv_aload_n hx hb dL_law_674 rfl (lv_at hl 1 rfl) ?_
  refine lv_aload_n hx hb dL_law_675 rfl (lv_at hl 0 rfl) ?_
  refine lv_iload_n hx hb dL_law_676 rfl (lv_at hl 3 rfl) ?_
  refine lv_iconst (v := 1) hx hb dL_law_677 (by decide) ?_
  refine lv_iadd hx hb dL_law_678 ?_
  obtain ⟨g1, h⟩ := gw_gdE h
  refine va_sld hx hb hX hbl hbA hI.2.2 g1 dL_law_679 ?_
  refine lv_aload_n hx hb dL_law_680 rfl (lv_at hl 0 rfl) ?_
  refine lv_iload_n hx hb dL_law_681 rfl (lv_at hl 3 rfl) ?_
  refine lv_iconst (v := 2) hx hb dL_law_682 (by decide) ?_
  refine lv_iadd hx hb dL_law_683 ?_
  obtain ⟨g2, h⟩ := gw_gdE h
  refine va_sld hx hb hX hbl hbA hI.2.2 g2 dL_law_684 ?_
  obtain ⟨r3, e4, h⟩ := gw_bdE h
  refine gw_callVF (w := gw_mw cc am M) (wc := gw_cw cc a b d S) (As := [.int (xs (i + (1 : Int32)).toNatClampNeg), .int (xs (i + (2 : Int32)).toNatClampNeg)]) (n := 2) B hI (k_X8_lie (xs (i + (1 : Int32)).toNatClampNeg) (xs (i + (2 : Int32)).toNatClampNeg) S e4) gL_law_X8_lie rfl rfl rfl ndl_X8_lie ⟨Nat.le_of_ble_eq_true rfl, Nat.le_of_ble_eq_true rfl⟩ gc_g0 rfl rfl rfl hl.1 (Nat.le_of_ble_eq_true rfl) dL_law_685 ⟨by show cl + 0 + 0 ≤ 600000; omega, by show sl + 0 + 0 ≤ 7302250; omega⟩ rfl (fun w' H locs hw hI => ?_)
  subst hw
  refine lv_pop hx hb dL_law_688 rfl ?_
  refine lv_aload_n hx hb dL_law_689 rfl (lv_at hl 2 rfl) ?_
  refine lv_aload_n hx hb dL_law_690 rfl (lv_at hl 0 rfl) ?_
  refine lv_iload_n hx hb dL_law_691 rfl (lv_at hl 3 rfl) ?_
  refine lv_iconst (v := 1) hx hb dL_law_692 (by decide) ?_
  refine lv_iadd hx hb dL_law_693 ?_
  refine va_sld hx hb hX hbl hbA hI.2.2 g1 dL_law_694 ?_
  refine lv_aload_n hx hb dL_law_695 rfl (lv_at hl 0 rfl) ?_
  refine lv_iload_n hx hb dL_law_696 rfl (lv_at hl 3 rfl) ?_
  refine lv_iconst (v := 2) hx hb dL_law_697 (by decide) ?_
  refine lv_iadd hx hb dL_law_698 ?_
  refine va_sld hx hb hX hbl hbA hI.2.2 g2 dL_law_699 ?_
  obtain ⟨r5, M7, e6, h⟩ := gw_b2E h
  have hI := gw_perm List.perm_append_comm hI
  refine gw_callVF (w := gw_cw cc a b d S) (wc := gw_mw cc am M) (As := [.int (xs (i + (1 : Int32)).toNatClampNeg), .int (xs (i + (2 : Int32)).toNatClampNeg)]) (n := 2) B hI (k_X9_lie (xs (i + (1 : Int32)).toNatClampNeg) (xs (i + (2 : Int32)).toNatClampNeg) M e6) gL_law_X9_lie rfl rfl rfl ndl_X9_lie ⟨Nat.le_of_ble_eq_true rfl, Nat.le_of_ble_eq_true rfl⟩ gm_g0 rfl rfl rfl hl.1 (Nat.le_of_ble_eq_true rfl) dL_law_700 ⟨by show cl + 0 + 0 ≤ 600000; omega, by show sl + 0 + 0 ≤ 7302250; omega⟩ rfl (fun w' H locs hw hI => ?_)
  subst hw
  have hI := gw_perm List.perm_append_comm hI
  refine lv_pop hx hb dL_law_703 rfl ?_
  refine lv_goto (tgt := 1551) hx hb dL_law_704 (by decide) ?_
  refine W.widen (k := cl + 7) (n := sl + 98) (by omega) (by omega) ?_
  exact hK S M7 h b d _ _ ls hI hl
set_option maxRecDepth 100000 in
set_option maxHeartbeats 4000000 in
theorem k_law_c11 {p : Program} {l : Launch} {e : Env} {s : State} {m : MethodId} {below : List Frame} {meth : Method} {c : Code} {D : va_G} {cc : Nat → ClassId} {t1 t2 b0 L : Nat} {A : Nat → Prop} {a am : Nat → Nat} {xs : Nat → Int32} (hX : va_X b0 L xs s s.heap) (hbl : b0 < s.heap.size) (hbA : ¬ A b0) (B : gw_B p s m #[Value.ref b0] meth c cL_law 4 wsL_law RL ret D (gw_ty cc) t1 t2 A) {i : Int32} {cl sl : Nat} (h1 : cl + 7 ≤ 600000) (h2 : sl + 98 ≤ 7302250) {K : gw_S → gw_S → Option Int32} (hK : ∀ (S M : gw_S), K S M = some 1 → ∀ (b d : Nat → Nat) (H : Heap) (locs : List Loc) (ls : Array Slot), gw_I D A s.heap (gw_mw cc am M ++ gw_cw cc a b d S) H locs → lv_has ls 4 [(0, .ref b0), (1, .ref (a 0)), (2, .ref (am 0)), (3, .int i)] → W p l e room_1 s m #[Value.ref b0] below meth c H locs (cl + 7) (sl + 98) (lw_Z below #[Value.ref b0] s) (F0 m 1551 ls [])) (S M : gw_S) (h : f_law_c11 xs L i K S M = some 1) (b d : Nat → Nat) (H : Heap) (locs : List Loc) (ls : Array Slot) (hI : gw_I D A s.heap (gw_mw cc am M ++ gw_cw cc a b d S) H locs) (hl : lv_has ls 4 [(0, .ref b0), (1, .ref (a 0)), (2, .ref (am 0)), (3, .int i)]) : W p l e room_1 s m #[Value.ref b0] below meth c H locs cl sl (lw_Z below #[Value.ref b0] s) (F0 m 707 ls []) := by
  have hx := B.1.1
  have hb := B.1.2.1
  have hown : s.vm.findClass RL = some m.cls := B.1.2.2.2.1
  have hts := B.1.2.2.2.2
  unfold f_law_c11 at h
  refine lv_aload_n hx hb dL_law_707 rfl (lv_at hl 1 rfl) ?_
  obtain ⟨r1, e2, h⟩ := gw_bdE h
  refine gw_callVF (w := gw_mw cc am M) (wc := gw_cw cc a b d S) (As := []) (n := 0) B hI (k_X8_quarrel  S e2) gL_law_X8_quarrel rfl rfl rfl ndl_X8_quarrel ⟨Nat.le_of_ble_eq_true rfl, Nat.le_of_ble_eq_true rfl⟩ gc_g0 rfl rfl rfl hl.1 (Nat.le_of_ble_eq_true rfl) dL_law_708 ⟨by show cl + 0 + 0 ≤ 600000; omega, by show sl + 0 + 0 ≤ 7302250; omega⟩ rfl (fun w' H locs hw hI => ?_)
  subst hw
  refine lv_pop hx hb dL_law_711 rfl ?_
  refine lv_aload_n hx hb dL_law_712 rfl (lv_at hl 2 rfl) ?_
  obtain ⟨r3, M5, e4, h⟩ := gw_b2E h
  have hI := gw_perm List.perm_append_comm hI
  refine gw_callVF (w := gw_cw cc a b d S) (wc := gw_mw cc am M) (As := []) (n := 0) B hI (k_X9_quarrel  M e4) gL_law_X9_quarrel rfl rfl rfl ndl_X9_quarrel ⟨Nat.le_of_ble_eq_true rfl, Nat.le_of_ble_eq_true rfl⟩ gm_g0 rfl rfl rfl hl.1 (Nat.le_of_ble_eq_true rfl) dL_law_713 ⟨by show cl + 0 + 0 ≤ 600000; omega, by show sl + 0 + 0 ≤ 7302250; omega⟩ rfl (fun w' H locs hw hI => ?_)
  subst hw
  have hI := gw_perm List.perm_append_comm hI
  refine lv_pop hx hb dL_law_716 rfl ?_
  refine lv_goto (tgt := 1551) hx hb dL_law_717 (by decide) ?_
  refine W.widen (k := cl + 7) (n := sl + 98) (by omega) (by omega) ?_
  exact hK S M5 h b d _ _ ls hI hl
set_option maxRecDepth 100000 in
set_option maxHeartbeats 4000000 in
theorem k_law_c12 {p : Program} {l : Launch} {e : Env} {s : State} {m : MethodId} {below : List Frame} {meth : Method} {c : Code} {D : va_G} {cc : Nat → ClassId} {t1 t2 b0 L : Nat} {A : Nat → Prop} {a am : Nat → Nat} {xs : Nat → Int32} (hX : va_X b0 L xs s s.heap) (hbl : b0 < s.heap.size) (hbA : ¬ A b0) (B : gw_B p s m #[Value.ref b0] meth c cL_law 4 wsL_law RL ret D (gw_ty cc) t1 t2 A) {i : Int32} {cl sl : Nat} (h1 : cl + 7 ≤ 600000) (h2 : sl + 98 ≤ 7302250) {K : gw_S → gw_S → Option Int32} (hK : ∀ (S M : gw_S), K S M = some 1 → ∀ (b d : Nat → Nat) (H : Heap) (locs : List Loc) (ls : Array Slot), gw_I D A s.heap (gw_mw cc am M ++ gw_cw cc a b d S) H locs → lv_has ls 4 [(0, .ref b0), (1, .ref (a 0)), (2, .ref (am 0)), (3, .int i)] → W p l e room_1 s m #[Value.ref b0] below meth c H locs (cl + 7) (sl + 98) (lw_Z below #[Value.ref b0] s) (F0 m 1551 ls [])) (S M : gw_S) (h : f_law_c12 xs L i K S M = some 1) (b d : Nat → Nat) (H : Heap) (locs : List Loc) (ls : Array Slot) (hI : gw_I D A s.heap (gw_mw cc am M ++ gw_cw cc a b d S) H locs) (hl : lv_has ls 4 [(0, .ref b0), (1, .ref (a 0)), (2, .ref (am 0)), (3, .int i)]) : W p l e room_1 s m #[Value.ref b0] below meth c H locs cl sl (lw_Z below #[Value.ref b0] s) (F0 m 720 ls []) := by
  have hx := B.1.1
  have hb := B.1.2.1
  have hown : s.vm.findClass RL = some m.cls := B.1.2.2.2.1
  have hts := B.1.2.2.2.2
  unfold f_law_c12 at h
  refine lv_aload_n hx hb dL_law_720 rfl (lv_at hl 1 rfl) ?_
  refine lv_aload_n hx hb dL_law_721 rfl (lv_at hl 0 rfl) ?_
  refine lv_iload_n hx hb dL_law_722 rfl (lv_at hl 3 rfl) ?_
  refine lv_iconst (v := 1) hx hb dL_law_723 (by decide) ?_
  refine lv_iadd hx hb dL_law_724 ?_
  obtain ⟨g1, h⟩ := gw_gdE h
  refine va_sld hx hb hX hbl hbA hI.2.2 g1 dL_law_725 ?_
  refine lv_aload_n hx hb dL_law_726 rfl (lv_at hl 0 rfl) ?_
  refine lv_iload_n hx hb dL_law_727 rfl (lv_at hl 3 rfl) ?_
  refine lv_iconst (v := 2) hx hb dL_law_728 (by decide) ?_
  refine lv_iadd hx hb dL_law_729 ?_
  obtain ⟨g2, h⟩ := gw_gdE h
  refine va_sld hx hb hX hbl hbA hI.2.2 g2 dL_law_730 ?_
  refine lv_aload_n hx hb dL_law_731 rfl (lv_at hl 0 rfl) ?_
  refine lv_iload_n hx hb dL_law_732 rfl (lv_at hl 3 rfl) ?_
  refine lv_iconst (v := 3) hx hb dL_law_733 (by decide) ?_
  refine lv_iadd hx hb dL_law_734 ?_
  obtain ⟨g3, h⟩ := gw_gdE h
  refine va_sld hx hb hX hbl hbA hI.2.2 g3 dL_law_735 ?_
  obtain ⟨r4, e5, h⟩ := gw_bdE h
  refine gw_callVF (w := gw_mw cc am M) (wc := gw_cw cc a b d S) (As := [.int (xs (i + (1 : Int32)).toNatClampNeg), .int (xs (i + (2 : Int32)).toNatClampNeg), .int (xs (i + (3 : Int32)).toNatClampNeg)]) (n := 3) B hI (k_X8_fits (xs (i + (1 : Int32)).toNatClampNeg) (xs (i + (2 : Int32)).toNatClampNeg) (xs (i + (3 : Int32)).toNatClampNeg) S e5) gL_law_X8_fits rfl rfl rfl ndl_X8_fits ⟨Nat.le_of_ble_eq_true rfl, Nat.le_of_ble_eq_true rfl⟩ gc_g0 rfl rfl rfl hl.1 (Nat.le_of_ble_eq_true rfl) dL_law_736 ⟨by show cl + 0 + 0 ≤ 600000; omega, by show sl + 0 + 0 ≤ 7302250; omega⟩ rfl (fun w' H locs hw hI => ?_)
  subst hw
  refine lv_pop hx hb dL_law_739 rfl ?_
  refine lv_aload_n hx hb dL_law_740 rfl (lv_at hl 2 rfl) ?_
  refine lv_aload_n hx hb dL_law_741 rfl (lv_at hl 0 rfl) ?_
  refine lv_iload_n hx hb dL_law_742 rfl (lv_at hl 3 rfl) ?_
  refine lv_iconst (v := 1) hx hb dL_law_743 (by decide) ?_
  refine lv_iadd hx hb dL_law_744 ?_
  refine va_sld hx hb hX hbl hbA hI.2.2 g1 dL_law_745 ?_
  refine lv_aload_n hx hb dL_law_746 rfl (lv_at hl 0 rfl) ?_
  refine lv_iload_n hx hb dL_law_747 rfl (lv_at hl 3 rfl) ?_
  refine lv_iconst (v := 2) hx hb dL_law_748 (by decide) ?_
  refine lv_iadd hx hb dL_law_749 ?_
  refine va_sld hx hb hX hbl hbA hI.2.2 g2 dL_law_750 ?_
  refine lv_aload_n hx hb dL_law_751 rfl (lv_at hl 0 rfl) ?_
  refine lv_iload_n hx hb dL_law_752 rfl (lv_at hl 3 rfl) ?_
  refine lv_iconst (v := 3) hx hb dL_law_753 (by decide) ?_
  refine lv_iadd hx hb dL_law_754 ?_
  refine va_sld hx hb hX hbl hbA hI.2.2 g3 dL_law_755 ?_
  obtain ⟨r6, M8, e7, h⟩ := gw_b2E h
  have hI := gw_perm List.perm_append_comm hI
  refine gw_callVF (w := gw_cw cc a b d S) (wc := gw_mw cc am M) (As := [.int (xs (i + (1 : Int32)).toNatClampNeg), .int (xs (i + (2 : Int32)).toNatClampNeg), .int (xs (i + (3 : Int32)).toNatClampNeg)]) (n := 3) B hI (k_X9_fits (xs (i + (1 : Int32)).toNatClampNeg) (xs (i + (2 : Int32)).toNatClampNeg) (xs (i + (3 : Int32)).toNatClampNeg) M e7) gL_law_X9_fits rfl rfl rfl ndl_X9_fits ⟨Nat.le_of_ble_eq_true rfl, Nat.le_of_ble_eq_true rfl⟩ gm_g0 rfl rfl rfl hl.1 (Nat.le_of_ble_eq_true rfl) dL_law_756 ⟨by show cl + 0 + 0 ≤ 600000; omega, by show sl + 0 + 0 ≤ 7302250; omega⟩ rfl (fun w' H locs hw hI => ?_)
  subst hw
  have hI := gw_perm List.perm_append_comm hI
  refine lv_pop hx hb dL_law_759 rfl ?_
  refine lv_goto (tgt := 1551) hx hb dL_law_760 (by decide) ?_
  refine W.widen (k := cl + 7) (n := sl + 98) (by omega) (by omega) ?_
  exact hK S M8 h b d _ _ ls hI hl
set_option maxRecDepth 100000 in
set_option maxHeartbeats 4000000 in
theorem k_law_c13 {p : Program} {l : Launch} {e : Env} {s : State} {m : MethodId} {below : List Frame} {meth : Method} {c : Code} {D : va_G} {cc : Nat → ClassId} {t1 t2 b0 L : Nat} {A : Nat → Prop} {a am : Nat → Nat} {xs : Nat → Int32} (hX : va_X b0 L xs s s.heap) (hbl : b0 < s.heap.size) (hbA : ¬ A b0) (B : gw_B p s m #[Value.ref b0] meth c cL_law 4 wsL_law RL ret D (gw_ty cc) t1 t2 A) {i : Int32} {cl sl : Nat} (h1 : cl + 7 ≤ 600000) (h2 : sl + 98 ≤ 7302250) {K : gw_S → gw_S → Option Int32} (hK : ∀ (S M : gw_S), K S M = some 1 → ∀ (b d : Nat → Nat) (H : Heap) (locs : List Loc) (ls : Array Slot), gw_I D A s.heap (gw_mw cc am M ++ gw_cw cc a b d S) H locs → lv_has ls 4 [(0, .ref b0), (1, .ref (a 0)), (2, .ref (am 0)), (3, .int i)] → W p l e room_1 s m #[Value.ref b0] below meth c H locs (cl + 7) (sl + 98) (lw_Z below #[Value.ref b0] s) (F0 m 1551 ls [])) (S M : gw_S) (h : f_law_c13 xs L i K S M = some 1) (b d : Nat → Nat) (H : Heap) (locs : List Loc) (ls : Array Slot) (hI : gw_I D A s.heap (gw_mw cc am M ++ gw_cw cc a b d S) H locs) (hl : lv_has ls 4 [(0, .ref b0), (1, .ref (a 0)), (2, .ref (am 0)), (3, .int i)]) : W p l e room_1 s m #[Value.ref b0] below meth c H locs cl sl (lw_Z below #[Value.ref b0] s) (F0 m 763 ls []) := by
  have hx := B.1.1
  have hb := B.1.2.1
  have hown : s.vm.findClass RL = some m.cls := B.1.2.2.2.1
  have hts := B.1.2.2.2.2
  unfold f_law_c13 at h
  refine lv_aload_n hx hb dL_law_763 rfl (lv_at hl 1 rfl) ?_
  refine lv_aload_n hx hb dL_law_764 rfl (lv_at hl 0 rfl) ?_
  refine lv_iload_n hx hb dL_law_765 rfl (lv_at hl 3 rfl) ?_
  refine lv_iconst (v := 1) hx hb dL_law_766 (by decide) ?_
  refine lv_iadd hx hb dL_law_767 ?_
  obtain ⟨g1, h⟩ := gw_gdE h
  refine va_sld hx hb hX hbl hbA hI.2.2 g1 dL_law_768 ?_
  refine lv_aload_n hx hb dL_law_769 rfl (lv_at hl 0 rfl) ?_
  refine lv_iload_n hx hb dL_law_770 rfl (lv_at hl 3 rfl) ?_
  refine lv_iconst (v := 2) hx hb dL_law_771 (by decide) ?_
  refine lv_iadd hx hb dL_law_772 ?_
  obtain ⟨g2, h⟩ := gw_gdE h
  refine va_sld hx hb hX hbl hbA hI.2.2 g2 dL_law_773 ?_
  refine lv_aload_n hx hb dL_law_774 rfl (lv_at hl 0 rfl) ?_
  refine lv_iload_n hx hb dL_law_775 rfl (lv_at hl 3 rfl) ?_
  refine lv_iconst (v := 3) hx hb dL_law_776 (by decide) ?_
  refine lv_iadd hx hb dL_law_777 ?_
  obtain ⟨g3, h⟩ := gw_gdE h
  refine va_sld hx hb hX hbl hbA hI.2.2 g3 dL_law_778 ?_
  refine lv_aload_n hx hb dL_law_779 rfl (lv_at hl 0 rfl) ?_
  refine lv_iload_n hx hb dL_law_780 rfl (lv_at hl 3 rfl) ?_
  refine lv_iconst (v := 4) hx hb dL_law_781 (by decide) ?_
  refine lv_iadd hx hb dL_law_782 ?_
  obtain ⟨g4, h⟩ := gw_gdE h
  refine va_sld hx hb hX hbl hbA hI.2.2 g4 dL_law_783 ?_
  refine lv_aload_n hx hb dL_law_784 rfl (lv_at hl 0 rfl) ?_
  refine lv_iload_n hx hb dL_law_785 rfl (lv_at hl 3 rfl) ?_
  refine lv_iconst (v := 5) hx hb dL_law_786 (by decide) ?_
  refine lv_iadd hx hb dL_law_787 ?_
  obtain ⟨g5, h⟩ := gw_gdE h
  refine va_sld hx hb hX hbl hbA hI.2.2 g5 dL_law_788 ?_
  refine lv_aload_n hx hb dL_law_789 rfl (lv_at hl 0 rfl) ?_
  refine lv_iload_n hx hb dL_law_790 rfl (lv_at hl 3 rfl) ?_
  refine lv_bipush (v := 6) hx hb dL_law_791 (by decide) ?_
  refine lv_iadd hx hb dL_law_793 ?_
  obtain ⟨g6, h⟩ := gw_gdE h
  refine va_sld hx hb hX hbl hbA hI.2.2 g6 dL_law_794 ?_
  obtain ⟨r7, S9, e8, h⟩ := gw_b2E h
  refine gw_callVF (w := gw_mw cc am M) (wc := gw_cw cc a b d S) (As := [.int (xs (i + (1 : Int32)).toNatClampNeg), .int (xs (i + (2 : Int32)).toNatClampNeg), .int (xs (i + (3 : Int32)).toNatClampNeg), .int (xs (i + (4 : Int32)).toNatClampNeg), .int (xs (i + (5 : Int32)).toNatClampNeg), .int (xs (i + (6 : Int32)).toNatClampNeg)]) (n := 6) B hI (k_X8_book (xs (i + (1 : Int32)).toNatClampNeg) (xs (i + (2 : Int32)).toNatClampNeg) (xs (i + (3 : Int32)).toNatClampNeg) (xs (i + (4 : Int32)).toNatClampNeg) (xs (i + (5 : Int32)).toNatClampNeg) (xs (i + (6 : Int32)).toNatClampNeg) S e8) gL_law_X8_book rfl rfl rfl ndl_X8_book ⟨Nat.le_of_ble_eq_true rfl, Nat.le_of_ble_eq_true rfl⟩ gc_g0 rfl rfl rfl hl.1 (Nat.le_of_ble_eq_true rfl) dL_law_795 ⟨by show cl + 0 + 1 ≤ 600000; omega, by show sl + 0 + 14 ≤ 7302250; omega⟩ rfl (fun w' H locs hw hI => ?_)
  obtain ⟨b10, d11, rfl⟩ := hw
  refine lv_pop hx hb dL_law_798 rfl ?_
  refine lv_aload_n hx hb dL_law_799 rfl (lv_at hl 2 rfl) ?_
  refine lv_aload_n hx hb dL_law_800 rfl (lv_at hl 0 rfl) ?_
  refine lv_iload_n hx hb dL_law_801 rfl (lv_at hl 3 rfl) ?_
  refine lv_iconst (v := 1) hx hb dL_law_802 (by decide) ?_
  refine lv_iadd hx hb dL_law_803 ?_
  refine va_sld hx hb hX hbl hbA hI.2.2 g1 dL_law_804 ?_
  refine lv_aload_n hx hb dL_law_805 rfl (lv_at hl 0 rfl) ?_
  refine lv_iload_n hx hb dL_law_806 rfl (lv_at hl 3 rfl) ?_
  refine lv_iconst (v := 2) hx hb dL_law_807 (by decide) ?_
  refine lv_iadd hx hb dL_law_808 ?_
  refine va_sld hx hb hX hbl hbA hI.2.2 g2 dL_law_809 ?_
  refine lv_aload_n hx hb dL_law_810 rfl (lv_at hl 0 rfl) ?_
  refine lv_iload_n hx hb dL_law_811 rfl (lv_at hl 3 rfl) ?_
  refine lv_iconst (v := 3) hx hb dL_law_812 (by decide) ?_
  refine lv_iadd hx hb dL_law_813 ?_
  refine va_sld hx hb hX hbl hbA hI.2.2 g3 dL_law_814 ?_
  refine lv_aload_n hx hb dL_law_815 rfl (lv_at hl 0 rfl) ?_
  refine lv_iload_n hx hb dL_law_816 rfl (lv_at hl 3 rfl) ?_
  refine lv_iconst (v := 4) hx hb dL_law_817 (by decide) ?_
  refine lv_iadd hx hb dL_law_818 ?_
  refine va_sld hx hb hX hbl hbA hI.2.2 g4 dL_law_819 ?_
  refine lv_aload_n hx hb dL_law_820 rfl (lv_at hl 0 rfl) ?_
  refine lv_iload_n hx hb dL_law_821 rfl (lv_at hl 3 rfl) ?_
  refine lv_iconst (v := 5) hx hb dL_law_822 (by decide) ?_
  refine lv_iadd hx hb dL_law_823 ?_
  refine va_sld hx hb hX hbl hbA hI.2.2 g5 dL_law_824 ?_
  refine lv_aload_n hx hb dL_law_825 rfl (lv_at hl 0 rfl) ?_
  refine lv_iload_n hx hb dL_law_826 rfl (lv_at hl 3 rfl) ?_
  refine lv_bipush (v := 6) hx hb dL_law_827 (by decide) ?_
  refine lv_iadd hx hb dL_law_829 ?_
  refine va_sld hx hb hX hbl hbA hI.2.2 g6 dL_law_830 ?_
  obtain ⟨r12, M14, e13, h⟩ := gw_b2E h
  have hI := gw_perm List.perm_append_comm hI
  refine gw_callVF (w := gw_cw cc a b10 d11 S9) (wc := gw_mw cc am M) (As := [.int (xs (i + (1 : Int32)).toNatClampNeg), .int (xs (i + (2 : Int32)).toNatClampNeg), .int (xs (i + (3 : Int32)).toNatClampNeg), .int (xs (i + (4 : Int32)).toNatClampNeg), .int (xs (i + (5 : Int32)).toNatClampNeg), .int (xs (i + (6 : Int32)).toNatClampNeg)]) (n := 6) B hI (k_X9_book (xs (i + (1 : Int32)).toNatClampNeg) (xs (i + (2 : Int32)).toNatClampNeg) (xs (i + (3 : Int32)).toNatClampNeg) (xs (i + (4 : Int32)).toNatClampNeg) (xs (i + (5 : Int32)).toNatClampNeg) (xs (i + (6 : Int32)).toNatClampNeg) M e13) gL_law_X9_book rfl rfl rfl ndl_X9_book ⟨Nat.le_of_ble_eq_true rfl, Nat.le_of_ble_eq_true rfl⟩ gm_g0 rfl rfl rfl hl.1 (Nat.le_of_ble_eq_true rfl) dL_law_831 ⟨by show cl + 1 + 0 ≤ 600000; omega, by show sl + 14 + 0 ≤ 7302250; omega⟩ rfl (fun w' H locs hw hI => ?_)
  subst hw
  have hI := gw_perm List.perm_append_comm hI
  refine lv_pop hx hb dL_law_834 rfl ?_
  refine lv_goto (tgt := 1551) hx hb dL_law_835 (by decide) ?_
  refine W.widen (k := cl + 7) (n := sl + 98) (by omega) (by omega) ?_
  exact hK S9 M14 h b10 d11 _ _ ls hI hl
set_option maxRecDepth 100000 in
set_option maxHeartbeats 4000000 in
theorem k_law_c14 {p : Program} {l : Launch} {e : Env} {s : State} {m : MethodId} {below : List Frame} {meth : Method} {c : Code} {D : va_G} {cc : Nat → ClassId} {t1 t2 b0 L : Nat} {A : Nat → Prop} {a am : Nat → Nat} {xs : Nat → Int32} (hX : va_X b0 L xs s s.heap) (hbl : b0 < s.heap.size) (hbA : ¬ A b0) (B : gw_B p s m #[Value.ref b0] meth c cL_law 4 wsL_law RL ret D (gw_ty cc) t1 t2 A) {i : Int32} {cl sl : Nat} (h1 : cl + 7 ≤ 600000) (h2 : sl + 98 ≤ 7302250) {K : gw_S → gw_S → Option Int32} (hK : ∀ (S M : gw_S), K S M = some 1 → ∀ (b d : Nat → Nat) (H : Heap) (locs : List Loc) (ls : Array Slot), gw_I D A s.heap (gw_mw cc am M ++ gw_cw cc a b d S) H locs → lv_has ls 4 [(0, .ref b0), (1, .ref (a 0)), (2, .ref (am 0)), (3, .int i)] → W p l e room_1 s m #[Value.ref b0] below meth c H locs (cl + 7) (sl + 98) (lw_Z below #[Value.ref b0] s) (F0 m 1551 ls [])) (S M : gw_S) (h : f_law_c14 xs L i K S M = some 1) (b d : Nat → Nat) (H : Heap) (locs : List Loc) (ls : Array Slot) (hI : gw_I D A s.heap (gw_mw cc am M ++ gw_cw cc a b d S) H locs) (hl : lv_has ls 4 [(0, .ref b0), (1, .ref (a 0)), (2, .ref (am 0)), (3, .int i)]) : W p l e room_1 s m #[Value.ref b0] below meth c H locs cl sl (lw_Z below #[Value.ref b0] s) (F0 m 838 ls []) := by
  have hx := B.1.1
  have hb := B.1.2.1
  have hown : s.vm.findClass RL = some m.cls := B.1.2.2.2.1
  have hts := B.1.2.2.2.2
  unfold f_law_c14 at h
  refine lv_aload_n hx hb dL_law_838 rfl (lv_at hl 1 rfl) ?_
  refine lv_aload_n hx hb dL_law_839 rfl (lv_at hl 0 rfl) ?_
  refine lv_iload_n hx hb dL_law_840 rfl (lv_at hl 3 rfl) ?_
  refine lv_iconst (v := 1) hx hb dL_law_841 (by decide) ?_
  refine lv_iadd hx hb dL_law_842 ?_
  obtain ⟨g1, h⟩ := gw_gdE h
  refine va_sld hx hb hX hbl hbA hI.2.2 g1 dL_law_843 ?_
  refine lv_aload_n hx hb dL_law_844 rfl (lv_at hl 0 rfl) ?_
  refine lv_iload_n hx hb dL_law_845 rfl (lv_at hl 3 rfl) ?_
  refine lv_iconst (v := 2) hx hb dL_law_846 (by decide) ?_
  refine lv_iadd hx hb dL_law_847 ?_
  obtain ⟨g2, h⟩ := gw_gdE h
  refine va_sld hx hb hX hbl hbA hI.2.2 g2 dL_law_848 ?_
  obtain ⟨r3, S5, e4, h⟩ := gw_b2E h
  refine gw_callVF (w := gw_mw cc am M) (wc := gw_cw cc a b d S) (As := [.int (xs (i + (1 : Int32)).toNatClampNeg), .int (xs (i + (2 : Int32)).toNatClampNeg)]) (n := 2) B hI (k_X8_off (xs (i + (1 : Int32)).toNatClampNeg) (xs (i + (2 : Int32)).toNatClampNeg) S e4) gL_law_X8_off rfl rfl rfl ndl_X8_off ⟨Nat.le_of_ble_eq_true rfl, Nat.le_of_ble_eq_true rfl⟩ gc_g0 rfl rfl rfl hl.1 (Nat.le_of_ble_eq_true rfl) dL_law_849 ⟨by show cl + 0 + 0 ≤ 600000; omega, by show sl + 0 + 0 ≤ 7302250; omega⟩ rfl (fun w' H locs hw hI => ?_)
  subst hw
  refine lv_pop hx hb dL_law_852 rfl ?_
  refine lv_aload_n hx hb dL_law_853 rfl (lv_at hl 2 rfl) ?_
  refine lv_aload_n hx hb dL_law_854 rfl (lv_at hl 0 rfl) ?_
  refine lv_iload_n hx hb dL_law_855 rfl (lv_at hl 3 rfl) ?_
  refine lv_iconst (v := 1) hx hb dL_law_856 (by decide) ?_
  refine lv_iadd hx hb dL_law_857 ?_
  refine va_sld hx hb hX hbl hbA hI.2.2 g1 dL_law_858 ?_
  refine lv_aload_n hx hb dL_law_859 rfl (lv_at hl 0 rfl) ?_
  refine lv_iload_n hx hb dL_law_860 rfl (lv_at hl 3 rfl) ?_
  refine lv_iconst (v := 2) hx hb dL_law_861 (by decide) ?_
  refine lv_iadd hx hb dL_law_862 ?_
  refine va_sld hx hb hX hbl hbA hI.2.2 g2 dL_law_863 ?_
  obtain ⟨r6, M8, e7, h⟩ := gw_b2E h
  have hI := gw_perm List.perm_append_comm hI
  refine gw_callVF (w := gw_cw cc a b d S5) (wc := gw_mw cc am M) (As := [.int (xs (i + (1 : Int32)).toNatClampNeg), .int (xs (i + (2 : Int32)).toNatClampNeg)]) (n := 2) B hI (k_X9_off (xs (i + (1 : Int32)).toNatClampNeg) (xs (i + (2 : Int32)).toNatClampNeg) M e7) gL_law_X9_off rfl rfl rfl ndl_X9_off ⟨Nat.le_of_ble_eq_true rfl, Nat.le_of_ble_eq_true rfl⟩ gm_g0 rfl rfl rfl hl.1 (Nat.le_of_ble_eq_true rfl) dL_law_864 ⟨by show cl + 0 + 0 ≤ 600000; omega, by show sl + 0 + 0 ≤ 7302250; omega⟩ rfl (fun w' H locs hw hI => ?_)
  subst hw
  have hI := gw_perm List.perm_append_comm hI
  refine lv_pop hx hb dL_law_867 rfl ?_
  refine lv_goto (tgt := 1551) hx hb dL_law_868 (by decide) ?_
  refine W.widen (k := cl + 7) (n := sl + 98) (by omega) (by omega) ?_
  exact hK S5 M8 h b d _ _ ls hI hl
set_option maxRecDepth 100000 in
set_option maxHeartbeats 4000000 in
theorem k_law_c15 {p : Program} {l : Launch} {e : Env} {s : State} {m : MethodId} {below : List Frame} {meth : Method} {c : Code} {D : va_G} {cc : Nat → ClassId} {t1 t2 b0 L : Nat} {A : Nat → Prop} {a am : Nat → Nat} {xs : Nat → Int32} (hX : va_X b0 L xs s s.heap) (hbl : b0 < s.heap.size) (hbA : ¬ A b0) (B : gw_B p s m #[Value.ref b0] meth c cL_law 4 wsL_law RL ret D (gw_ty cc) t1 t2 A) {i : Int32} {cl sl : Nat} (h1 : cl + 7 ≤ 600000) (h2 : sl + 98 ≤ 7302250) {K : gw_S → gw_S → Option Int32} (hK : ∀ (S M : gw_S), K S M = some 1 → ∀ (b d : Nat → Nat) (H : Heap) (locs : List Loc) (ls : Array Slot), gw_I D A s.heap (gw_mw cc am M ++ gw_cw cc a b d S) H locs → lv_has ls 4 [(0, .ref b0), (1, .ref (a 0)), (2, .ref (am 0)), (3, .int i)] → W p l e room_1 s m #[Value.ref b0] below meth c H locs (cl + 7) (sl + 98) (lw_Z below #[Value.ref b0] s) (F0 m 1551 ls [])) (S M : gw_S) (h : f_law_c15 xs L i K S M = some 1) (b d : Nat → Nat) (H : Heap) (locs : List Loc) (ls : Array Slot) (hI : gw_I D A s.heap (gw_mw cc am M ++ gw_cw cc a b d S) H locs) (hl : lv_has ls 4 [(0, .ref b0), (1, .ref (a 0)), (2, .ref (am 0)), (3, .int i)]) : W p l e room_1 s m #[Value.ref b0] below meth c H locs cl sl (lw_Z below #[Value.ref b0] s) (F0 m 871 ls []) := by
  have hx := B.1.1
  have hb := B.1.2.1
  have hown : s.vm.findClass RL = some m.cls := B.1.2.2.2.1
  have hts := B.1.2.2.2.2
  unfold f_law_c15 at h
  refine lv_aload_n hx hb dL_law_871 rfl (lv_at hl 1 rfl) ?_
  refine lv_aload_n hx hb dL_law_872 rfl (lv_at hl 0 rfl) ?_
  refine lv_iload_n hx hb dL_law_873 rfl (lv_at hl 3 rfl) ?_
  refine lv_iconst (v := 1) hx hb dL_law_874 (by decide) ?_
  refine lv_iadd hx hb dL_law_875 ?_
  obtain ⟨g1, h⟩ := gw_gdE h
  refine va_sld hx hb hX hbl hbA hI.2.2 g1 dL_law_876 ?_
  obtain ⟨r2, S4, e3, h⟩ := gw_b2E h
  refine gw_callVF (w := gw_mw cc am M) (wc := gw_cw cc a b d S) (As := [.int (xs (i + (1 : Int32)).toNatClampNeg)]) (n := 1) B hI (k_X8_give (xs (i + (1 : Int32)).toNatClampNeg) S e3) gL_law_X8_give rfl rfl rfl ndl_X8_give ⟨Nat.le_of_ble_eq_true rfl, Nat.le_of_ble_eq_true rfl⟩ gc_g0 rfl rfl rfl hl.1 (Nat.le_of_ble_eq_true rfl) dL_law_877 ⟨by show cl + 0 + 0 ≤ 600000; omega, by show sl + 0 + 0 ≤ 7302250; omega⟩ rfl (fun w' H locs hw hI => ?_)
  subst hw
  refine lv_pop hx hb dL_law_880 rfl ?_
  refine lv_aload_n hx hb dL_law_881 rfl (lv_at hl 2 rfl) ?_
  refine lv_aload_n hx hb dL_law_882 rfl (lv_at hl 0 rfl) ?_
  refine lv_iload_n hx hb dL_law_883 rfl (lv_at hl 3 rfl) ?_
  refine lv_iconst (v := 1) hx hb dL_law_884 (by decide) ?_
  refine lv_iadd hx hb dL_law_885 ?_
  refine va_sld hx hb hX hbl hbA hI.2.2 g1 dL_law_886 ?_
  obtain ⟨r5, M7, e6, h⟩ := gw_b2E h
  have hI := gw_perm List.perm_append_comm hI
  refine gw_callVF (w := gw_cw cc a b d S4) (wc := gw_mw cc am M) (As := [.int (xs (i + (1 : Int32)).toNatClampNeg)]) (n := 1) B hI (k_X9_give (xs (i + (1 : Int32)).toNatClampNeg) M e6) gL_law_X9_give rfl rfl rfl ndl_X9_give ⟨Nat.le_of_ble_eq_true rfl, Nat.le_of_ble_eq_true rfl⟩ gm_g0 rfl rfl rfl hl.1 (Nat.le_of_ble_eq_true rfl) dL_law_887 ⟨by show cl + 0 + 0 ≤ 600000; omega, by show sl + 0 + 0 ≤ 7302250; omega⟩ rfl (fun w' H locs hw hI => ?_)
  subst hw
  have hI := gw_perm List.perm_append_comm hI
  refine lv_pop hx hb dL_law_890 rfl ?_
  refine lv_goto (tgt := 1551) hx hb dL_law_891 (by decide) ?_
  refine W.widen (k := cl + 7) (n := sl + 98) (by omega) (by omega) ?_
  exact hK S4 M7 h b d _ _ ls hI hl
set_option maxRecDepth 100000 in
set_option maxHeartbeats 4000000 in
theorem k_law_c16 {p : Program} {l : Launch} {e : Env} {s : State} {m : MethodId} {below : List Frame} {meth : Method} {c : Code} {D : va_G} {cc : Nat → ClassId} {t1 t2 b0 L : Nat} {A : Nat → Prop} {a am : Nat → Nat} {xs : Nat → Int32} (hX : va_X b0 L xs s s.heap) (hbl : b0 < s.heap.size) (hbA : ¬ A b0) (B : gw_B p s m #[Value.ref b0] meth c cL_law 4 wsL_law RL ret D (gw_ty cc) t1 t2 A) {i : Int32} {cl sl : Nat} (h1 : cl + 7 ≤ 600000) (h2 : sl + 98 ≤ 7302250) {K : gw_S → gw_S → Option Int32} (hK : ∀ (S M : gw_S), K S M = some 1 → ∀ (b d : Nat → Nat) (H : Heap) (locs : List Loc) (ls : Array Slot), gw_I D A s.heap (gw_mw cc am M ++ gw_cw cc a b d S) H locs → lv_has ls 4 [(0, .ref b0), (1, .ref (a 0)), (2, .ref (am 0)), (3, .int i)] → W p l e room_1 s m #[Value.ref b0] below meth c H locs (cl + 7) (sl + 98) (lw_Z below #[Value.ref b0] s) (F0 m 1551 ls [])) (S M : gw_S) (h : f_law_c16 xs L i K S M = some 1) (b d : Nat → Nat) (H : Heap) (locs : List Loc) (ls : Array Slot) (hI : gw_I D A s.heap (gw_mw cc am M ++ gw_cw cc a b d S) H locs) (hl : lv_has ls 4 [(0, .ref b0), (1, .ref (a 0)), (2, .ref (am 0)), (3, .int i)]) : W p l e room_1 s m #[Value.ref b0] below meth c H locs cl sl (lw_Z below #[Value.ref b0] s) (F0 m 894 ls []) := by
  have hx := B.1.1
  have hb := B.1.2.1
  have hown : s.vm.findClass RL = some m.cls := B.1.2.2.2.1
  have hts := B.1.2.2.2.2
  unfold f_law_c16 at h
  refine lv_aload_n hx hb dL_law_894 rfl (lv_at hl 1 rfl) ?_
  refine lv_aload_n hx hb dL_law_895 rfl (lv_at hl 0 rfl) ?_
  refine lv_iload_n hx hb dL_law_896 rfl (lv_at hl 3 rfl) ?_
  refine lv_iconst (v := 1) hx hb dL_law_897 (by decide) ?_
  refine lv_iadd hx hb dL_law_898 ?_
  obtain ⟨g1, h⟩ := gw_gdE h
  refine va_sld hx hb hX hbl hbA hI.2.2 g1 dL_law_899 ?_
  obtain ⟨r2, e3, h⟩ := gw_bdE h
  refine gw_callVF (w := gw_mw cc am M) (wc := gw_cw cc a b d S) (As := [.int (xs (i + (1 : Int32)).toNatClampNeg)]) (n := 1) B hI (k_X8_has (xs (i + (1 : Int32)).toNatClampNeg) S e3) gL_law_X8_has rfl rfl rfl ndl_X8_has ⟨Nat.le_of_ble_eq_true rfl, Nat.le_of_ble_eq_true rfl⟩ gc_g0 rfl rfl rfl hl.1 (Nat.le_of_ble_eq_true rfl) dL_law_900 ⟨by show cl + 0 + 0 ≤ 600000; omega, by show sl + 0 + 0 ≤ 7302250; omega⟩ rfl (fun w' H locs hw hI => ?_)
  subst hw
  refine lv_pop hx hb dL_law_903 rfl ?_
  refine lv_aload_n hx hb dL_law_904 rfl (lv_at hl 2 rfl) ?_
  refine lv_aload_n hx hb dL_law_905 rfl (lv_at hl 0 rfl) ?_
  refine lv_iload_n hx hb dL_law_906 rfl (lv_at hl 3 rfl) ?_
  refine lv_iconst (v := 1) hx hb dL_law_907 (by decide) ?_
  refine lv_iadd hx hb dL_law_908 ?_
  refine va_sld hx hb hX hbl hbA hI.2.2 g1 dL_law_909 ?_
  obtain ⟨r4, e5, h⟩ := gw_bdE h
  have hI := gw_perm List.perm_append_comm hI
  refine gw_callVF (w := gw_cw cc a b d S) (wc := gw_mw cc am M) (As := [.int (xs (i + (1 : Int32)).toNatClampNeg)]) (n := 1) B hI (k_X9_has (xs (i + (1 : Int32)).toNatClampNeg) M e5) gL_law_X9_has rfl rfl rfl ndl_X9_has ⟨Nat.le_of_ble_eq_true rfl, Nat.le_of_ble_eq_true rfl⟩ gm_g0 rfl rfl rfl hl.1 (Nat.le_of_ble_eq_true rfl) dL_law_910 ⟨by show cl + 0 + 0 ≤ 600000; omega, by show sl + 0 + 0 ≤ 7302250; omega⟩ rfl (fun w' H locs hw hI => ?_)
  subst hw
  have hI := gw_perm List.perm_append_comm hI
  refine lv_pop hx hb dL_law_913 rfl ?_
  refine lv_goto (tgt := 1551) hx hb dL_law_914 (by decide) ?_
  refine W.widen (k := cl + 7) (n := sl + 98) (by omega) (by omega) ?_
  exact hK S M h b d _ _ ls hI hl
set_option maxRecDepth 100000 in
set_option maxHeartbeats 4000000 in
theorem k_law_c17 {p : Program} {l : Launch} {e : Env} {s : State} {m : MethodId} {below : List Frame} {meth : Method} {c : Code} {D : va_G} {cc : Nat → ClassId} {t1 t2 b0 L : Nat} {A : Nat → Prop} {a am : Nat → Nat} {xs : Nat → Int32} (hX : va_X b0 L xs s s.heap) (hbl : b0 < s.heap.size) (hbA : ¬ A b0) (B : gw_B p s m #[Value.ref b0] meth c cL_law 4 wsL_law RL ret D (gw_ty cc) t1 t2 A) {i : Int32} {cl sl : Nat} (h1 : cl + 7 ≤ 600000) (h2 : sl + 98 ≤ 7302250) {K : gw_S → gw_S → Option Int32} (hK : ∀ (S M : gw_S), K S M = some 1 → ∀ (b d : Nat → Nat) (H : Heap) (locs : List Loc) (ls : Array Slot), gw_I D A s.heap (gw_mw cc am M ++ gw_cw cc a b d S) H locs → lv_has ls 4 [(0, .ref b0), (1, .ref (a 0)), (2, .ref (am 0)), (3, .int i)] → W p l e room_1 s m #[Value.ref b0] below meth c H locs (cl + 7) (sl + 98) (lw_Z below #[Value.ref b0] s) (F0 m 1551 ls [])) (S M : gw_S) (h : f_law_c17 xs L i K S M = some 1) (b d : Nat → Nat) (H : Heap) (locs : List Loc) (ls : Array Slot) (hI : gw_I D A s.heap (gw_mw cc am M ++ gw_cw cc a b d S) H locs) (hl : lv_has ls 4 [(0, .ref b0), (1, .ref (a 0)), (2, .ref (am 0)), (3, .int i)]) : W p l e room_1 s m #[Value.ref b0] below meth c H locs cl sl (lw_Z below #[Value.ref b0] s) (F0 m 917 ls []) := by
  have hx := B.1.1
  have hb := B.1.2.1
  have hown : s.vm.findClass RL = some m.cls := B.1.2.2.2.1
  have hts := B.1.2.2.2.2
  unfold f_law_c17 at h
  refine lv_aload_n hx hb dL_law_917 rfl (lv_at hl 1 rfl) ?_
  refine lv_aload_n hx hb dL_law_918 rfl (lv_at hl 0 rfl) ?_
  refine lv_iload_n hx hb dL_law_919 rfl (lv_at hl 3 rfl) ?_
  refine lv_iconst (v := 1) hx hb dL_law_920 (by decide) ?_
  refine lv_iadd hx hb dL_law_921 ?_
  obtain ⟨g1, h⟩ := gw_gdE h
  refine va_sld hx hb hX hbl hbA hI.2.2 g1 dL_law_922 ?_
  refine lv_aload_n hx hb dL_law_923 rfl (lv_at hl 0 rfl) ?_
  refine lv_iload_n hx hb dL_law_924 rfl (lv_at hl 3 rfl) ?_
  refine lv_iconst (v := 2) hx hb dL_law_925 (by decide) ?_
  refine lv_iadd hx hb dL_law_926 ?_
  obtain ⟨g2, h⟩ := gw_gdE h
  refine va_sld hx hb hX hbl hbA hI.2.2 g2 dL_law_927 ?_
  obtain ⟨r3, e4, h⟩ := gw_bdE h
  refine gw_callVF (w := gw_mw cc am M) (wc := gw_cw cc a b d S) (As := [.int (xs (i + (1 : Int32)).toNatClampNeg), .int (xs (i + (2 : Int32)).toNatClampNeg)]) (n := 2) B hI (k_X8_free (xs (i + (1 : Int32)).toNatClampNeg) (xs (i + (2 : Int32)).toNatClampNeg) S e4) gL_law_X8_free rfl rfl rfl ndl_X8_free ⟨Nat.le_of_ble_eq_true rfl, Nat.le_of_ble_eq_true rfl⟩ gc_g0 rfl rfl rfl hl.1 (Nat.le_of_ble_eq_true rfl) dL_law_928 ⟨by show cl + 0 + 0 ≤ 600000; omega, by show sl + 0 + 0 ≤ 7302250; omega⟩ rfl (fun w' H locs hw hI => ?_)
  subst hw
  refine lv_pop hx hb dL_law_931 rfl ?_
  refine lv_aload_n hx hb dL_law_932 rfl (lv_at hl 2 rfl) ?_
  refine lv_aload_n hx hb dL_law_933 rfl (lv_at hl 0 rfl) ?_
  refine lv_iload_n hx hb dL_law_934 rfl (lv_at hl 3 rfl) ?_
  refine lv_iconst (v := 1) hx hb dL_law_935 (by decide) ?_
  refine lv_iadd hx hb dL_law_936 ?_
  refine va_sld hx hb hX hbl hbA hI.2.2 g1 dL_law_937 ?_
  refine lv_aload_n hx hb dL_law_938 rfl (lv_at hl 0 rfl) ?_
  refine lv_iload_n hx hb dL_law_939 rfl (lv_at hl 3 rfl) ?_
  refine lv_iconst (v := 2) hx hb dL_law_940 (by decide) ?_
  refine lv_iadd hx hb dL_law_941 ?_
  refine va_sld hx hb hX hbl hbA hI.2.2 g2 dL_law_942 ?_
  obtain ⟨r5, e6, h⟩ := gw_bdE h
  have hI := gw_perm List.perm_append_comm hI
  refine gw_callVF (w := gw_cw cc a b d S) (wc := gw_mw cc am M) (As := [.int (xs (i + (1 : Int32)).toNatClampNeg), .int (xs (i + (2 : Int32)).toNatClampNeg)]) (n := 2) B hI (k_X9_free (xs (i + (1 : Int32)).toNatClampNeg) (xs (i + (2 : Int32)).toNatClampNeg) M e6) gL_law_X9_free rfl rfl rfl ndl_X9_free ⟨Nat.le_of_ble_eq_true rfl, Nat.le_of_ble_eq_true rfl⟩ gm_g0 rfl rfl rfl hl.1 (Nat.le_of_ble_eq_true rfl) dL_law_943 ⟨by show cl + 0 + 0 ≤ 600000; omega, by show sl + 0 + 0 ≤ 7302250; omega⟩ rfl (fun w' H locs hw hI => ?_)
  subst hw
  have hI := gw_perm List.perm_append_comm hI
  refine lv_pop hx hb dL_law_946 rfl ?_
  refine lv_goto (tgt := 1551) hx hb dL_law_947 (by decide) ?_
  refine W.widen (k := cl + 7) (n := sl + 98) (by omega) (by omega) ?_
  exact hK S M h b d _ _ ls hI hl
set_option maxRecDepth 100000 in
set_option maxHeartbeats 4000000 in
theorem k_law_c18 {p : Program} {l : Launch} {e : Env} {s : State} {m : MethodId} {below : List Frame} {meth : Method} {c : Code} {D : va_G} {cc : Nat → ClassId} {t1 t2 b0 L : Nat} {A : Nat → Prop} {a am : Nat → Nat} {xs : Nat → Int32} (hX : va_X b0 L xs s s.heap) (hbl : b0 < s.heap.size) (hbA : ¬ A b0) (B : gw_B p s m #[Value.ref b0] meth c cL_law 4 wsL_law RL ret D (gw_ty cc) t1 t2 A) {i : Int32} {cl sl : Nat} (h1 : cl + 7 ≤ 600000) (h2 : sl + 98 ≤ 7302250) {K : gw_S → gw_S → Option Int32} (hK : ∀ (S M : gw_S), K S M = some 1 → ∀ (b d : Nat → Nat) (H : Heap) (locs : List Loc) (ls : Array Slot), gw_I D A s.heap (gw_mw cc am M ++ gw_cw cc a b d S) H locs → lv_has ls 4 [(0, .ref b0), (1, .ref (a 0)), (2, .ref (am 0)), (3, .int i)] → W p l e room_1 s m #[Value.ref b0] below meth c H locs (cl + 7) (sl + 98) (lw_Z below #[Value.ref b0] s) (F0 m 1551 ls [])) (S M : gw_S) (h : f_law_c18 xs L i K S M = some 1) (b d : Nat → Nat) (H : Heap) (locs : List Loc) (ls : Array Slot) (hI : gw_I D A s.heap (gw_mw cc am M ++ gw_cw cc a b d S) H locs) (hl : lv_has ls 4 [(0, .ref b0), (1, .ref (a 0)), (2, .ref (am 0)), (3, .int i)]) : W p l e room_1 s m #[Value.ref b0] below meth c H locs cl sl (lw_Z below #[Value.ref b0] s) (F0 m 950 ls []) := by
  have hx := B.1.1
  have hb := B.1.2.1
  have hown : s.vm.findClass RL = some m.cls := B.1.2.2.2.1
  have hts := B.1.2.2.2.2
  unfold f_law_c18 at h
  refine lv_aload_n hx hb dL_law_950 rfl (lv_at hl 1 rfl) ?_
  refine lv_aload_n hx hb dL_law_951 rfl (lv_at hl 0 rfl) ?_
  refine lv_iload_n hx hb dL_law_952 rfl (lv_at hl 3 rfl) ?_
  refine lv_iconst (v := 1) hx hb dL_law_953 (by decide) ?_
  refine lv_iadd hx hb dL_law_954 ?_
  obtain ⟨g1, h⟩ := gw_gdE h
  refine va_sld hx hb hX hbl hbA hI.2.2 g1 dL_law_955 ?_
  refine lv_aload_n hx hb dL_law_956 rfl (lv_at hl 0 rfl) ?_
  refine lv_iload_n hx hb dL_law_957 rfl (lv_at hl 3 rfl) ?_
  refine lv_iconst (v := 2) hx hb dL_law_958 (by decide) ?_
  refine lv_iadd hx hb dL_law_959 ?_
  obtain ⟨g2, h⟩ := gw_gdE h
  refine va_sld hx hb hX hbl hbA hI.2.2 g2 dL_law_960 ?_
  refine lv_aload_n hx hb dL_law_961 rfl (lv_at hl 0 rfl) ?_
  refine lv_iload_n hx hb dL_law_962 rfl (lv_at hl 3 rfl) ?_
  refine lv_iconst (v := 3) hx hb dL_law_963 (by decide) ?_
  refine lv_iadd hx hb dL_law_964 ?_
  obtain ⟨g3, h⟩ := gw_gdE h
  refine va_sld hx hb hX hbl hbA hI.2.2 g3 dL_law_965 ?_
  obtain ⟨r4, e5, h⟩ := gw_bdE h
  refine gw_callVF (w := gw_mw cc am M) (wc := gw_cw cc a b d S) (As := [.int (xs (i + (1 : Int32)).toNatClampNeg), .int (xs (i + (2 : Int32)).toNatClampNeg), .int (xs (i + (3 : Int32)).toNatClampNeg)]) (n := 3) B hI (k_X8_away (xs (i + (1 : Int32)).toNatClampNeg) (xs (i + (2 : Int32)).toNatClampNeg) (xs (i + (3 : Int32)).toNatClampNeg) S e5) gL_law_X8_away rfl rfl rfl ndl_X8_away ⟨Nat.le_of_ble_eq_true rfl, Nat.le_of_ble_eq_true rfl⟩ gc_g0 rfl rfl rfl hl.1 (Nat.le_of_ble_eq_true rfl) dL_law_966 ⟨by show cl + 0 + 0 ≤ 600000; omega, by show sl + 0 + 0 ≤ 7302250; omega⟩ rfl (fun w' H locs hw hI => ?_)
  subst hw
  refine lv_pop hx hb dL_law_969 rfl ?_
  refine lv_aload_n hx hb dL_law_970 rfl (lv_at hl 2 rfl) ?_
  refine lv_aload_n hx hb dL_law_971 rfl (lv_at hl 0 rfl) ?_
  refine lv_iload_n hx hb dL_law_972 rfl (lv_at hl 3 rfl) ?_
  refine lv_iconst (v := 1) hx hb dL_law_973 (by decide) ?_
  refine lv_iadd hx hb dL_law_974 ?_
  refine va_sld hx hb hX hbl hbA hI.2.2 g1 dL_law_975 ?_
  refine lv_aload_n hx hb dL_law_976 rfl (lv_at hl 0 rfl) ?_
  refine lv_iload_n hx hb dL_law_977 rfl (lv_at hl 3 rfl) ?_
  refine lv_iconst (v := 2) hx hb dL_law_978 (by decide) ?_
  refine lv_iadd hx hb dL_law_979 ?_
  refine va_sld hx hb hX hbl hbA hI.2.2 g2 dL_law_980 ?_
  refine lv_aload_n hx hb dL_law_981 rfl (lv_at hl 0 rfl) ?_
  refine lv_iload_n hx hb dL_law_982 rfl (lv_at hl 3 rfl) ?_
  refine lv_iconst (v := 3) hx hb dL_law_983 (by decide) ?_
  refine lv_iadd hx hb dL_law_984 ?_
  refine va_sld hx hb hX hbl hbA hI.2.2 g3 dL_law_985 ?_
  obtain ⟨r6, e7, h⟩ := gw_bdE h
  have hI := gw_perm List.perm_append_comm hI
  refine gw_callVF (w := gw_cw cc a b d S) (wc := gw_mw cc am M) (As := [.int (xs (i + (1 : Int32)).toNatClampNeg), .int (xs (i + (2 : Int32)).toNatClampNeg), .int (xs (i + (3 : Int32)).toNatClampNeg)]) (n := 3) B hI (k_X9_away (xs (i + (1 : Int32)).toNatClampNeg) (xs (i + (2 : Int32)).toNatClampNeg) (xs (i + (3 : Int32)).toNatClampNeg) M e7) gL_law_X9_away rfl rfl rfl ndl_X9_away ⟨Nat.le_of_ble_eq_true rfl, Nat.le_of_ble_eq_true rfl⟩ gm_g0 rfl rfl rfl hl.1 (Nat.le_of_ble_eq_true rfl) dL_law_986 ⟨by show cl + 0 + 0 ≤ 600000; omega, by show sl + 0 + 0 ≤ 7302250; omega⟩ rfl (fun w' H locs hw hI => ?_)
  subst hw
  have hI := gw_perm List.perm_append_comm hI
  refine lv_pop hx hb dL_law_989 rfl ?_
  refine lv_goto (tgt := 1551) hx hb dL_law_990 (by decide) ?_
  refine W.widen (k := cl + 7) (n := sl + 98) (by omega) (by omega) ?_
  exact hK S M h b d _ _ ls hI hl
set_option maxRecDepth 100000 in
set_option maxHeartbeats 4000000 in
theorem k_law_c19 {p : Program} {l : Launch} {e : Env} {s : State} {m : MethodId} {below : List Frame} {meth : Method} {c : Code} {D : va_G} {cc : Nat → ClassId} {t1 t2 b0 L : Nat} {A : Nat → Prop} {a am : Nat → Nat} {xs : Nat → Int32} (hX : va_X b0 L xs s s.heap) (hbl : b0 < s.heap.size) (hbA : ¬ A b0) (B : gw_B p s m #[Value.ref b0] meth c cL_law 4 wsL_law RL ret D (gw_ty cc) t1 t2 A) {i : Int32} {cl sl : Nat} (h1 : cl + 7 ≤ 600000) (h2 : sl + 98 ≤ 7302250) {K : gw_S → gw_S → Option Int32} (hK : ∀ (S M : gw_S), K S M = some 1 → ∀ (b d : Nat → Nat) (H : Heap) (locs : List Loc) (ls : Array Slot), gw_I D A s.heap (gw_mw cc am M ++ gw_cw cc a b d S) H locs → lv_has ls 4 [(0, .ref b0), (1, .ref (a 0)), (2, .ref (am 0)), (3, .int i)] → W p l e room_1 s m #[Value.ref b0] below meth c H locs (cl + 7) (sl + 98) (lw_Z below #[Value.ref b0] s) (F0 m 1551 ls [])) (S M : gw_S) (h : f_law_c19 xs L i K S M = some 1) (b d : Nat → Nat) (H : Heap) (locs : List Loc) (ls : Array Slot) (hI : gw_I D A s.heap (gw_mw cc am M ++ gw_cw cc a b d S) H locs) (hl : lv_has ls 4 [(0, .ref b0), (1, .ref (a 0)), (2, .ref (am 0)), (3, .int i)]) : W p l e room_1 s m #[Value.ref b0] below meth c H locs cl sl (lw_Z below #[Value.ref b0] s) (F0 m 993 ls []) := by
  have hx := B.1.1
  have hb := B.1.2.1
  have hown : s.vm.findClass RL = some m.cls := B.1.2.2.2.1
  have hts := B.1.2.2.2.2
  unfold f_law_c19 at h
  refine lv_aload_n hx hb dL_law_993 rfl (lv_at hl 1 rfl) ?_
  refine lv_aload_n hx hb dL_law_994 rfl (lv_at hl 0 rfl) ?_
  refine lv_iload_n hx hb dL_law_995 rfl (lv_at hl 3 rfl) ?_
  refine lv_iconst (v := 1) hx hb dL_law_996 (by decide) ?_
  refine lv_iadd hx hb dL_law_997 ?_
  obtain ⟨g1, h⟩ := gw_gdE h
  refine va_sld hx hb hX hbl hbA hI.2.2 g1 dL_law_998 ?_
  refine lv_aload_n hx hb dL_law_999 rfl (lv_at hl 0 rfl) ?_
  refine lv_iload_n hx hb dL_law_1000 rfl (lv_at hl 3 rfl) ?_
  refine lv_iconst (v := 2) hx hb dL_law_1001 (by decide) ?_
  refine lv_iadd hx hb dL_law_1002 ?_
  obtain ⟨g2, h⟩ := gw_gdE h
  refine va_sld hx hb hX hbl hbA hI.2.2 g2 dL_law_1003 ?_
  obtain ⟨r3, S5, e4, h⟩ := gw_b2E h
  refine gw_callVF (w := gw_mw cc am M) (wc := gw_cw cc a b d S) (As := [.int (xs (i + (1 : Int32)).toNatClampNeg), .int (xs (i + (2 : Int32)).toNatClampNeg)]) (n := 2) B hI (k_X8_tear (xs (i + (1 : Int32)).toNatClampNeg) (xs (i + (2 : Int32)).toNatClampNeg) S e4) gL_law_X8_tear rfl rfl rfl ndl_X8_tear ⟨Nat.le_of_ble_eq_true rfl, Nat.le_of_ble_eq_true rfl⟩ gc_g0 rfl rfl rfl hl.1 (Nat.le_of_ble_eq_true rfl) dL_law_1004 ⟨by show cl + 0 + 0 ≤ 600000; omega, by show sl + 0 + 0 ≤ 7302250; omega⟩ rfl (fun w' H locs hw hI => ?_)
  subst hw
  refine lv_pop hx hb dL_law_1007 rfl ?_
  refine lv_aload_n hx hb dL_law_1008 rfl (lv_at hl 2 rfl) ?_
  refine lv_aload_n hx hb dL_law_1009 rfl (lv_at hl 0 rfl) ?_
  refine lv_iload_n hx hb dL_law_1010 rfl (lv_at hl 3 rfl) ?_
  refine lv_iconst (v := 1) hx hb dL_law_1011 (by decide) ?_
  refine lv_iadd hx hb dL_law_1012 ?_
  refine va_sld hx hb hX hbl hbA hI.2.2 g1 dL_law_1013 ?_
  refine lv_aload_n hx hb dL_law_1014 rfl (lv_at hl 0 rfl) ?_
  refine lv_iload_n hx hb dL_law_1015 rfl (lv_at hl 3 rfl) ?_
  refine lv_iconst (v := 2) hx hb dL_law_1016 (by decide) ?_
  refine lv_iadd hx hb dL_law_1017 ?_
  refine va_sld hx hb hX hbl hbA hI.2.2 g2 dL_law_1018 ?_
  obtain ⟨r6, M8, e7, h⟩ := gw_b2E h
  have hI := gw_perm List.perm_append_comm hI
  refine gw_callVF (w := gw_cw cc a b d S5) (wc := gw_mw cc am M) (As := [.int (xs (i + (1 : Int32)).toNatClampNeg), .int (xs (i + (2 : Int32)).toNatClampNeg)]) (n := 2) B hI (k_X9_tear (xs (i + (1 : Int32)).toNatClampNeg) (xs (i + (2 : Int32)).toNatClampNeg) M e7) gL_law_X9_tear rfl rfl rfl ndl_X9_tear ⟨Nat.le_of_ble_eq_true rfl, Nat.le_of_ble_eq_true rfl⟩ gm_g0 rfl rfl rfl hl.1 (Nat.le_of_ble_eq_true rfl) dL_law_1019 ⟨by show cl + 0 + 0 ≤ 600000; omega, by show sl + 0 + 0 ≤ 7302250; omega⟩ rfl (fun w' H locs hw hI => ?_)
  subst hw
  have hI := gw_perm List.perm_append_comm hI
  refine lv_pop hx hb dL_law_1022 rfl ?_
  refine lv_goto (tgt := 1551) hx hb dL_law_1023 (by decide) ?_
  refine W.widen (k := cl + 7) (n := sl + 98) (by omega) (by omega) ?_
  exact hK S5 M8 h b d _ _ ls hI hl
set_option maxRecDepth 100000 in
set_option maxHeartbeats 4000000 in
theorem k_law_c20 {p : Program} {l : Launch} {e : Env} {s : State} {m : MethodId} {below : List Frame} {meth : Method} {c : Code} {D : va_G} {cc : Nat → ClassId} {t1 t2 b0 L : Nat} {A : Nat → Prop} {a am : Nat → Nat} {xs : Nat → Int32} (hX : va_X b0 L xs s s.heap) (hbl : b0 < s.heap.size) (hbA : ¬ A b0) (B : gw_B p s m #[Value.ref b0] meth c cL_law 4 wsL_law RL ret D (gw_ty cc) t1 t2 A) {i : Int32} {cl sl : Nat} (h1 : cl + 7 ≤ 600000) (h2 : sl + 98 ≤ 7302250) {K : gw_S → gw_S → Option Int32} (hK : ∀ (S M : gw_S), K S M = some 1 → ∀ (b d : Nat → Nat) (H : Heap) (locs : List Loc) (ls : Array Slot), gw_I D A s.heap (gw_mw cc am M ++ gw_cw cc a b d S) H locs → lv_has ls 4 [(0, .ref b0), (1, .ref (a 0)), (2, .ref (am 0)), (3, .int i)] → W p l e room_1 s m #[Value.ref b0] below meth c H locs (cl + 7) (sl + 98) (lw_Z below #[Value.ref b0] s) (F0 m 1551 ls [])) (S M : gw_S) (h : f_law_c20 xs L i K S M = some 1) (b d : Nat → Nat) (H : Heap) (locs : List Loc) (ls : Array Slot) (hI : gw_I D A s.heap (gw_mw cc am M ++ gw_cw cc a b d S) H locs) (hl : lv_has ls 4 [(0, .ref b0), (1, .ref (a 0)), (2, .ref (am 0)), (3, .int i)]) : W p l e room_1 s m #[Value.ref b0] below meth c H locs cl sl (lw_Z below #[Value.ref b0] s) (F0 m 1026 ls []) := by
  have hx := B.1.1
  have hb := B.1.2.1
  have hown : s.vm.findClass RL = some m.cls := B.1.2.2.2.1
  have hts := B.1.2.2.2.2
  unfold f_law_c20 at h
  refine lv_aload_n hx hb dL_law_1026 rfl (lv_at hl 1 rfl) ?_
  refine lv_aload_n hx hb dL_law_1027 rfl (lv_at hl 0 rfl) ?_
  refine lv_iload_n hx hb dL_law_1028 rfl (lv_at hl 3 rfl) ?_
  refine lv_iconst (v := 1) hx hb dL_law_1029 (by decide) ?_
  refine lv_iadd hx hb dL_law_1030 ?_
  obtain ⟨g1, h⟩ := gw_gdE h
  refine va_sld hx hb hX hbl hbA hI.2.2 g1 dL_law_1031 ?_
  obtain ⟨r2, S4, e3, h⟩ := gw_b2E h
  refine gw_callVF (w := gw_mw cc am M) (wc := gw_cw cc a b d S) (As := [.int (xs (i + (1 : Int32)).toNatClampNeg)]) (n := 1) B hI (k_X8_mend (xs (i + (1 : Int32)).toNatClampNeg) S e3) gL_law_X8_mend rfl rfl rfl ndl_X8_mend ⟨Nat.le_of_ble_eq_true rfl, Nat.le_of_ble_eq_true rfl⟩ gc_g0 rfl rfl rfl hl.1 (Nat.le_of_ble_eq_true rfl) dL_law_1032 ⟨by show cl + 0 + 0 ≤ 600000; omega, by show sl + 0 + 0 ≤ 7302250; omega⟩ rfl (fun w' H locs hw hI => ?_)
  subst hw
  refine lv_pop hx hb dL_law_1035 rfl ?_
  refine lv_aload_n hx hb dL_law_1036 rfl (lv_at hl 2 rfl) ?_
  refine lv_aload_n hx hb dL_law_1037 rfl (lv_at hl 0 rfl) ?_
  refine lv_iload_n hx hb dL_law_1038 rfl (lv_at hl 3 rfl) ?_
  refine lv_iconst (v := 1) hx hb dL_law_1039 (by decide) ?_
  refine lv_iadd hx hb dL_law_1040 ?_
  refine va_sld hx hb hX hbl hbA hI.2.2 g1 dL_law_1041 ?_
  obtain ⟨r5, M7, e6, h⟩ := gw_b2E h
  have hI := gw_perm List.perm_append_comm hI
  refine gw_callVF (w := gw_cw cc a b d S4) (wc := gw_mw cc am M) (As := [.int (xs (i + (1 : Int32)).toNatClampNeg)]) (n := 1) B hI (k_X9_mend (xs (i + (1 : Int32)).toNatClampNeg) M e6) gL_law_X9_mend rfl rfl rfl ndl_X9_mend ⟨Nat.le_of_ble_eq_true rfl, Nat.le_of_ble_eq_true rfl⟩ gm_g0 rfl rfl rfl hl.1 (Nat.le_of_ble_eq_true rfl) dL_law_1042 ⟨by show cl + 0 + 0 ≤ 600000; omega, by show sl + 0 + 0 ≤ 7302250; omega⟩ rfl (fun w' H locs hw hI => ?_)
  subst hw
  have hI := gw_perm List.perm_append_comm hI
  refine lv_pop hx hb dL_law_1045 rfl ?_
  refine lv_goto (tgt := 1551) hx hb dL_law_1046 (by decide) ?_
  refine W.widen (k := cl + 7) (n := sl + 98) (by omega) (by omega) ?_
  exact hK S4 M7 h b d _ _ ls hI hl
set_option maxRecDepth 100000 in
set_option maxHeartbeats 4000000 in
theorem k_law_c21 {p : Program} {l : Launch} {e : Env} {s : State} {m : MethodId} {below : List Frame} {meth : Method} {c : Code} {D : va_G} {cc : Nat → ClassId} {t1 t2 b0 L : Nat} {A : Nat → Prop} {a am : Nat → Nat} {xs : Nat → Int32} (hX : va_X b0 L xs s s.heap) (hbl : b0 < s.heap.size) (hbA : ¬ A b0) (B : gw_B p s m #[Value.ref b0] meth c cL_law 4 wsL_law RL ret D (gw_ty cc) t1 t2 A) {i : Int32} {cl sl : Nat} (h1 : cl + 7 ≤ 600000) (h2 : sl + 98 ≤ 7302250) {K : gw_S → gw_S → Option Int32} (hK : ∀ (S M : gw_S), K S M = some 1 → ∀ (b d : Nat → Nat) (H : Heap) (locs : List Loc) (ls : Array Slot), gw_I D A s.heap (gw_mw cc am M ++ gw_cw cc a b d S) H locs → lv_has ls 4 [(0, .ref b0), (1, .ref (a 0)), (2, .ref (am 0)), (3, .int i)] → W p l e room_1 s m #[Value.ref b0] below meth c H locs (cl + 7) (sl + 98) (lw_Z below #[Value.ref b0] s) (F0 m 1551 ls [])) (S M : gw_S) (h : f_law_c21 xs L i K S M = some 1) (b d : Nat → Nat) (H : Heap) (locs : List Loc) (ls : Array Slot) (hI : gw_I D A s.heap (gw_mw cc am M ++ gw_cw cc a b d S) H locs) (hl : lv_has ls 4 [(0, .ref b0), (1, .ref (a 0)), (2, .ref (am 0)), (3, .int i)]) : W p l e room_1 s m #[Value.ref b0] below meth c H locs cl sl (lw_Z below #[Value.ref b0] s) (F0 m 1049 ls []) := by
  have hx := B.1.1
  have hb := B.1.2.1
  have hown : s.vm.findClass RL = some m.cls := B.1.2.2.2.1
  have hts := B.1.2.2.2.2
  unfold f_law_c21 at h
  refine lv_aload_n hx hb dL_law_1049 rfl (lv_at hl 1 rfl) ?_
  refine lv_aload_n hx hb dL_law_1050 rfl (lv_at hl 0 rfl) ?_
  refine lv_iload_n hx hb dL_law_1051 rfl (lv_at hl 3 rfl) ?_
  refine lv_iconst (v := 1) hx hb dL_law_1052 (by decide) ?_
  refine lv_iadd hx hb dL_law_1053 ?_
  obtain ⟨g1, h⟩ := gw_gdE h
  refine va_sld hx hb hX hbl hbA hI.2.2 g1 dL_law_1054 ?_
  obtain ⟨r2, S4, e3, h⟩ := gw_b2E h
  refine gw_callVF (w := gw_mw cc am M) (wc := gw_cw cc a b d S) (As := [.int (xs (i + (1 : Int32)).toNatClampNeg)]) (n := 1) B hI (k_X8_chain (xs (i + (1 : Int32)).toNatClampNeg) S e3) gL_law_X8_chain rfl rfl rfl ndl_X8_chain ⟨Nat.le_of_ble_eq_true rfl, Nat.le_of_ble_eq_true rfl⟩ gc_g0 rfl rfl rfl hl.1 (Nat.le_of_ble_eq_true rfl) dL_law_1055 ⟨by show cl + 0 + 0 ≤ 600000; omega, by show sl + 0 + 0 ≤ 7302250; omega⟩ rfl (fun w' H locs hw hI => ?_)
  subst hw
  refine lv_aload_n hx hb dL_law_1058 rfl (lv_at hl 2 rfl) ?_
  refine lv_aload_n hx hb dL_law_1059 rfl (lv_at hl 0 rfl) ?_
  refine lv_iload_n hx hb dL_law_1060 rfl (lv_at hl 3 rfl) ?_
  refine lv_iconst (v := 1) hx hb dL_law_1061 (by decide) ?_
  refine lv_iadd hx hb dL_law_1062 ?_
  refine va_sld hx hb hX hbl hbA hI.2.2 g1 dL_law_1063 ?_
  obtain ⟨r5, M7, e6, h⟩ := gw_b2E h
  have hI := gw_perm List.perm_append_comm hI
  refine gw_callVF (w := gw_cw cc a b d S4) (wc := gw_mw cc am M) (As := [.int (xs (i + (1 : Int32)).toNatClampNeg)]) (n := 1) B hI (k_X9_chain (xs (i + (1 : Int32)).toNatClampNeg) M e6) gL_law_X9_chain rfl rfl rfl ndl_X9_chain ⟨Nat.le_of_ble_eq_true rfl, Nat.le_of_ble_eq_true rfl⟩ gm_g0 rfl rfl rfl hl.1 (Nat.le_of_ble_eq_true rfl) dL_law_1064 ⟨by show cl + 0 + 0 ≤ 600000; omega, by show sl + 0 + 0 ≤ 7302250; omega⟩ rfl (fun w' H locs hw hI => ?_)
  subst hw
  have hI := gw_perm List.perm_append_comm hI
  refine lv_icmp_eq (tgt := 1551) hx hb dL_law_1067 (by decide) (fun c8 => ?_) (fun c8 => absurd (gw_ifF c8 h) (by decide))
  replace h := gw_ifT c8 h
  refine W.widen (k := cl + 7) (n := sl + 98) (by omega) (by omega) ?_
  exact hK S4 M7 h b d _ _ ls hI hl
set_option maxRecDepth 100000 in
set_option maxHeartbeats 4000000 in
theorem k_law_c22 {p : Program} {l : Launch} {e : Env} {s : State} {m : MethodId} {below : List Frame} {meth : Method} {c : Code} {D : va_G} {cc : Nat → ClassId} {t1 t2 b0 L : Nat} {A : Nat → Prop} {a am : Nat → Nat} {xs : Nat → Int32} (hX : va_X b0 L xs s s.heap) (hbl : b0 < s.heap.size) (hbA : ¬ A b0) (B : gw_B p s m #[Value.ref b0] meth c cL_law 4 wsL_law RL ret D (gw_ty cc) t1 t2 A) {i : Int32} {cl sl : Nat} (h1 : cl + 7 ≤ 600000) (h2 : sl + 98 ≤ 7302250) {K : gw_S → gw_S → Option Int32} (hK : ∀ (S M : gw_S), K S M = some 1 → ∀ (b d : Nat → Nat) (H : Heap) (locs : List Loc) (ls : Array Slot), gw_I D A s.heap (gw_mw cc am M ++ gw_cw cc a b d S) H locs → lv_has ls 4 [(0, .ref b0), (1, .ref (a 0)), (2, .ref (am 0)), (3, .int i)] → W p l e room_1 s m #[Value.ref b0] below meth c H locs (cl + 7) (sl + 98) (lw_Z below #[Value.ref b0] s) (F0 m 1551 ls [])) (S M : gw_S) (h : f_law_c22 xs L i K S M = some 1) (b d : Nat → Nat) (H : Heap) (locs : List Loc) (ls : Array Slot) (hI : gw_I D A s.heap (gw_mw cc am M ++ gw_cw cc a b d S) H locs) (hl : lv_has ls 4 [(0, .ref b0), (1, .ref (a 0)), (2, .ref (am 0)), (3, .int i)]) : W p l e room_1 s m #[Value.ref b0] below meth c H locs cl sl (lw_Z below #[Value.ref b0] s) (F0 m 1072 ls []) := by
  have hx := B.1.1
  have hb := B.1.2.1
  have hown : s.vm.findClass RL = some m.cls := B.1.2.2.2.1
  have hts := B.1.2.2.2.2
  unfold f_law_c22 at h
  refine lv_aload_n hx hb dL_law_1072 rfl (lv_at hl 1 rfl) ?_
  refine lv_aload_n hx hb dL_law_1073 rfl (lv_at hl 0 rfl) ?_
  refine lv_iload_n hx hb dL_law_1074 rfl (lv_at hl 3 rfl) ?_
  refine lv_iconst (v := 1) hx hb dL_law_1075 (by decide) ?_
  refine lv_iadd hx hb dL_law_1076 ?_
  obtain ⟨g1, h⟩ := gw_gdE h
  refine va_sld hx hb hX hbl hbA hI.2.2 g1 dL_law_1077 ?_
  refine lv_aload_n hx hb dL_law_1078 rfl (lv_at hl 0 rfl) ?_
  refine lv_iload_n hx hb dL_law_1079 rfl (lv_at hl 3 rfl) ?_
  refine lv_iconst (v := 2) hx hb dL_law_1080 (by decide) ?_
  refine lv_iadd hx hb dL_law_1081 ?_
  obtain ⟨g2, h⟩ := gw_gdE h
  refine va_sld hx hb hX hbl hbA hI.2.2 g2 dL_law_1082 ?_
  refine lv_aload_n hx hb dL_law_1083 rfl (lv_at hl 0 rfl) ?_
  refine lv_iload_n hx hb dL_law_1084 rfl (lv_at hl 3 rfl) ?_
  refine lv_iconst (v := 3) hx hb dL_law_1085 (by decide) ?_
  refine lv_iadd hx hb dL_law_1086 ?_
  obtain ⟨g3, h⟩ := gw_gdE h
  refine va_sld hx hb hX hbl hbA hI.2.2 g3 dL_law_1087 ?_
  obtain ⟨r4, S6, e5, h⟩ := gw_b2E h
  refine gw_callVF (w := gw_mw cc am M) (wc := gw_cw cc a b d S) (As := [.int (xs (i + (1 : Int32)).toNatClampNeg), .int (xs (i + (2 : Int32)).toNatClampNeg), .int (xs (i + (3 : Int32)).toNatClampNeg)]) (n := 3) B hI (k_X8_link (xs (i + (1 : Int32)).toNatClampNeg) (xs (i + (2 : Int32)).toNatClampNeg) (xs (i + (3 : Int32)).toNatClampNeg) S e5) gL_law_X8_link rfl rfl rfl ndl_X8_link ⟨Nat.le_of_ble_eq_true rfl, Nat.le_of_ble_eq_true rfl⟩ gc_g0 rfl rfl rfl hl.1 (Nat.le_of_ble_eq_true rfl) dL_law_1088 ⟨by show cl + 0 + 0 ≤ 600000; omega, by show sl + 0 + 0 ≤ 7302250; omega⟩ rfl (fun w' H locs hw hI => ?_)
  subst hw
  refine lv_pop hx hb dL_law_1091 rfl ?_
  refine lv_aload_n hx hb dL_law_1092 rfl (lv_at hl 2 rfl) ?_
  refine lv_aload_n hx hb dL_law_1093 rfl (lv_at hl 0 rfl) ?_
  refine lv_iload_n hx hb dL_law_1094 rfl (lv_at hl 3 rfl) ?_
  refine lv_iconst (v := 1) hx hb dL_law_1095 (by decide) ?_
  refine lv_iadd hx hb dL_law_1096 ?_
  refine va_sld hx hb hX hbl hbA hI.2.2 g1 dL_law_1097 ?_
  refine lv_aload_n hx hb dL_law_1098 rfl (lv_at hl 0 rfl) ?_
  refine lv_iload_n hx hb dL_law_1099 rfl (lv_at hl 3 rfl) ?_
  refine lv_iconst (v := 2) hx hb dL_law_1100 (by decide) ?_
  refine lv_iadd hx hb dL_law_1101 ?_
  refine va_sld hx hb hX hbl hbA hI.2.2 g2 dL_law_1102 ?_
  refine lv_aload_n hx hb dL_law_1103 rfl (lv_at hl 0 rfl) ?_
  refine lv_iload_n hx hb dL_law_1104 rfl (lv_at hl 3 rfl) ?_
  refine lv_iconst (v := 3) hx hb dL_law_1105 (by decide) ?_
  refine lv_iadd hx hb dL_law_1106 ?_
  refine va_sld hx hb hX hbl hbA hI.2.2 g3 dL_law_1107 ?_
  obtain ⟨r7, M9, e8, h⟩ := gw_b2E h
  have hI := gw_perm List.perm_append_comm hI
  refine gw_callVF (w := gw_cw cc a b d S6) (wc := gw_mw cc am M) (As := [.int (xs (i + (1 : Int32)).toNatClampNeg), .int (xs (i + (2 : Int32)).toNatClampNeg), .int (xs (i + (3 : Int32)).toNatClampNeg)]) (n := 3) B hI (k_X9_link (xs (i + (1 : Int32)).toNatClampNeg) (xs (i + (2 : Int32)).toNatClampNeg) (xs (i + (3 : Int32)).toNatClampNeg) M e8) gL_law_X9_link rfl rfl rfl ndl_X9_link ⟨Nat.le_of_ble_eq_true rfl, Nat.le_of_ble_eq_true rfl⟩ gm_g0 rfl rfl rfl hl.1 (Nat.le_of_ble_eq_true rfl) dL_law_1108 ⟨by show cl + 0 + 0 ≤ 600000; omega, by show sl + 0 + 0 ≤ 7302250; omega⟩ rfl (fun w' H locs hw hI => ?_)
  subst hw
  have hI := gw_perm List.perm_append_comm hI
  refine lv_pop hx hb dL_law_1111 rfl ?_
  refine lv_goto (tgt := 1551) hx hb dL_law_1112 (by decide) ?_
  refine W.widen (k := cl + 7) (n := sl + 98) (by omega) (by omega) ?_
  exact hK S6 M9 h b d _ _ ls hI hl
set_option maxRecDepth 100000 in
set_option maxHeartbeats 4000000 in
theorem k_law_c23 {p : Program} {l : Launch} {e : Env} {s : State} {m : MethodId} {below : List Frame} {meth : Method} {c : Code} {D : va_G} {cc : Nat → ClassId} {t1 t2 b0 L : Nat} {A : Nat → Prop} {a am : Nat → Nat} {xs : Nat → Int32} (hX : va_X b0 L xs s s.heap) (hbl : b0 < s.heap.size) (hbA : ¬ A b0) (B : gw_B p s m #[Value.ref b0] meth c cL_law 4 wsL_law RL ret D (gw_ty cc) t1 t2 A) {i : Int32} {cl sl : Nat} (h1 : cl + 7 ≤ 600000) (h2 : sl + 98 ≤ 7302250) {K : gw_S → gw_S → Option Int32} (hK : ∀ (S M : gw_S), K S M = some 1 → ∀ (b d : Nat → Nat) (H : Heap) (locs : List Loc) (ls : Array Slot), gw_I D A s.heap (gw_mw cc am M ++ gw_cw cc a b d S) H locs → lv_has ls 4 [(0, .ref b0), (1, .ref (a 0)), (2, .ref (am 0)), (3, .int i)] → W p l e room_1 s m #[Value.ref b0] below meth c H locs (cl + 7) (sl + 98) (lw_Z below #[Value.ref b0] s) (F0 m 1551 ls [])) (S M : gw_S) (h : f_law_c23 xs L i K S M = some 1) (b d : Nat → Nat) (H : Heap) (locs : List Loc) (ls : Array Slot) (hI : gw_I D A s.heap (gw_mw cc am M ++ gw_cw cc a b d S) H locs) (hl : lv_has ls 4 [(0, .ref b0), (1, .ref (a 0)), (2, .ref (am 0)), (3, .int i)]) : W p l e room_1 s m #[Value.ref b0] below meth c H locs cl sl (lw_Z below #[Value.ref b0] s) (F0 m 1115 ls []) := by
  have hx := B.1.1
  have hb := B.1.2.1
  have hown : s.vm.findClass RL = some m.cls := B.1.2.2.2.1
  have hts := B.1.2.2.2.2
  unfold f_law_c23 at h
  refine lv_aload_n hx hb dL_law_1115 rfl (lv_at hl 1 rfl) ?_
  refine lv_aload_n hx hb dL_law_1116 rfl (lv_at hl 0 rfl) ?_
  refine lv_iload_n hx hb dL_law_1117 rfl (lv_at hl 3 rfl) ?_
  refine lv_iconst (v := 1) hx hb dL_law_1118 (by decide) ?_
  refine lv_iadd hx hb dL_law_1119 ?_
  obtain ⟨g1, h⟩ := gw_gdE h
  refine va_sld hx hb hX hbl hbA hI.2.2 g1 dL_law_1120 ?_
  obtain ⟨r2, S4, e3, h⟩ := gw_b2E h
  refine gw_callVF (w := gw_mw cc am M) (wc := gw_cw cc a b d S) (As := [.int (xs (i + (1 : Int32)).toNatClampNeg)]) (n := 1) B hI (k_X8_swap (xs (i + (1 : Int32)).toNatClampNeg) S e3) gL_law_X8_swap rfl rfl rfl ndl_X8_swap ⟨Nat.le_of_ble_eq_true rfl, Nat.le_of_ble_eq_true rfl⟩ gc_g0 rfl rfl rfl hl.1 (Nat.le_of_ble_eq_true rfl) dL_law_1121 ⟨by show cl + 0 + 0 ≤ 600000; omega, by show sl + 0 + 0 ≤ 7302250; omega⟩ rfl (fun w' H locs hw hI => ?_)
  subst hw
  refine lv_pop hx hb dL_law_1124 rfl ?_
  refine lv_aload_n hx hb dL_law_1125 rfl (lv_at hl 2 rfl) ?_
  refine lv_aload_n hx hb dL_law_1126 rfl (lv_at hl 0 rfl) ?_
  refine lv_iload_n hx hb dL_law_1127 rfl (lv_at hl 3 rfl) ?_
  refine lv_iconst (v := 1) hx hb dL_law_1128 (by decide) ?_
  refine lv_iadd hx hb dL_law_1129 ?_
  refine va_sld hx hb hX hbl hbA hI.2.2 g1 dL_law_1130 ?_
  obtain ⟨r5, M7, e6, h⟩ := gw_b2E h
  have hI := gw_perm List.perm_append_comm hI
  refine gw_callVF (w := gw_cw cc a b d S4) (wc := gw_mw cc am M) (As := [.int (xs (i + (1 : Int32)).toNatClampNeg)]) (n := 1) B hI (k_X9_swap (xs (i + (1 : Int32)).toNatClampNeg) M e6) gL_law_X9_swap rfl rfl rfl ndl_X9_swap ⟨Nat.le_of_ble_eq_true rfl, Nat.le_of_ble_eq_true rfl⟩ gm_g0 rfl rfl rfl hl.1 (Nat.le_of_ble_eq_true rfl) dL_law_1131 ⟨by show cl + 0 + 0 ≤ 600000; omega, by show sl + 0 + 0 ≤ 7302250; omega⟩ rfl (fun w' H locs hw hI => ?_)
  subst hw
  have hI := gw_perm List.perm_append_comm hI
  refine lv_pop hx hb dL_law_1134 rfl ?_
  refine lv_goto (tgt := 1551) hx hb dL_law_1135 (by decide) ?_
  refine W.widen (k := cl + 7) (n := sl + 98) (by omega) (by omega) ?_
  exact hK S4 M7 h b d _ _ ls hI hl
set_option maxRecDepth 100000 in
set_option maxHeartbeats 4000000 in
theorem k_law_c24 {p : Program} {l : Launch} {e : Env} {s : State} {m : MethodId} {below : List Frame} {meth : Method} {c : Code} {D : va_G} {cc : Nat → ClassId} {t1 t2 b0 L : Nat} {A : Nat → Prop} {a am : Nat → Nat} {xs : Nat → Int32} (hX : va_X b0 L xs s s.heap) (hbl : b0 < s.heap.size) (hbA : ¬ A b0) (B : gw_B p s m #[Value.ref b0] meth c cL_law 4 wsL_law RL ret D (gw_ty cc) t1 t2 A) {i : Int32} {cl sl : Nat} (h1 : cl + 7 ≤ 600000) (h2 : sl + 98 ≤ 7302250) {K : gw_S → gw_S → Option Int32} (hK : ∀ (S M : gw_S), K S M = some 1 → ∀ (b d : Nat → Nat) (H : Heap) (locs : List Loc) (ls : Array Slot), gw_I D A s.heap (gw_mw cc am M ++ gw_cw cc a b d S) H locs → lv_has ls 4 [(0, .ref b0), (1, .ref (a 0)), (2, .ref (am 0)), (3, .int i)] → W p l e room_1 s m #[Value.ref b0] below meth c H locs (cl + 7) (sl + 98) (lw_Z below #[Value.ref b0] s) (F0 m 1551 ls [])) (S M : gw_S) (h : f_law_c24 xs L i K S M = some 1) (b d : Nat → Nat) (H : Heap) (locs : List Loc) (ls : Array Slot) (hI : gw_I D A s.heap (gw_mw cc am M ++ gw_cw cc a b d S) H locs) (hl : lv_has ls 4 [(0, .ref b0), (1, .ref (a 0)), (2, .ref (am 0)), (3, .int i)]) : W p l e room_1 s m #[Value.ref b0] below meth c H locs cl sl (lw_Z below #[Value.ref b0] s) (F0 m 1138 ls []) := by
  have hx := B.1.1
  have hb := B.1.2.1
  have hown : s.vm.findClass RL = some m.cls := B.1.2.2.2.1
  have hts := B.1.2.2.2.2
  unfold f_law_c24 at h
  refine lv_aload_n hx hb dL_law_1138 rfl (lv_at hl 1 rfl) ?_
  refine lv_aload_n hx hb dL_law_1139 rfl (lv_at hl 0 rfl) ?_
  refine lv_iload_n hx hb dL_law_1140 rfl (lv_at hl 3 rfl) ?_
  refine lv_iconst (v := 1) hx hb dL_law_1141 (by decide) ?_
  refine lv_iadd hx hb dL_law_1142 ?_
  obtain ⟨g1, h⟩ := gw_gdE h
  refine va_sld hx hb hX hbl hbA hI.2.2 g1 dL_law_1143 ?_
  refine lv_aload_n hx hb dL_law_1144 rfl (lv_at hl 0 rfl) ?_
  refine lv_iload_n hx hb dL_law_1145 rfl (lv_at hl 3 rfl) ?_
  refine lv_iconst (v := 2) hx hb dL_law_1146 (by decide) ?_
  refine lv_iadd hx hb dL_law_1147 ?_
  obtain ⟨g2, h⟩ := gw_gdE h
  refine va_sld hx hb hX hbl hbA hI.2.2 g2 dL_law_1148 ?_
  obtain ⟨r3, S5, e4, h⟩ := gw_b2E h
  refine gw_callVF (w := gw_mw cc am M) (wc := gw_cw cc a b d S) (As := [.int (xs (i + (1 : Int32)).toNatClampNeg), .int (xs (i + (2 : Int32)).toNatClampNeg)]) (n := 2) B hI (k_X8_match (xs (i + (1 : Int32)).toNatClampNeg) (xs (i + (2 : Int32)).toNatClampNeg) S e4) gL_law_X8_match rfl rfl rfl ndl_X8_match ⟨Nat.le_of_ble_eq_true rfl, Nat.le_of_ble_eq_true rfl⟩ gc_g0 rfl rfl rfl hl.1 (Nat.le_of_ble_eq_true rfl) dL_law_1149 ⟨by show cl + 0 + 0 ≤ 600000; omega, by show sl + 0 + 0 ≤ 7302250; omega⟩ rfl (fun w' H locs hw hI => ?_)
  subst hw
  refine lv_pop hx hb dL_law_1152 rfl ?_
  refine lv_aload_n hx hb dL_law_1153 rfl (lv_at hl 2 rfl) ?_
  refine lv_aload_n hx hb dL_law_1154 rfl (lv_at hl 0 rfl) ?_
  refine lv_iload_n hx hb dL_law_1155 rfl (lv_at hl 3 rfl) ?_
  refine lv_iconst (v := 1) hx hb dL_law_1156 (by decide) ?_
  refine lv_iadd hx hb dL_law_1157 ?_
  refine va_sld hx hb hX hbl hbA hI.2.2 g1 dL_law_1158 ?_
  refine lv_aload_n hx hb dL_law_1159 rfl (lv_at hl 0 rfl) ?_
  refine lv_iload_n hx hb dL_law_1160 rfl (lv_at hl 3 rfl) ?_
  refine lv_iconst (v := 2) hx hb dL_law_1161 (by decide) ?_
  refine lv_iadd hx hb dL_law_1162 ?_
  refine va_sld hx hb hX hbl hbA hI.2.2 g2 dL_law_1163 ?_
  obtain ⟨r6, M8, e7, h⟩ := gw_b2E h
  have hI := gw_perm List.perm_append_comm hI
  refine gw_callVF (w := gw_cw cc a b d S5) (wc := gw_mw cc am M) (As := [.int (xs (i + (1 : Int32)).toNatClampNeg), .int (xs (i + (2 : Int32)).toNatClampNeg)]) (n := 2) B hI (k_X9_match (xs (i + (1 : Int32)).toNatClampNeg) (xs (i + (2 : Int32)).toNatClampNeg) M e7) gL_law_X9_match rfl rfl rfl ndl_X9_match ⟨Nat.le_of_ble_eq_true rfl, Nat.le_of_ble_eq_true rfl⟩ gm_g0 rfl rfl rfl hl.1 (Nat.le_of_ble_eq_true rfl) dL_law_1164 ⟨by show cl + 0 + 0 ≤ 600000; omega, by show sl + 0 + 0 ≤ 7302250; omega⟩ rfl (fun w' H locs hw hI => ?_)
  subst hw
  have hI := gw_perm List.perm_append_comm hI
  refine lv_pop hx hb dL_law_1167 rfl ?_
  refine lv_goto (tgt := 1551) hx hb dL_law_1168 (by decide) ?_
  refine W.widen (k := cl + 7) (n := sl + 98) (by omega) (by omega) ?_
  exact hK S5 M8 h b d _ _ ls hI hl
set_option maxRecDepth 100000 in
set_option maxHeartbeats 4000000 in
theorem k_law_c25 {p : Program} {l : Launch} {e : Env} {s : State} {m : MethodId} {below : List Frame} {meth : Method} {c : Code} {D : va_G} {cc : Nat → ClassId} {t1 t2 b0 L : Nat} {A : Nat → Prop} {a am : Nat → Nat} {xs : Nat → Int32} (hX : va_X b0 L xs s s.heap) (hbl : b0 < s.heap.size) (hbA : ¬ A b0) (B : gw_B p s m #[Value.ref b0] meth c cL_law 4 wsL_law RL ret D (gw_ty cc) t1 t2 A) {i : Int32} {cl sl : Nat} (h1 : cl + 7 ≤ 600000) (h2 : sl + 98 ≤ 7302250) {K : gw_S → gw_S → Option Int32} (hK : ∀ (S M : gw_S), K S M = some 1 → ∀ (b d : Nat → Nat) (H : Heap) (locs : List Loc) (ls : Array Slot), gw_I D A s.heap (gw_mw cc am M ++ gw_cw cc a b d S) H locs → lv_has ls 4 [(0, .ref b0), (1, .ref (a 0)), (2, .ref (am 0)), (3, .int i)] → W p l e room_1 s m #[Value.ref b0] below meth c H locs (cl + 7) (sl + 98) (lw_Z below #[Value.ref b0] s) (F0 m 1551 ls [])) (S M : gw_S) (h : f_law_c25 xs L i K S M = some 1) (b d : Nat → Nat) (H : Heap) (locs : List Loc) (ls : Array Slot) (hI : gw_I D A s.heap (gw_mw cc am M ++ gw_cw cc a b d S) H locs) (hl : lv_has ls 4 [(0, .ref b0), (1, .ref (a 0)), (2, .ref (am 0)), (3, .int i)]) : W p l e room_1 s m #[Value.ref b0] below meth c H locs cl sl (lw_Z below #[Value.ref b0] s) (F0 m 1171 ls []) := by
  have hx := B.1.1
  have hb := B.1.2.1
  have hown : s.vm.findClass RL = some m.cls := B.1.2.2.2.1
  have hts := B.1.2.2.2.2
  unfold f_law_c25 at h
  refine lv_aload_n hx hb dL_law_1171 rfl (lv_at hl 1 rfl) ?_
  refine lv_aload_n hx hb dL_law_1172 rfl (lv_at hl 0 rfl) ?_
  refine lv_iload_n hx hb dL_law_1173 rfl (lv_at hl 3 rfl) ?_
  refine lv_iconst (v := 1) hx hb dL_law_1174 (by decide) ?_
  refine lv_iadd hx hb dL_law_1175 ?_
  obtain ⟨g1, h⟩ := gw_gdE h
  refine va_sld hx hb hX hbl hbA hI.2.2 g1 dL_law_1176 ?_
  refine lv_aload_n hx hb dL_law_1177 rfl (lv_at hl 0 rfl) ?_
  refine lv_iload_n hx hb dL_law_1178 rfl (lv_at hl 3 rfl) ?_
  refine lv_iconst (v := 2) hx hb dL_law_1179 (by decide) ?_
  refine lv_iadd hx hb dL_law_1180 ?_
  obtain ⟨g2, h⟩ := gw_gdE h
  refine va_sld hx hb hX hbl hbA hI.2.2 g2 dL_law_1181 ?_
  refine lv_aload_n hx hb dL_law_1182 rfl (lv_at hl 0 rfl) ?_
  refine lv_iload_n hx hb dL_law_1183 rfl (lv_at hl 3 rfl) ?_
  refine lv_iconst (v := 3) hx hb dL_law_1184 (by decide) ?_
  refine lv_iadd hx hb dL_law_1185 ?_
  obtain ⟨g3, h⟩ := gw_gdE h
  refine va_sld hx hb hX hbl hbA hI.2.2 g3 dL_law_1186 ?_
  refine lv_aload_n hx hb dL_law_1187 rfl (lv_at hl 0 rfl) ?_
  refine lv_iload_n hx hb dL_law_1188 rfl (lv_at hl 3 rfl) ?_
  refine lv_iconst (v := 4) hx hb dL_law_1189 (by decide) ?_
  refine lv_iadd hx hb dL_law_1190 ?_
  obtain ⟨g4, h⟩ := gw_gdE h
  refine va_sld hx hb hX hbl hbA hI.2.2 g4 dL_law_1191 ?_
  obtain ⟨r5, e6, h⟩ := gw_bdE h
  refine gw_callVF (w := gw_mw cc am M) (wc := gw_cw cc a b d S) (As := [.int (xs (i + (1 : Int32)).toNatClampNeg), .int (xs (i + (2 : Int32)).toNatClampNeg), .int (xs (i + (3 : Int32)).toNatClampNeg), .int (xs (i + (4 : Int32)).toNatClampNeg)]) (n := 4) B hI (k_X8_asOf (xs (i + (1 : Int32)).toNatClampNeg) (xs (i + (2 : Int32)).toNatClampNeg) (xs (i + (3 : Int32)).toNatClampNeg) (xs (i + (4 : Int32)).toNatClampNeg) S e6) gL_law_X8_asOf rfl rfl rfl ndl_X8_asOf ⟨Nat.le_of_ble_eq_true rfl, Nat.le_of_ble_eq_true rfl⟩ gc_g0 rfl rfl rfl hl.1 (Nat.le_of_ble_eq_true rfl) dL_law_1192 ⟨by show cl + 0 + 0 ≤ 600000; omega, by show sl + 0 + 0 ≤ 7302250; omega⟩ rfl (fun w' H locs hw hI => ?_)
  subst hw
  refine lv_pop hx hb dL_law_1195 rfl ?_
  refine lv_aload_n hx hb dL_law_1196 rfl (lv_at hl 2 rfl) ?_
  refine lv_aload_n hx hb dL_law_1197 rfl (lv_at hl 0 rfl) ?_
  refine lv_iload_n hx hb dL_law_1198 rfl (lv_at hl 3 rfl) ?_
  refine lv_iconst (v := 1) hx hb dL_law_1199 (by decide) ?_
  refine lv_iadd hx hb dL_law_1200 ?_
  refine va_sld hx hb hX hbl hbA hI.2.2 g1 dL_law_1201 ?_
  refine lv_aload_n hx hb dL_law_1202 rfl (lv_at hl 0 rfl) ?_
  refine lv_iload_n hx hb dL_law_1203 rfl (lv_at hl 3 rfl) ?_
  refine lv_iconst (v := 2) hx hb dL_law_1204 (by decide) ?_
  refine lv_iadd hx hb dL_law_1205 ?_
  refine va_sld hx hb hX hbl hbA hI.2.2 g2 dL_law_1206 ?_
  refine lv_aload_n hx hb dL_law_1207 rfl (lv_at hl 0 rfl) ?_
  refine lv_iload_n hx hb dL_law_1208 rfl (lv_at hl 3 rfl) ?_
  refine lv_iconst (v := 3) hx hb dL_law_1209 (by decide) ?_
  refine lv_iadd hx hb dL_law_1210 ?_
  refine va_sld hx hb hX hbl hbA hI.2.2 g3 dL_law_1211 ?_
  refine lv_aload_n hx hb dL_law_1212 rfl (lv_at hl 0 rfl) ?_
  refine lv_iload_n hx hb dL_law_1213 rfl (lv_at hl 3 rfl) ?_
  refine lv_iconst (v := 4) hx hb dL_law_1214 (by decide) ?_
  refine lv_iadd hx hb dL_law_1215 ?_
  refine va_sld hx hb hX hbl hbA hI.2.2 g4 dL_law_1216 ?_
  obtain ⟨r7, e8, h⟩ := gw_bdE h
  have hI := gw_perm List.perm_append_comm hI
  refine gw_callVF (w := gw_cw cc a b d S) (wc := gw_mw cc am M) (As := [.int (xs (i + (1 : Int32)).toNatClampNeg), .int (xs (i + (2 : Int32)).toNatClampNeg), .int (xs (i + (3 : Int32)).toNatClampNeg), .int (xs (i + (4 : Int32)).toNatClampNeg)]) (n := 4) B hI (k_X9_asOf (xs (i + (1 : Int32)).toNatClampNeg) (xs (i + (2 : Int32)).toNatClampNeg) (xs (i + (3 : Int32)).toNatClampNeg) (xs (i + (4 : Int32)).toNatClampNeg) M e8) gL_law_X9_asOf rfl rfl rfl ndl_X9_asOf ⟨Nat.le_of_ble_eq_true rfl, Nat.le_of_ble_eq_true rfl⟩ gm_g0 rfl rfl rfl hl.1 (Nat.le_of_ble_eq_true rfl) dL_law_1217 ⟨by show cl + 0 + 0 ≤ 600000; omega, by show sl + 0 + 0 ≤ 7302250; omega⟩ rfl (fun w' H locs hw hI => ?_)
  subst hw
  have hI := gw_perm List.perm_append_comm hI
  refine lv_pop hx hb dL_law_1220 rfl ?_
  refine lv_goto (tgt := 1551) hx hb dL_law_1221 (by decide) ?_
  refine W.widen (k := cl + 7) (n := sl + 98) (by omega) (by omega) ?_
  exact hK S M h b d _ _ ls hI hl
set_option maxRecDepth 100000 in
set_option maxHeartbeats 4000000 in
theorem k_law_c26 {p : Program} {l : Launch} {e : Env} {s : State} {m : MethodId} {below : List Frame} {meth : Method} {c : Code} {D : va_G} {cc : Nat → ClassId} {t1 t2 b0 L : Nat} {A : Nat → Prop} {a am : Nat → Nat} {xs : Nat → Int32} (hX : va_X b0 L xs s s.heap) (hbl : b0 < s.heap.size) (hbA : ¬ A b0) (B : gw_B p s m #[Value.ref b0] meth c cL_law 4 wsL_law RL ret D (gw_ty cc) t1 t2 A) {i : Int32} {cl sl : Nat} (h1 : cl + 7 ≤ 600000) (h2 : sl + 98 ≤ 7302250) {K : gw_S → gw_S → Option Int32} (hK : ∀ (S M : gw_S), K S M = some 1 → ∀ (b d : Nat → Nat) (H : Heap) (locs : List Loc) (ls : Array Slot), gw_I D A s.heap (gw_mw cc am M ++ gw_cw cc a b d S) H locs → lv_has ls 4 [(0, .ref b0), (1, .ref (a 0)), (2, .ref (am 0)), (3, .int i)] → W p l e room_1 s m #[Value.ref b0] below meth c H locs (cl + 7) (sl + 98) (lw_Z below #[Value.ref b0] s) (F0 m 1551 ls [])) (S M : gw_S) (h : f_law_c26 xs L i K S M = some 1) (b d : Nat → Nat) (H : Heap) (locs : List Loc) (ls : Array Slot) (hI : gw_I D A s.heap (gw_mw cc am M ++ gw_cw cc a b d S) H locs) (hl : lv_has ls 4 [(0, .ref b0), (1, .ref (a 0)), (2, .ref (am 0)), (3, .int i)]) : W p l e room_1 s m #[Value.ref b0] below meth c H locs cl sl (lw_Z below #[Value.ref b0] s) (F0 m 1224 ls []) := by
  have hx := B.1.1
  have hb := B.1.2.1
  have hown : s.vm.findClass RL = some m.cls := B.1.2.2.2.1
  have hts := B.1.2.2.2.2
  unfold f_law_c26 at h
  refine lv_aload_n hx hb dL_law_1224 rfl (lv_at hl 1 rfl) ?_
  refine lv_aload_n hx hb dL_law_1225 rfl (lv_at hl 0 rfl) ?_
  refine lv_iload_n hx hb dL_law_1226 rfl (lv_at hl 3 rfl) ?_
  refine lv_iconst (v := 1) hx hb dL_law_1227 (by decide) ?_
  refine lv_iadd hx hb dL_law_1228 ?_
  obtain ⟨g1, h⟩ := gw_gdE h
  refine va_sld hx hb hX hbl hbA hI.2.2 g1 dL_law_1229 ?_
  refine lv_aload_n hx hb dL_law_1230 rfl (lv_at hl 0 rfl) ?_
  refine lv_iload_n hx hb dL_law_1231 rfl (lv_at hl 3 rfl) ?_
  refine lv_iconst (v := 2) hx hb dL_law_1232 (by decide) ?_
  refine lv_iadd hx hb dL_law_1233 ?_
  obtain ⟨g2, h⟩ := gw_gdE h
  refine va_sld hx hb hX hbl hbA hI.2.2 g2 dL_law_1234 ?_
  obtain ⟨r3, S5, e4, h⟩ := gw_b2E h
  refine gw_callVF (w := gw_mw cc am M) (wc := gw_cw cc a b d S) (As := [.int (xs (i + (1 : Int32)).toNatClampNeg), .int (xs (i + (2 : Int32)).toNatClampNeg)]) (n := 2) B hI (k_X8_out (xs (i + (1 : Int32)).toNatClampNeg) (xs (i + (2 : Int32)).toNatClampNeg) S e4) gL_law_X8_out rfl rfl rfl ndl_X8_out ⟨Nat.le_of_ble_eq_true rfl, Nat.le_of_ble_eq_true rfl⟩ gc_g0 rfl rfl rfl hl.1 (Nat.le_of_ble_eq_true rfl) dL_law_1235 ⟨by show cl + 0 + 0 ≤ 600000; omega, by show sl + 0 + 0 ≤ 7302250; omega⟩ rfl (fun w' H locs hw hI => ?_)
  subst hw
  refine lv_pop hx hb dL_law_1238 rfl ?_
  refine lv_aload_n hx hb dL_law_1239 rfl (lv_at hl 2 rfl) ?_
  refine lv_aload_n hx hb dL_law_1240 rfl (lv_at hl 0 rfl) ?_
  refine lv_iload_n hx hb dL_law_1241 rfl (lv_at hl 3 rfl) ?_
  refine lv_iconst (v := 1) hx hb dL_law_1242 (by decide) ?_
  refine lv_iadd hx hb dL_law_1243 ?_
  refine va_sld hx hb hX hbl hbA hI.2.2 g1 dL_law_1244 ?_
  refine lv_aload_n hx hb dL_law_1245 rfl (lv_at hl 0 rfl) ?_
  refine lv_iload_n hx hb dL_law_1246 rfl (lv_at hl 3 rfl) ?_
  refine lv_iconst (v := 2) hx hb dL_law_1247 (by decide) ?_
  refine lv_iadd hx hb dL_law_1248 ?_
  refine va_sld hx hb hX hbl hbA hI.2.2 g2 dL_law_1249 ?_
  obtain ⟨r6, M8, e7, h⟩ := gw_b2E h
  have hI := gw_perm List.perm_append_comm hI
  refine gw_callVF (w := gw_cw cc a b d S5) (wc := gw_mw cc am M) (As := [.int (xs (i + (1 : Int32)).toNatClampNeg), .int (xs (i + (2 : Int32)).toNatClampNeg)]) (n := 2) B hI (k_X9_out (xs (i + (1 : Int32)).toNatClampNeg) (xs (i + (2 : Int32)).toNatClampNeg) M e7) gL_law_X9_out rfl rfl rfl ndl_X9_out ⟨Nat.le_of_ble_eq_true rfl, Nat.le_of_ble_eq_true rfl⟩ gm_g0 rfl rfl rfl hl.1 (Nat.le_of_ble_eq_true rfl) dL_law_1250 ⟨by show cl + 0 + 0 ≤ 600000; omega, by show sl + 0 + 0 ≤ 7302250; omega⟩ rfl (fun w' H locs hw hI => ?_)
  subst hw
  have hI := gw_perm List.perm_append_comm hI
  refine lv_pop hx hb dL_law_1253 rfl ?_
  refine lv_goto (tgt := 1551) hx hb dL_law_1254 (by decide) ?_
  refine W.widen (k := cl + 7) (n := sl + 98) (by omega) (by omega) ?_
  exact hK S5 M8 h b d _ _ ls hI hl
set_option maxRecDepth 100000 in
set_option maxHeartbeats 4000000 in
theorem k_law_c27 {p : Program} {l : Launch} {e : Env} {s : State} {m : MethodId} {below : List Frame} {meth : Method} {c : Code} {D : va_G} {cc : Nat → ClassId} {t1 t2 b0 L : Nat} {A : Nat → Prop} {a am : Nat → Nat} {xs : Nat → Int32} (hX : va_X b0 L xs s s.heap) (hbl : b0 < s.heap.size) (hbA : ¬ A b0) (B : gw_B p s m #[Value.ref b0] meth c cL_law 4 wsL_law RL ret D (gw_ty cc) t1 t2 A) {i : Int32} {cl sl : Nat} (h1 : cl + 7 ≤ 600000) (h2 : sl + 98 ≤ 7302250) {K : gw_S → gw_S → Option Int32} (hK : ∀ (S M : gw_S), K S M = some 1 → ∀ (b d : Nat → Nat) (H : Heap) (locs : List Loc) (ls : Array Slot), gw_I D A s.heap (gw_mw cc am M ++ gw_cw cc a b d S) H locs → lv_has ls 4 [(0, .ref b0), (1, .ref (a 0)), (2, .ref (am 0)), (3, .int i)] → W p l e room_1 s m #[Value.ref b0] below meth c H locs (cl + 7) (sl + 98) (lw_Z below #[Value.ref b0] s) (F0 m 1551 ls [])) (S M : gw_S) (h : f_law_c27 xs L i K S M = some 1) (b d : Nat → Nat) (H : Heap) (locs : List Loc) (ls : Array Slot) (hI : gw_I D A s.heap (gw_mw cc am M ++ gw_cw cc a b d S) H locs) (hl : lv_has ls 4 [(0, .ref b0), (1, .ref (a 0)), (2, .ref (am 0)), (3, .int i)]) : W p l e room_1 s m #[Value.ref b0] below meth c H locs cl sl (lw_Z below #[Value.ref b0] s) (F0 m 1257 ls []) := by
  have hx := B.1.1
  have hb := B.1.2.1
  have hown : s.vm.findClass RL = some m.cls := B.1.2.2.2.1
  have hts := B.1.2.2.2.2
  unfold f_law_c27 at h
  refine lv_aload_n hx hb dL_law_1257 rfl (lv_at hl 1 rfl) ?_
  refine lv_aload_n hx hb dL_law_1258 rfl (lv_at hl 0 rfl) ?_
  refine lv_iload_n hx hb dL_law_1259 rfl (lv_at hl 3 rfl) ?_
  refine lv_iconst (v := 1) hx hb dL_law_1260 (by decide) ?_
  refine lv_iadd hx hb dL_law_1261 ?_
  obtain ⟨g1, h⟩ := gw_gdE h
  refine va_sld hx hb hX hbl hbA hI.2.2 g1 dL_law_1262 ?_
  refine lv_aload_n hx hb dL_law_1263 rfl (lv_at hl 0 rfl) ?_
  refine lv_iload_n hx hb dL_law_1264 rfl (lv_at hl 3 rfl) ?_
  refine lv_iconst (v := 2) hx hb dL_law_1265 (by decide) ?_
  refine lv_iadd hx hb dL_law_1266 ?_
  obtain ⟨g2, h⟩ := gw_gdE h
  refine va_sld hx hb hX hbl hbA hI.2.2 g2 dL_law_1267 ?_
  refine lv_aload_n hx hb dL_law_1268 rfl (lv_at hl 0 rfl) ?_
  refine lv_iload_n hx hb dL_law_1269 rfl (lv_at hl 3 rfl) ?_
  refine lv_iconst (v := 3) hx hb dL_law_1270 (by decide) ?_
  refine lv_iadd hx hb dL_law_1271 ?_
  obtain ⟨g3, h⟩ := gw_gdE h
  refine va_sld hx hb hX hbl hbA hI.2.2 g3 dL_law_1272 ?_
  obtain ⟨r4, S6, e5, h⟩ := gw_b2E h
  refine gw_callVF (w := gw_mw cc am M) (wc := gw_cw cc a b d S) (As := [.int (xs (i + (1 : Int32)).toNatClampNeg), .int (xs (i + (2 : Int32)).toNatClampNeg), .int (xs (i + (3 : Int32)).toNatClampNeg)]) (n := 3) B hI (k_X8_home (xs (i + (1 : Int32)).toNatClampNeg) (xs (i + (2 : Int32)).toNatClampNeg) (xs (i + (3 : Int32)).toNatClampNeg) S e5) gL_law_X8_home rfl rfl rfl ndl_X8_home ⟨Nat.le_of_ble_eq_true rfl, Nat.le_of_ble_eq_true rfl⟩ gc_g0 rfl rfl rfl hl.1 (Nat.le_of_ble_eq_true rfl) dL_law_1273 ⟨by show cl + 0 + 0 ≤ 600000; omega, by show sl + 0 + 0 ≤ 7302250; omega⟩ rfl (fun w' H locs hw hI => ?_)
  subst hw
  refine lv_pop hx hb dL_law_1276 rfl ?_
  refine lv_aload_n hx hb dL_law_1277 rfl (lv_at hl 2 rfl) ?_
  refine lv_aload_n hx hb dL_law_1278 rfl (lv_at hl 0 rfl) ?_
  refine lv_iload_n hx hb dL_law_1279 rfl (lv_at hl 3 rfl) ?_
  refine lv_iconst (v := 1) hx hb dL_law_1280 (by decide) ?_
  refine lv_iadd hx hb dL_law_1281 ?_
  refine va_sld hx hb hX hbl hbA hI.2.2 g1 dL_law_1282 ?_
  refine lv_aload_n hx hb dL_law_1283 rfl (lv_at hl 0 rfl) ?_
  refine lv_iload_n hx hb dL_law_1284 rfl (lv_at hl 3 rfl) ?_
  refine lv_iconst (v := 2) hx hb dL_law_1285 (by decide) ?_
  refine lv_iadd hx hb dL_law_1286 ?_
  refine va_sld hx hb hX hbl hbA hI.2.2 g2 dL_law_1287 ?_
  refine lv_aload_n hx hb dL_law_1288 rfl (lv_at hl 0 rfl) ?_
  refine lv_iload_n hx hb dL_law_1289 rfl (lv_at hl 3 rfl) ?_
  refine lv_iconst (v := 3) hx hb dL_law_1290 (by decide) ?_
  refine lv_iadd hx hb dL_law_1291 ?_
  refine va_sld hx hb hX hbl hbA hI.2.2 g3 dL_law_1292 ?_
  obtain ⟨r7, M9, e8, h⟩ := gw_b2E h
  have hI := gw_perm List.perm_append_comm hI
  refine gw_callVF (w := gw_cw cc a b d S6) (wc := gw_mw cc am M) (As := [.int (xs (i + (1 : Int32)).toNatClampNeg), .int (xs (i + (2 : Int32)).toNatClampNeg), .int (xs (i + (3 : Int32)).toNatClampNeg)]) (n := 3) B hI (k_X9_home (xs (i + (1 : Int32)).toNatClampNeg) (xs (i + (2 : Int32)).toNatClampNeg) (xs (i + (3 : Int32)).toNatClampNeg) M e8) gL_law_X9_home rfl rfl rfl ndl_X9_home ⟨Nat.le_of_ble_eq_true rfl, Nat.le_of_ble_eq_true rfl⟩ gm_g0 rfl rfl rfl hl.1 (Nat.le_of_ble_eq_true rfl) dL_law_1293 ⟨by show cl + 0 + 0 ≤ 600000; omega, by show sl + 0 + 0 ≤ 7302250; omega⟩ rfl (fun w' H locs hw hI => ?_)
  subst hw
  have hI := gw_perm List.perm_append_comm hI
  refine lv_pop hx hb dL_law_1296 rfl ?_
  refine lv_goto (tgt := 1551) hx hb dL_law_1297 (by decide) ?_
  refine W.widen (k := cl + 7) (n := sl + 98) (by omega) (by omega) ?_
  exact hK S6 M9 h b d _ _ ls hI hl
set_option maxRecDepth 100000 in
set_option maxHeartbeats 4000000 in
theorem k_law_c28 {p : Program} {l : Launch} {e : Env} {s : State} {m : MethodId} {below : List Frame} {meth : Method} {c : Code} {D : va_G} {cc : Nat → ClassId} {t1 t2 b0 L : Nat} {A : Nat → Prop} {a am : Nat → Nat} {xs : Nat → Int32} (hX : va_X b0 L xs s s.heap) (hbl : b0 < s.heap.size) (hbA : ¬ A b0) (B : gw_B p s m #[Value.ref b0] meth c cL_law 4 wsL_law RL ret D (gw_ty cc) t1 t2 A) {i : Int32} {cl sl : Nat} (h1 : cl + 7 ≤ 600000) (h2 : sl + 98 ≤ 7302250) {K : gw_S → gw_S → Option Int32} (hK : ∀ (S M : gw_S), K S M = some 1 → ∀ (b d : Nat → Nat) (H : Heap) (locs : List Loc) (ls : Array Slot), gw_I D A s.heap (gw_mw cc am M ++ gw_cw cc a b d S) H locs → lv_has ls 4 [(0, .ref b0), (1, .ref (a 0)), (2, .ref (am 0)), (3, .int i)] → W p l e room_1 s m #[Value.ref b0] below meth c H locs (cl + 7) (sl + 98) (lw_Z below #[Value.ref b0] s) (F0 m 1551 ls [])) (S M : gw_S) (h : f_law_c28 xs L i K S M = some 1) (b d : Nat → Nat) (H : Heap) (locs : List Loc) (ls : Array Slot) (hI : gw_I D A s.heap (gw_mw cc am M ++ gw_cw cc a b d S) H locs) (hl : lv_has ls 4 [(0, .ref b0), (1, .ref (a 0)), (2, .ref (am 0)), (3, .int i)]) : W p l e room_1 s m #[Value.ref b0] below meth c H locs cl sl (lw_Z below #[Value.ref b0] s) (F0 m 1300 ls []) := by
  have hx := B.1.1
  have hb := B.1.2.1
  have hown : s.vm.findClass RL = some m.cls := B.1.2.2.2.1
  have hts := B.1.2.2.2.2
  unfold f_law_c28 at h
  refine lv_aload_n hx hb dL_law_1300 rfl (lv_at hl 1 rfl) ?_
  refine lv_aload_n hx hb dL_law_1301 rfl (lv_at hl 0 rfl) ?_
  refine lv_iload_n hx hb dL_law_1302 rfl (lv_at hl 3 rfl) ?_
  refine lv_iconst (v := 1) hx hb dL_law_1303 (by decide) ?_
  refine lv_iadd hx hb dL_law_1304 ?_
  obtain ⟨g1, h⟩ := gw_gdE h
  refine va_sld hx hb hX hbl hbA hI.2.2 g1 dL_law_1305 ?_
  refine lv_aload_n hx hb dL_law_1306 rfl (lv_at hl 0 rfl) ?_
  refine lv_iload_n hx hb dL_law_1307 rfl (lv_at hl 3 rfl) ?_
  refine lv_iconst (v := 2) hx hb dL_law_1308 (by decide) ?_
  refine lv_iadd hx hb dL_law_1309 ?_
  obtain ⟨g2, h⟩ := gw_gdE h
  refine va_sld hx hb hX hbl hbA hI.2.2 g2 dL_law_1310 ?_
  obtain ⟨r3, e4, h⟩ := gw_bdE h
  refine gw_callVF (w := gw_mw cc am M) (wc := gw_cw cc a b d S) (As := [.int (xs (i + (1 : Int32)).toNatClampNeg), .int (xs (i + (2 : Int32)).toNatClampNeg)]) (n := 2) B hI (k_X8_about (xs (i + (1 : Int32)).toNatClampNeg) (xs (i + (2 : Int32)).toNatClampNeg) S e4) gL_law_X8_about rfl rfl rfl ndl_X8_about ⟨Nat.le_of_ble_eq_true rfl, Nat.le_of_ble_eq_true rfl⟩ gc_g0 rfl rfl rfl hl.1 (Nat.le_of_ble_eq_true rfl) dL_law_1311 ⟨by show cl + 0 + 0 ≤ 600000; omega, by show sl + 0 + 0 ≤ 7302250; omega⟩ rfl (fun w' H locs hw hI => ?_)
  subst hw
  refine lv_pop hx hb dL_law_1314 rfl ?_
  refine lv_aload_n hx hb dL_law_1315 rfl (lv_at hl 2 rfl) ?_
  refine lv_aload_n hx hb dL_law_1316 rfl (lv_at hl 0 rfl) ?_
  refine lv_iload_n hx hb dL_law_1317 rfl (lv_at hl 3 rfl) ?_
  refine lv_iconst (v := 1) hx hb dL_law_1318 (by decide) ?_
  refine lv_iadd hx hb dL_law_1319 ?_
  refine va_sld hx hb hX hbl hbA hI.2.2 g1 dL_law_1320 ?_
  refine lv_aload_n hx hb dL_law_1321 rfl (lv_at hl 0 rfl) ?_
  refine lv_iload_n hx hb dL_law_1322 rfl (lv_at hl 3 rfl) ?_
  refine lv_iconst (v := 2) hx hb dL_law_1323 (by decide) ?_
  refine lv_iadd hx hb dL_law_1324 ?_
  refine va_sld hx hb hX hbl hbA hI.2.2 g2 dL_law_1325 ?_
  obtain ⟨r5, e6, h⟩ := gw_bdE h
  have hI := gw_perm List.perm_append_comm hI
  refine gw_callVF (w := gw_cw cc a b d S) (wc := gw_mw cc am M) (As := [.int (xs (i + (1 : Int32)).toNatClampNeg), .int (xs (i + (2 : Int32)).toNatClampNeg)]) (n := 2) B hI (k_X9_about (xs (i + (1 : Int32)).toNatClampNeg) (xs (i + (2 : Int32)).toNatClampNeg) M e6) gL_law_X9_about rfl rfl rfl ndl_X9_about ⟨Nat.le_of_ble_eq_true rfl, Nat.le_of_ble_eq_true rfl⟩ gm_g0 rfl rfl rfl hl.1 (Nat.le_of_ble_eq_true rfl) dL_law_1326 ⟨by show cl + 0 + 0 ≤ 600000; omega, by show sl + 0 + 0 ≤ 7302250; omega⟩ rfl (fun w' H locs hw hI => ?_)
  subst hw
  have hI := gw_perm List.perm_append_comm hI
  refine lv_pop hx hb dL_law_1329 rfl ?_
  refine lv_goto (tgt := 1551) hx hb dL_law_1330 (by decide) ?_
  refine W.widen (k := cl + 7) (n := sl + 98) (by omega) (by omega) ?_
  exact hK S M h b d _ _ ls hI hl
set_option maxRecDepth 100000 in
set_option maxHeartbeats 4000000 in
theorem k_law_c29 {p : Program} {l : Launch} {e : Env} {s : State} {m : MethodId} {below : List Frame} {meth : Method} {c : Code} {D : va_G} {cc : Nat → ClassId} {t1 t2 b0 L : Nat} {A : Nat → Prop} {a am : Nat → Nat} {xs : Nat → Int32} (hX : va_X b0 L xs s s.heap) (hbl : b0 < s.heap.size) (hbA : ¬ A b0) (B : gw_B p s m #[Value.ref b0] meth c cL_law 4 wsL_law RL ret D (gw_ty cc) t1 t2 A) {i : Int32} {cl sl : Nat} (h1 : cl + 7 ≤ 600000) (h2 : sl + 98 ≤ 7302250) {K : gw_S → gw_S → Option Int32} (hK : ∀ (S M : gw_S), K S M = some 1 → ∀ (b d : Nat → Nat) (H : Heap) (locs : List Loc) (ls : Array Slot), gw_I D A s.heap (gw_mw cc am M ++ gw_cw cc a b d S) H locs → lv_has ls 4 [(0, .ref b0), (1, .ref (a 0)), (2, .ref (am 0)), (3, .int i)] → W p l e room_1 s m #[Value.ref b0] below meth c H locs (cl + 7) (sl + 98) (lw_Z below #[Value.ref b0] s) (F0 m 1551 ls [])) (S M : gw_S) (h : f_law_c29 xs L i K S M = some 1) (b d : Nat → Nat) (H : Heap) (locs : List Loc) (ls : Array Slot) (hI : gw_I D A s.heap (gw_mw cc am M ++ gw_cw cc a b d S) H locs) (hl : lv_has ls 4 [(0, .ref b0), (1, .ref (a 0)), (2, .ref (am 0)), (3, .int i)]) : W p l e room_1 s m #[Value.ref b0] below meth c H locs cl sl (lw_Z below #[Value.ref b0] s) (F0 m 1333 ls []) := by
  have hx := B.1.1
  have hb := B.1.2.1
  have hown : s.vm.findClass RL = some m.cls := B.1.2.2.2.1
  have hts := B.1.2.2.2.2
  unfold f_law_c29 at h
  refine lv_aload_n hx hb dL_law_1333 rfl (lv_at hl 1 rfl) ?_
  refine lv_aload_n hx hb dL_law_1334 rfl (lv_at hl 0 rfl) ?_
  refine lv_iload_n hx hb dL_law_1335 rfl (lv_at hl 3 rfl) ?_
  refine lv_iconst (v := 1) hx hb dL_law_1336 (by decide) ?_
  refine lv_iadd hx hb dL_law_1337 ?_
  obtain ⟨g1, h⟩ := gw_gdE h
  refine va_sld hx hb hX hbl hbA hI.2.2 g1 dL_law_1338 ?_
  obtain ⟨r2, S4, e3, h⟩ := gw_b2E h
  refine gw_callVF (w := gw_mw cc am M) (wc := gw_cw cc a b d S) (As := [.int (xs (i + (1 : Int32)).toNatClampNeg)]) (n := 1) B hI (k_X8_retire (xs (i + (1 : Int32)).toNatClampNeg) S e3) gL_law_X8_retire rfl rfl rfl ndl_X8_retire ⟨Nat.le_of_ble_eq_true rfl, Nat.le_of_ble_eq_true rfl⟩ gc_g0 rfl rfl rfl hl.1 (Nat.le_of_ble_eq_true rfl) dL_law_1339 ⟨by show cl + 0 + 0 ≤ 600000; omega, by show sl + 0 + 0 ≤ 7302250; omega⟩ rfl (fun w' H locs hw hI => ?_)
  subst hw
  refine lv_pop hx hb dL_law_1342 rfl ?_
  refine lv_aload_n hx hb dL_law_1343 rfl (lv_at hl 2 rfl) ?_
  refine lv_aload_n hx hb dL_law_1344 rfl (lv_at hl 0 rfl) ?_
  refine lv_iload_n hx hb dL_law_1345 rfl (lv_at hl 3 rfl) ?_
  refine lv_iconst (v := 1) hx hb dL_law_1346 (by decide) ?_
  refine lv_iadd hx hb dL_law_1347 ?_
  refine va_sld hx hb hX hbl hbA hI.2.2 g1 dL_law_1348 ?_
  obtain ⟨r5, M7, e6, h⟩ := gw_b2E h
  have hI := gw_perm List.perm_append_comm hI
  refine gw_callVF (w := gw_cw cc a b d S4) (wc := gw_mw cc am M) (As := [.int (xs (i + (1 : Int32)).toNatClampNeg)]) (n := 1) B hI (k_X9_retire (xs (i + (1 : Int32)).toNatClampNeg) M e6) gL_law_X9_retire rfl rfl rfl ndl_X9_retire ⟨Nat.le_of_ble_eq_true rfl, Nat.le_of_ble_eq_true rfl⟩ gm_g0 rfl rfl rfl hl.1 (Nat.le_of_ble_eq_true rfl) dL_law_1349 ⟨by show cl + 0 + 0 ≤ 600000; omega, by show sl + 0 + 0 ≤ 7302250; omega⟩ rfl (fun w' H locs hw hI => ?_)
  subst hw
  have hI := gw_perm List.perm_append_comm hI
  refine lv_pop hx hb dL_law_1352 rfl ?_
  refine lv_goto (tgt := 1551) hx hb dL_law_1353 (by decide) ?_
  refine W.widen (k := cl + 7) (n := sl + 98) (by omega) (by omega) ?_
  exact hK S4 M7 h b d _ _ ls hI hl
set_option maxRecDepth 100000 in
set_option maxHeartbeats 4000000 in
theorem k_law_c30 {p : Program} {l : Launch} {e : Env} {s : State} {m : MethodId} {below : List Frame} {meth : Method} {c : Code} {D : va_G} {cc : Nat → ClassId} {t1 t2 b0 L : Nat} {A : Nat → Prop} {a am : Nat → Nat} {xs : Nat → Int32} (hX : va_X b0 L xs s s.heap) (hbl : b0 < s.heap.size) (hbA : ¬ A b0) (B : gw_B p s m #[Value.ref b0] meth c cL_law 4 wsL_law RL ret D (gw_ty cc) t1 t2 A) {i : Int32} {cl sl : Nat} (h1 : cl + 7 ≤ 600000) (h2 : sl + 98 ≤ 7302250) {K : gw_S → gw_S → Option Int32} (hK : ∀ (S M : gw_S), K S M = some 1 → ∀ (b d : Nat → Nat) (H : Heap) (locs : List Loc) (ls : Array Slot), gw_I D A s.heap (gw_mw cc am M ++ gw_cw cc a b d S) H locs → lv_has ls 4 [(0, .ref b0), (1, .ref (a 0)), (2, .ref (am 0)), (3, .int i)] → W p l e room_1 s m #[Value.ref b0] below meth c H locs (cl + 7) (sl + 98) (lw_Z below #[Value.ref b0] s) (F0 m 1551 ls [])) (S M : gw_S) (h : f_law_c30 xs L i K S M = some 1) (b d : Nat → Nat) (H : Heap) (locs : List Loc) (ls : Array Slot) (hI : gw_I D A s.heap (gw_mw cc am M ++ gw_cw cc a b d S) H locs) (hl : lv_has ls 4 [(0, .ref b0), (1, .ref (a 0)), (2, .ref (am 0)), (3, .int i)]) : W p l e room_1 s m #[Value.ref b0] below meth c H locs cl sl (lw_Z below #[Value.ref b0] s) (F0 m 1356 ls []) := by
  have hx := B.1.1
  have hb := B.1.2.1
  have hown : s.vm.findClass RL = some m.cls := B.1.2.2.2.1
  have hts := B.1.2.2.2.2
  unfold f_law_c30 at h
  refine lv_aload_n hx hb dL_law_1356 rfl (lv_at hl 1 rfl) ?_
  refine lv_aload_n hx hb dL_law_1357 rfl (lv_at hl 0 rfl) ?_
  refine lv_iload_n hx hb dL_law_1358 rfl (lv_at hl 3 rfl) ?_
  refine lv_iconst (v := 1) hx hb dL_law_1359 (by decide) ?_
  refine lv_iadd hx hb dL_law_1360 ?_
  obtain ⟨g1, h⟩ := gw_gdE h
  refine va_sld hx hb hX hbl hbA hI.2.2 g1 dL_law_1361 ?_
  obtain ⟨r2, e3, h⟩ := gw_bdE h
  refine gw_callVF (w := gw_mw cc am M) (wc := gw_cw cc a b d S) (As := [.int (xs (i + (1 : Int32)).toNatClampNeg)]) (n := 1) B hI (k_X8_count (xs (i + (1 : Int32)).toNatClampNeg) S e3) gL_law_X8_count rfl rfl rfl ndl_X8_count ⟨Nat.le_of_ble_eq_true rfl, Nat.le_of_ble_eq_true rfl⟩ gc_g0 rfl rfl rfl hl.1 (Nat.le_of_ble_eq_true rfl) dL_law_1362 ⟨by show cl + 0 + 0 ≤ 600000; omega, by show sl + 0 + 0 ≤ 7302250; omega⟩ rfl (fun w' H locs hw hI => ?_)
  subst hw
  refine lv_pop hx hb dL_law_1365 rfl ?_
  refine lv_aload_n hx hb dL_law_1366 rfl (lv_at hl 2 rfl) ?_
  refine lv_aload_n hx hb dL_law_1367 rfl (lv_at hl 0 rfl) ?_
  refine lv_iload_n hx hb dL_law_1368 rfl (lv_at hl 3 rfl) ?_
  refine lv_iconst (v := 1) hx hb dL_law_1369 (by decide) ?_
  refine lv_iadd hx hb dL_law_1370 ?_
  refine va_sld hx hb hX hbl hbA hI.2.2 g1 dL_law_1371 ?_
  obtain ⟨r4, e5, h⟩ := gw_bdE h
  have hI := gw_perm List.perm_append_comm hI
  refine gw_callVF (w := gw_cw cc a b d S) (wc := gw_mw cc am M) (As := [.int (xs (i + (1 : Int32)).toNatClampNeg)]) (n := 1) B hI (k_X9_count (xs (i + (1 : Int32)).toNatClampNeg) M e5) gL_law_X9_count rfl rfl rfl ndl_X9_count ⟨Nat.le_of_ble_eq_true rfl, Nat.le_of_ble_eq_true rfl⟩ gm_g0 rfl rfl rfl hl.1 (Nat.le_of_ble_eq_true rfl) dL_law_1372 ⟨by show cl + 0 + 0 ≤ 600000; omega, by show sl + 0 + 0 ≤ 7302250; omega⟩ rfl (fun w' H locs hw hI => ?_)
  subst hw
  have hI := gw_perm List.perm_append_comm hI
  refine lv_pop hx hb dL_law_1375 rfl ?_
  refine lv_goto (tgt := 1551) hx hb dL_law_1376 (by decide) ?_
  refine W.widen (k := cl + 7) (n := sl + 98) (by omega) (by omega) ?_
  exact hK S M h b d _ _ ls hI hl
set_option maxRecDepth 100000 in
set_option maxHeartbeats 4000000 in
theorem k_law_c31 {p : Program} {l : Launch} {e : Env} {s : State} {m : MethodId} {below : List Frame} {meth : Method} {c : Code} {D : va_G} {cc : Nat → ClassId} {t1 t2 b0 L : Nat} {A : Nat → Prop} {a am : Nat → Nat} {xs : Nat → Int32} (hX : va_X b0 L xs s s.heap) (hbl : b0 < s.heap.size) (hbA : ¬ A b0) (B : gw_B p s m #[Value.ref b0] meth c cL_law 4 wsL_law RL ret D (gw_ty cc) t1 t2 A) {i : Int32} {cl sl : Nat} (h1 : cl + 7 ≤ 600000) (h2 : sl + 98 ≤ 7302250) {K : gw_S → gw_S → Option Int32} (hK : ∀ (S M : gw_S), K S M = some 1 → ∀ (b d : Nat → Nat) (H : Heap) (locs : List Loc) (ls : Array Slot), gw_I D A s.heap (gw_mw cc am M ++ gw_cw cc a b d S) H locs → lv_has ls 4 [(0, .ref b0), (1, .ref (a 0)), (2, .ref (am 0)), (3, .int i)] → W p l e room_1 s m #[Value.ref b0] below meth c H locs (cl + 7) (sl + 98) (lw_Z below #[Value.ref b0] s) (F0 m 1551 ls [])) (S M : gw_S) (h : f_law_c31 xs L i K S M = some 1) (b d : Nat → Nat) (H : Heap) (locs : List Loc) (ls : Array Slot) (hI : gw_I D A s.heap (gw_mw cc am M ++ gw_cw cc a b d S) H locs) (hl : lv_has ls 4 [(0, .ref b0), (1, .ref (a 0)), (2, .ref (am 0)), (3, .int i)]) : W p l e room_1 s m #[Value.ref b0] below meth c H locs cl sl (lw_Z below #[Value.ref b0] s) (F0 m 1379 ls []) := by
  have hx := B.1.1
  have hb := B.1.2.1
  have hown : s.vm.findClass RL = some m.cls := B.1.2.2.2.1
  have hts := B.1.2.2.2.2
  unfold f_law_c31 at h
  refine lv_aload_n hx hb dL_law_1379 rfl (lv_at hl 1 rfl) ?_
  refine lv_aload_n hx hb dL_law_1380 rfl (lv_at hl 0 rfl) ?_
  refine lv_iload_n hx hb dL_law_1381 rfl (lv_at hl 3 rfl) ?_
  refine lv_iconst (v := 1) hx hb dL_law_1382 (by decide) ?_
  refine lv_iadd hx hb dL_law_1383 ?_
  obtain ⟨g1, h⟩ := gw_gdE h
  refine va_sld hx hb hX hbl hbA hI.2.2 g1 dL_law_1384 ?_
  refine lv_aload_n hx hb dL_law_1385 rfl (lv_at hl 0 rfl) ?_
  refine lv_iload_n hx hb dL_law_1386 rfl (lv_at hl 3 rfl) ?_
  refine lv_iconst (v := 2) hx hb dL_law_1387 (by decide) ?_
  refine lv_iadd hx hb dL_law_1388 ?_
  obtain ⟨g2, h⟩ := gw_gdE h
  refine va_sld hx hb hX hbl hbA hI.2.2 g2 dL_law_1389 ?_
  refine lv_aload_n hx hb dL_law_1390 rfl (lv_at hl 0 rfl) ?_
  refine lv_iload_n hx hb dL_law_1391 rfl (lv_at hl 3 rfl) ?_
  refine lv_iconst (v := 3) hx hb dL_law_1392 (by decide) ?_
  refine lv_iadd hx hb dL_law_1393 ?_
  obtain ⟨g3, h⟩ := gw_gdE h
  refine va_sld hx hb hX hbl hbA hI.2.2 g3 dL_law_1394 ?_
  obtain ⟨r4, S6, e5, h⟩ := gw_b2E h
  refine gw_callVF (w := gw_mw cc am M) (wc := gw_cw cc a b d S) (As := [.int (xs (i + (1 : Int32)).toNatClampNeg), .int (xs (i + (2 : Int32)).toNatClampNeg), .int (xs (i + (3 : Int32)).toNatClampNeg)]) (n := 3) B hI (k_X8_sheet (xs (i + (1 : Int32)).toNatClampNeg) (xs (i + (2 : Int32)).toNatClampNeg) (xs (i + (3 : Int32)).toNatClampNeg) S e5) gL_law_X8_sheet rfl rfl rfl ndl_X8_sheet ⟨Nat.le_of_ble_eq_true rfl, Nat.le_of_ble_eq_true rfl⟩ gc_g0 rfl rfl rfl hl.1 (Nat.le_of_ble_eq_true rfl) dL_law_1395 ⟨by show cl + 0 + 0 ≤ 600000; omega, by show sl + 0 + 0 ≤ 7302250; omega⟩ rfl (fun w' H locs hw hI => ?_)
  subst hw
  refine lv_pop hx hb dL_law_1398 rfl ?_
  refine lv_aload_n hx hb dL_law_1399 rfl (lv_at hl 2 rfl) ?_
  refine lv_aload_n hx hb dL_law_1400 rfl (lv_at hl 0 rfl) ?_
  refine lv_iload_n hx hb dL_law_1401 rfl (lv_at hl 3 rfl) ?_
  refine lv_iconst (v := 1) hx hb dL_law_1402 (by decide) ?_
  refine lv_iadd hx hb dL_law_1403 ?_
  refine va_sld hx hb hX hbl hbA hI.2.2 g1 dL_law_1404 ?_
  refine lv_aload_n hx hb dL_law_1405 rfl (lv_at hl 0 rfl) ?_
  refine lv_iload_n hx hb dL_law_1406 rfl (lv_at hl 3 rfl) ?_
  refine lv_iconst (v := 2) hx hb dL_law_1407 (by decide) ?_
  refine lv_iadd hx hb dL_law_1408 ?_
  refine va_sld hx hb hX hbl hbA hI.2.2 g2 dL_law_1409 ?_
  refine lv_aload_n hx hb dL_law_1410 rfl (lv_at hl 0 rfl) ?_
  refine lv_iload_n hx hb dL_law_1411 rfl (lv_at hl 3 rfl) ?_
  refine lv_iconst (v := 3) hx hb dL_law_1412 (by decide) ?_
  refine lv_iadd hx hb dL_law_1413 ?_
  refine va_sld hx hb hX hbl hbA hI.2.2 g3 dL_law_1414 ?_
  obtain ⟨r7, M9, e8, h⟩ := gw_b2E h
  have hI := gw_perm List.perm_append_comm hI
  refine gw_callVF (w := gw_cw cc a b d S6) (wc := gw_mw cc am M) (As := [.int (xs (i + (1 : Int32)).toNatClampNeg), .int (xs (i + (2 : Int32)).toNatClampNeg), .int (xs (i + (3 : Int32)).toNatClampNeg)]) (n := 3) B hI (k_X9_sheet (xs (i + (1 : Int32)).toNatClampNeg) (xs (i + (2 : Int32)).toNatClampNeg) (xs (i + (3 : Int32)).toNatClampNeg) M e8) gL_law_X9_sheet rfl rfl rfl ndl_X9_sheet ⟨Nat.le_of_ble_eq_true rfl, Nat.le_of_ble_eq_true rfl⟩ gm_g0 rfl rfl rfl hl.1 (Nat.le_of_ble_eq_true rfl) dL_law_1415 ⟨by show cl + 0 + 0 ≤ 600000; omega, by show sl + 0 + 0 ≤ 7302250; omega⟩ rfl (fun w' H locs hw hI => ?_)
  subst hw
  have hI := gw_perm List.perm_append_comm hI
  refine lv_pop hx hb dL_law_1418 rfl ?_
  refine lv_goto (tgt := 1551) hx hb dL_law_1419 (by decide) ?_
  refine W.widen (k := cl + 7) (n := sl + 98) (by omega) (by omega) ?_
  exact hK S6 M9 h b d _ _ ls hI hl
set_option maxRecDepth 100000 in
set_option maxHeartbeats 4000000 in
theorem k_law_c32 {p : Program} {l : Launch} {e : Env} {s : State} {m : MethodId} {below : List Frame} {meth : Method} {c : Code} {D : va_G} {cc : Nat → ClassId} {t1 t2 b0 L : Nat} {A : Nat → Prop} {a am : Nat → Nat} {xs : Nat → Int32} (hX : va_X b0 L xs s s.heap) (hbl : b0 < s.heap.size) (hbA : ¬ A b0) (B : gw_B p s m #[Value.ref b0] meth c cL_law 4 wsL_law RL ret D (gw_ty cc) t1 t2 A) {i : Int32} {cl sl : Nat} (h1 : cl + 7 ≤ 600000) (h2 : sl + 98 ≤ 7302250) {K : gw_S → gw_S → Option Int32} (hK : ∀ (S M : gw_S), K S M = some 1 → ∀ (b d : Nat → Nat) (H : Heap) (locs : List Loc) (ls : Array Slot), gw_I D A s.heap (gw_mw cc am M ++ gw_cw cc a b d S) H locs → lv_has ls 4 [(0, .ref b0), (1, .ref (a 0)), (2, .ref (am 0)), (3, .int i)] → W p l e room_1 s m #[Value.ref b0] below meth c H locs (cl + 7) (sl + 98) (lw_Z below #[Value.ref b0] s) (F0 m 1551 ls [])) (S M : gw_S) (h : f_law_c32 xs L i K S M = some 1) (b d : Nat → Nat) (H : Heap) (locs : List Loc) (ls : Array Slot) (hI : gw_I D A s.heap (gw_mw cc am M ++ gw_cw cc a b d S) H locs) (hl : lv_has ls 4 [(0, .ref b0), (1, .ref (a 0)), (2, .ref (am 0)), (3, .int i)]) : W p l e room_1 s m #[Value.ref b0] below meth c H locs cl sl (lw_Z below #[Value.ref b0] s) (F0 m 1422 ls []) := by
  have hx := B.1.1
  have hb := B.1.2.1
  have hown : s.vm.findClass RL = some m.cls := B.1.2.2.2.1
  have hts := B.1.2.2.2.2
  unfold f_law_c32 at h
  refine lv_aload_n hx hb dL_law_1422 rfl (lv_at hl 1 rfl) ?_
  refine lv_aload_n hx hb dL_law_1423 rfl (lv_at hl 0 rfl) ?_
  refine lv_iload_n hx hb dL_law_1424 rfl (lv_at hl 3 rfl) ?_
  refine lv_iconst (v := 1) hx hb dL_law_1425 (by decide) ?_
  refine lv_iadd hx hb dL_law_1426 ?_
  obtain ⟨g1, h⟩ := gw_gdE h
  refine va_sld hx hb hX hbl hbA hI.2.2 g1 dL_law_1427 ?_
  obtain ⟨r2, S4, e3, h⟩ := gw_b2E h
  refine gw_callVF (w := gw_mw cc am M) (wc := gw_cw cc a b d S) (As := [.int (xs (i + (1 : Int32)).toNatClampNeg)]) (n := 1) B hI (k_X8_drop (xs (i + (1 : Int32)).toNatClampNeg) S e3) gL_law_X8_drop rfl rfl rfl ndl_X8_drop ⟨Nat.le_of_ble_eq_true rfl, Nat.le_of_ble_eq_true rfl⟩ gc_g0 rfl rfl rfl hl.1 (Nat.le_of_ble_eq_true rfl) dL_law_1428 ⟨by show cl + 0 + 0 ≤ 600000; omega, by show sl + 0 + 0 ≤ 7302250; omega⟩ rfl (fun w' H locs hw hI => ?_)
  subst hw
  refine lv_pop hx hb dL_law_1431 rfl ?_
  refine lv_aload_n hx hb dL_law_1432 rfl (lv_at hl 2 rfl) ?_
  refine lv_aload_n hx hb dL_law_1433 rfl (lv_at hl 0 rfl) ?_
  refine lv_iload_n hx hb dL_law_1434 rfl (lv_at hl 3 rfl) ?_
  refine lv_iconst (v := 1) hx hb dL_law_1435 (by decide) ?_
  refine lv_iadd hx hb dL_law_1436 ?_
  refine va_sld hx hb hX hbl hbA hI.2.2 g1 dL_law_1437 ?_
  obtain ⟨r5, M7, e6, h⟩ := gw_b2E h
  have hI := gw_perm List.perm_append_comm hI
  refine gw_callVF (w := gw_cw cc a b d S4) (wc := gw_mw cc am M) (As := [.int (xs (i + (1 : Int32)).toNatClampNeg)]) (n := 1) B hI (k_X9_drop (xs (i + (1 : Int32)).toNatClampNeg) M e6) gL_law_X9_drop rfl rfl rfl ndl_X9_drop ⟨Nat.le_of_ble_eq_true rfl, Nat.le_of_ble_eq_true rfl⟩ gm_g0 rfl rfl rfl hl.1 (Nat.le_of_ble_eq_true rfl) dL_law_1438 ⟨by show cl + 0 + 0 ≤ 600000; omega, by show sl + 0 + 0 ≤ 7302250; omega⟩ rfl (fun w' H locs hw hI => ?_)
  subst hw
  have hI := gw_perm List.perm_append_comm hI
  refine lv_pop hx hb dL_law_1441 rfl ?_
  refine lv_goto (tgt := 1551) hx hb dL_law_1442 (by decide) ?_
  refine W.widen (k := cl + 7) (n := sl + 98) (by omega) (by omega) ?_
  exact hK S4 M7 h b d _ _ ls hI hl
set_option maxRecDepth 100000 in
set_option maxHeartbeats 4000000 in
theorem k_law_c33 {p : Program} {l : Launch} {e : Env} {s : State} {m : MethodId} {below : List Frame} {meth : Method} {c : Code} {D : va_G} {cc : Nat → ClassId} {t1 t2 b0 L : Nat} {A : Nat → Prop} {a am : Nat → Nat} {xs : Nat → Int32} (hX : va_X b0 L xs s s.heap) (hbl : b0 < s.heap.size) (hbA : ¬ A b0) (B : gw_B p s m #[Value.ref b0] meth c cL_law 4 wsL_law RL ret D (gw_ty cc) t1 t2 A) {i : Int32} {cl sl : Nat} (h1 : cl + 7 ≤ 600000) (h2 : sl + 98 ≤ 7302250) {K : gw_S → gw_S → Option Int32} (hK : ∀ (S M : gw_S), K S M = some 1 → ∀ (b d : Nat → Nat) (H : Heap) (locs : List Loc) (ls : Array Slot), gw_I D A s.heap (gw_mw cc am M ++ gw_cw cc a b d S) H locs → lv_has ls 4 [(0, .ref b0), (1, .ref (a 0)), (2, .ref (am 0)), (3, .int i)] → W p l e room_1 s m #[Value.ref b0] below meth c H locs (cl + 7) (sl + 98) (lw_Z below #[Value.ref b0] s) (F0 m 1551 ls [])) (S M : gw_S) (h : f_law_c33 xs L i K S M = some 1) (b d : Nat → Nat) (H : Heap) (locs : List Loc) (ls : Array Slot) (hI : gw_I D A s.heap (gw_mw cc am M ++ gw_cw cc a b d S) H locs) (hl : lv_has ls 4 [(0, .ref b0), (1, .ref (a 0)), (2, .ref (am 0)), (3, .int i)]) : W p l e room_1 s m #[Value.ref b0] below meth c H locs cl sl (lw_Z below #[Value.ref b0] s) (F0 m 1445 ls []) := by
  have hx := B.1.1
  have hb := B.1.2.1
  have hown : s.vm.findClass RL = some m.cls := B.1.2.2.2.1
  have hts := B.1.2.2.2.2
  unfold f_law_c33 at h
  refine lv_aload_n hx hb dL_law_1445 rfl (lv_at hl 1 rfl) ?_
  refine lv_aload_n hx hb dL_law_1446 rfl (lv_at hl 0 rfl) ?_
  refine lv_iload_n hx hb dL_law_1447 rfl (lv_at hl 3 rfl) ?_
  refine lv_iconst (v := 1) hx hb dL_law_1448 (by decide) ?_
  refine lv_iadd hx hb dL_law_1449 ?_
  obtain ⟨g1, h⟩ := gw_gdE h
  refine va_sld hx hb hX hbl hbA hI.2.2 g1 dL_law_1450 ?_
  refine lv_aload_n hx hb dL_law_1451 rfl (lv_at hl 0 rfl) ?_
  refine lv_iload_n hx hb dL_law_1452 rfl (lv_at hl 3 rfl) ?_
  refine lv_iconst (v := 2) hx hb dL_law_1453 (by decide) ?_
  refine lv_iadd hx hb dL_law_1454 ?_
  obtain ⟨g2, h⟩ := gw_gdE h
  refine va_sld hx hb hX hbl hbA hI.2.2 g2 dL_law_1455 ?_
  refine lv_aload_n hx hb dL_law_1456 rfl (lv_at hl 0 rfl) ?_
  refine lv_iload_n hx hb dL_law_1457 rfl (lv_at hl 3 rfl) ?_
  refine lv_iconst (v := 3) hx hb dL_law_1458 (by decide) ?_
  refine lv_iadd hx hb dL_law_1459 ?_
  obtain ⟨g3, h⟩ := gw_gdE h
  refine va_sld hx hb hX hbl hbA hI.2.2 g3 dL_law_1460 ?_
  refine lv_aload_n hx hb dL_law_1461 rfl (lv_at hl 0 rfl) ?_
  refine lv_iload_n hx hb dL_law_1462 rfl (lv_at hl 3 rfl) ?_
  refine lv_iconst (v := 4) hx hb dL_law_1463 (by decide) ?_
  refine lv_iadd hx hb dL_law_1464 ?_
  obtain ⟨g4, h⟩ := gw_gdE h
  refine va_sld hx hb hX hbl hbA hI.2.2 g4 dL_law_1465 ?_
  obtain ⟨r5, S7, e6, h⟩ := gw_b2E h
  refine gw_callVF (w := gw_mw cc am M) (wc := gw_cw cc a b d S) (As := [.int (xs (i + (1 : Int32)).toNatClampNeg), .int (xs (i + (2 : Int32)).toNatClampNeg), .int (xs (i + (3 : Int32)).toNatClampNeg), .int (xs (i + (4 : Int32)).toNatClampNeg)]) (n := 4) B hI (k_X8_item (xs (i + (1 : Int32)).toNatClampNeg) (xs (i + (2 : Int32)).toNatClampNeg) (xs (i + (3 : Int32)).toNatClampNeg) (xs (i + (4 : Int32)).toNatClampNeg) S e6) gL_law_X8_item rfl rfl rfl ndl_X8_item ⟨Nat.le_of_ble_eq_true rfl, Nat.le_of_ble_eq_true rfl⟩ gc_g0 rfl rfl rfl hl.1 (Nat.le_of_ble_eq_true rfl) dL_law_1466 ⟨by show cl + 0 + 0 ≤ 600000; omega, by show sl + 0 + 0 ≤ 7302250; omega⟩ rfl (fun w' H locs hw hI => ?_)
  subst hw
  refine lv_pop hx hb dL_law_1469 rfl ?_
  refine lv_aload_n hx hb dL_law_1470 rfl (lv_at hl 2 rfl) ?_
  refine lv_aload_n hx hb dL_law_1471 rfl (lv_at hl 0 rfl) ?_
  refine lv_iload_n hx hb dL_law_1472 rfl (lv_at hl 3 rfl) ?_
  refine lv_iconst (v := 1) hx hb dL_law_1473 (by decide) ?_
  refine lv_iadd hx hb dL_law_1474 ?_
  refine va_sld hx hb hX hbl hbA hI.2.2 g1 dL_law_1475 ?_
  refine lv_aload_n hx hb dL_law_1476 rfl (lv_at hl 0 rfl) ?_
  refine lv_iload_n hx hb dL_law_1477 rfl (lv_at hl 3 rfl) ?_
  refine lv_iconst (v := 2) hx hb dL_law_1478 (by decide) ?_
  refine lv_iadd hx hb dL_law_1479 ?_
  refine va_sld hx hb hX hbl hbA hI.2.2 g2 dL_law_1480 ?_
  refine lv_aload_n hx hb dL_law_1481 rfl (lv_at hl 0 rfl) ?_
  refine lv_iload_n hx hb dL_law_1482 rfl (lv_at hl 3 rfl) ?_
  refine lv_iconst (v := 3) hx hb dL_law_1483 (by decide) ?_
  refine lv_iadd hx hb dL_law_1484 ?_
  refine va_sld hx hb hX hbl hbA hI.2.2 g3 dL_law_1485 ?_
  refine lv_aload_n hx hb dL_law_1486 rfl (lv_at hl 0 rfl) ?_
  refine lv_iload_n hx hb dL_law_1487 rfl (lv_at hl 3 rfl) ?_
  refine lv_iconst (v := 4) hx hb dL_law_1488 (by decide) ?_
  refine lv_iadd hx hb dL_law_1489 ?_
  refine va_sld hx hb hX hbl hbA hI.2.2 g4 dL_law_1490 ?_
  obtain ⟨r8, M10, e9, h⟩ := gw_b2E h
  have hI := gw_perm List.perm_append_comm hI
  refine gw_callVF (w := gw_cw cc a b d S7) (wc := gw_mw cc am M) (As := [.int (xs (i + (1 : Int32)).toNatClampNeg), .int (xs (i + (2 : Int32)).toNatClampNeg), .int (xs (i + (3 : Int32)).toNatClampNeg), .int (xs (i + (4 : Int32)).toNatClampNeg)]) (n := 4) B hI (k_X9_item (xs (i + (1 : Int32)).toNatClampNeg) (xs (i + (2 : Int32)).toNatClampNeg) (xs (i + (3 : Int32)).toNatClampNeg) (xs (i + (4 : Int32)).toNatClampNeg) M e9) gL_law_X9_item rfl rfl rfl ndl_X9_item ⟨Nat.le_of_ble_eq_true rfl, Nat.le_of_ble_eq_true rfl⟩ gm_g0 rfl rfl rfl hl.1 (Nat.le_of_ble_eq_true rfl) dL_law_1491 ⟨by show cl + 0 + 0 ≤ 600000; omega, by show sl + 0 + 0 ≤ 7302250; omega⟩ rfl (fun w' H locs hw hI => ?_)
  subst hw
  have hI := gw_perm List.perm_append_comm hI
  refine lv_pop hx hb dL_law_1494 rfl ?_
  refine lv_goto (tgt := 1551) hx hb dL_law_1495 (by decide) ?_
  refine W.widen (k := cl + 7) (n := sl + 98) (by omega) (by omega) ?_
  exact hK S7 M10 h b d _ _ ls hI hl
set_option maxRecDepth 100000 in
set_option maxHeartbeats 4000000 in
theorem k_law_c34 {p : Program} {l : Launch} {e : Env} {s : State} {m : MethodId} {below : List Frame} {meth : Method} {c : Code} {D : va_G} {cc : Nat → ClassId} {t1 t2 b0 L : Nat} {A : Nat → Prop} {a am : Nat → Nat} {xs : Nat → Int32} (hX : va_X b0 L xs s s.heap) (hbl : b0 < s.heap.size) (hbA : ¬ A b0) (B : gw_B p s m #[Value.ref b0] meth c cL_law 4 wsL_law RL ret D (gw_ty cc) t1 t2 A) {i : Int32} {cl sl : Nat} (h1 : cl + 7 ≤ 600000) (h2 : sl + 98 ≤ 7302250) {K : gw_S → gw_S → Option Int32} (hK : ∀ (S M : gw_S), K S M = some 1 → ∀ (b d : Nat → Nat) (H : Heap) (locs : List Loc) (ls : Array Slot), gw_I D A s.heap (gw_mw cc am M ++ gw_cw cc a b d S) H locs → lv_has ls 4 [(0, .ref b0), (1, .ref (a 0)), (2, .ref (am 0)), (3, .int i)] → W p l e room_1 s m #[Value.ref b0] below meth c H locs (cl + 7) (sl + 98) (lw_Z below #[Value.ref b0] s) (F0 m 1551 ls [])) (S M : gw_S) (h : f_law_c34 xs L i K S M = some 1) (b d : Nat → Nat) (H : Heap) (locs : List Loc) (ls : Array Slot) (hI : gw_I D A s.heap (gw_mw cc am M ++ gw_cw cc a b d S) H locs) (hl : lv_has ls 4 [(0, .ref b0), (1, .ref (a 0)), (2, .ref (am 0)), (3, .int i)]) : W p l e room_1 s m #[Value.ref b0] below meth c H locs cl sl (lw_Z below #[Value.ref b0] s) (F0 m 1498 ls []) := by
  have hx := B.1.1
  have hb := B.1.2.1
  have hown : s.vm.findClass RL = some m.cls := B.1.2.2.2.1
  have hts := B.1.2.2.2.2
  unfold f_law_c34 at h
  refine lv_aload_n hx hb dL_law_1498 rfl (lv_at hl 1 rfl) ?_
  refine lv_aload_n hx hb dL_law_1499 rfl (lv_at hl 0 rfl) ?_
  refine lv_iload_n hx hb dL_law_1500 rfl (lv_at hl 3 rfl) ?_
  refine lv_iconst (v := 1) hx hb dL_law_1501 (by decide) ?_
  refine lv_iadd hx hb dL_law_1502 ?_
  obtain ⟨g1, h⟩ := gw_gdE h
  refine va_sld hx hb hX hbl hbA hI.2.2 g1 dL_law_1503 ?_
  refine lv_aload_n hx hb dL_law_1504 rfl (lv_at hl 0 rfl) ?_
  refine lv_iload_n hx hb dL_law_1505 rfl (lv_at hl 3 rfl) ?_
  refine lv_iconst (v := 2) hx hb dL_law_1506 (by decide) ?_
  refine lv_iadd hx hb dL_law_1507 ?_
  obtain ⟨g2, h⟩ := gw_gdE h
  refine va_sld hx hb hX hbl hbA hI.2.2 g2 dL_law_1508 ?_
  refine lv_aload_n hx hb dL_law_1509 rfl (lv_at hl 0 rfl) ?_
  refine lv_iload_n hx hb dL_law_1510 rfl (lv_at hl 3 rfl) ?_
  refine lv_iconst (v := 3) hx hb dL_law_1511 (by decide) ?_
  refine lv_iadd hx hb dL_law_1512 ?_
  obtain ⟨g3, h⟩ := gw_gdE h
  refine va_sld hx hb hX hbl hbA hI.2.2 g3 dL_law_1513 ?_
  refine lv_aload_n hx hb dL_law_1514 rfl (lv_at hl 0 rfl) ?_
  refine lv_iload_n hx hb dL_law_1515 rfl (lv_at hl 3 rfl) ?_
  refine lv_iconst (v := 4) hx hb dL_law_1516 (by decide) ?_
  refine lv_iadd hx hb dL_law_1517 ?_
  obtain ⟨g4, h⟩ := gw_gdE h
  refine va_sld hx hb hX hbl hbA hI.2.2 g4 dL_law_1518 ?_
  obtain ⟨r5, S7, e6, h⟩ := gw_b2E h
  refine gw_callVF (w := gw_mw cc am M) (wc := gw_cw cc a b d S) (As := [.int (xs (i + (1 : Int32)).toNatClampNeg), .int (xs (i + (2 : Int32)).toNatClampNeg), .int (xs (i + (3 : Int32)).toNatClampNeg), .int (xs (i + (4 : Int32)).toNatClampNeg)]) (n := 4) B hI (k_X8_books (xs (i + (1 : Int32)).toNatClampNeg) (xs (i + (2 : Int32)).toNatClampNeg) (xs (i + (3 : Int32)).toNatClampNeg) (xs (i + (4 : Int32)).toNatClampNeg) S e6) gL_law_X8_books rfl rfl rfl ndl_X8_books ⟨Nat.le_of_ble_eq_true rfl, Nat.le_of_ble_eq_true rfl⟩ gc_g0 rfl rfl rfl hl.1 (Nat.le_of_ble_eq_true rfl) dL_law_1519 ⟨by show cl + 0 + 7 ≤ 600000; omega, by show sl + 0 + 98 ≤ 7302250; omega⟩ rfl (fun w' H locs hw hI => ?_)
  obtain ⟨b8, d9, rfl⟩ := hw
  refine lv_pop hx hb dL_law_1522 rfl ?_
  refine lv_aload_n hx hb dL_law_1523 rfl (lv_at hl 2 rfl) ?_
  refine lv_aload_n hx hb dL_law_1524 rfl (lv_at hl 0 rfl) ?_
  refine lv_iload_n hx hb dL_law_1525 rfl (lv_at hl 3 rfl) ?_
  refine lv_iconst (v := 1) hx hb dL_law_1526 (by decide) ?_
  refine lv_iadd hx hb dL_law_1527 ?_
  refine va_sld hx hb hX hbl hbA hI.2.2 g1 dL_law_1528 ?_
  refine lv_aload_n hx hb dL_law_1529 rfl (lv_at hl 0 rfl) ?_
  refine lv_iload_n hx hb dL_law_1530 rfl (lv_at hl 3 rfl) ?_
  refine lv_iconst (v := 2) hx hb dL_law_1531 (by decide) ?_
  refine lv_iadd hx hb dL_law_1532 ?_
  refine va_sld hx hb hX hbl hbA hI.2.2 g2 dL_law_1533 ?_
  refine lv_aload_n hx hb dL_law_1534 rfl (lv_at hl 0 rfl) ?_
  refine lv_iload_n hx hb dL_law_1535 rfl (lv_at hl 3 rfl) ?_
  refine lv_iconst (v := 3) hx hb dL_law_1536 (by decide) ?_
  refine lv_iadd hx hb dL_law_1537 ?_
  refine va_sld hx hb hX hbl hbA hI.2.2 g3 dL_law_1538 ?_
  refine lv_aload_n hx hb dL_law_1539 rfl (lv_at hl 0 rfl) ?_
  refine lv_iload_n hx hb dL_law_1540 rfl (lv_at hl 3 rfl) ?_
  refine lv_iconst (v := 4) hx hb dL_law_1541 (by decide) ?_
  refine lv_iadd hx hb dL_law_1542 ?_
  refine va_sld hx hb hX hbl hbA hI.2.2 g4 dL_law_1543 ?_
  obtain ⟨r10, M12, e11, h⟩ := gw_b2E h
  have hI := gw_perm List.perm_append_comm hI
  refine gw_callVF (w := gw_cw cc a b8 d9 S7) (wc := gw_mw cc am M) (As := [.int (xs (i + (1 : Int32)).toNatClampNeg), .int (xs (i + (2 : Int32)).toNatClampNeg), .int (xs (i + (3 : Int32)).toNatClampNeg), .int (xs (i + (4 : Int32)).toNatClampNeg)]) (n := 4) B hI (k_X9_books (xs (i + (1 : Int32)).toNatClampNeg) (xs (i + (2 : Int32)).toNatClampNeg) (xs (i + (3 : Int32)).toNatClampNeg) (xs (i + (4 : Int32)).toNatClampNeg) M e11) gL_law_X9_books rfl rfl rfl ndl_X9_books ⟨Nat.le_of_ble_eq_true rfl, Nat.le_of_ble_eq_true rfl⟩ gm_g0 rfl rfl rfl hl.1 (Nat.le_of_ble_eq_true rfl) dL_law_1544 ⟨by show cl + 7 + 0 ≤ 600000; omega, by show sl + 98 + 0 ≤ 7302250; omega⟩ rfl (fun w' H locs hw hI => ?_)
  subst hw
  have hI := gw_perm List.perm_append_comm hI
  refine lv_pop hx hb dL_law_1547 rfl ?_
  refine lv_goto (tgt := 1551) hx hb dL_law_1548 (by decide) ?_
  refine W.widen (k := cl + 7) (n := sl + 98) (by omega) (by omega) ?_
  exact hK S7 M12 h b8 d9 _ _ ls hI hl
end
section
theorem gw_outL {x : Int32} (h0 : ¬ x = 0) (h1 : ¬ x = 1) (h2 : ¬ x = 2) (h3 : ¬ x = 3) (h4 : ¬ x = 4) (h5 : ¬ x = 5) (h6 : ¬ x = 6) (h7 : ¬ x = 7) (h8 : ¬ x = 8) (h9 : ¬ x = 9) (h10 : ¬ x = 10) (h11 : ¬ x = 11) (h12 : ¬ x = 12) (h13 : ¬ x = 13) (h14 : ¬ x = 14) (h15 : ¬ x = 15) (h16 : ¬ x = 16) (h17 : ¬ x = 17) (h18 : ¬ x = 18) (h19 : ¬ x = 19) (h20 : ¬ x = 20) (h21 : ¬ x = 21) (h22 : ¬ x = 22) (h23 : ¬ x = 23) (h24 : ¬ x = 24) (h25 : ¬ x = 25) (h26 : ¬ x = 26) (h27 : ¬ x = 27) (h28 : ¬ x = 28) (h29 : ¬ x = 29) (h30 : ¬ x = 30) (h31 : ¬ x = 31) (h32 : ¬ x = 32) (h33 : ¬ x = 33) (h34 : ¬ x = 34) : x.toInt < 0 ∨ (34 : Int) < x.toInt := by
  have q0 : ¬ x.toInt = 0 := lv_neT h0 (by decide)
  have q1 : ¬ x.toInt = 1 := lv_neT h1 (by decide)
  have q2 : ¬ x.toInt = 2 := lv_neT h2 (by decide)
  have q3 : ¬ x.toInt = 3 := lv_neT h3 (by decide)
  have q4 : ¬ x.toInt = 4 := lv_neT h4 (by decide)
  have q5 : ¬ x.toInt = 5 := lv_neT h5 (by decide)
  have q6 : ¬ x.toInt = 6 := lv_neT h6 (by decide)
  have q7 : ¬ x.toInt = 7 := lv_neT h7 (by decide)
  have q8 : ¬ x.toInt = 8 := lv_neT h8 (by decide)
  have q9 : ¬ x.toInt = 9 := lv_neT h9 (by decide)
  have q10 : ¬ x.toInt = 10 := lv_neT h10 (by decide)
  have q11 : ¬ x.toInt = 11 := lv_neT h11 (by decide)
  have q12 : ¬ x.toInt = 12 := lv_neT h12 (by decide)
  have q13 : ¬ x.toInt = 13 := lv_neT h13 (by decide)
  have q14 : ¬ x.toInt = 14 := lv_neT h14 (by decide)
  have q15 : ¬ x.toInt = 15 := lv_neT h15 (by decide)
  have q16 : ¬ x.toInt = 16 := lv_neT h16 (by decide)
  have q17 : ¬ x.toInt = 17 := lv_neT h17 (by decide)
  have q18 : ¬ x.toInt = 18 := lv_neT h18 (by decide)
  have q19 : ¬ x.toInt = 19 := lv_neT h19 (by decide)
  have q20 : ¬ x.toInt = 20 := lv_neT h20 (by decide)
  have q21 : ¬ x.toInt = 21 := lv_neT h21 (by decide)
  have q22 : ¬ x.toInt = 22 := lv_neT h22 (by decide)
  have q23 : ¬ x.toInt = 23 := lv_neT h23 (by decide)
  have q24 : ¬ x.toInt = 24 := lv_neT h24 (by decide)
  have q25 : ¬ x.toInt = 25 := lv_neT h25 (by decide)
  have q26 : ¬ x.toInt = 26 := lv_neT h26 (by decide)
  have q27 : ¬ x.toInt = 27 := lv_neT h27 (by decide)
  have q28 : ¬ x.toInt = 28 := lv_neT h28 (by decide)
  have q29 : ¬ x.toInt = 29 := lv_neT h29 (by decide)
  have q30 : ¬ x.toInt = 30 := lv_neT h30 (by decide)
  have q31 : ¬ x.toInt = 31 := lv_neT h31 (by decide)
  have q32 : ¬ x.toInt = 32 := lv_neT h32 (by decide)
  have q33 : ¬ x.toInt = 33 := lv_neT h33 (by decide)
  have q34 : ¬ x.toInt = 34 := lv_neT h34 (by decide)
  omega
set_option maxRecDepth 100000 in
set_option maxHeartbeats 4000000 in
theorem k_law_s {p : Program} {l : Launch} {e : Env} {s : State} {m : MethodId} {below : List Frame} {meth : Method} {c : Code} {D : va_G} {cc : Nat → ClassId} {t1 t2 b0 L : Nat} {A : Nat → Prop} {a am : Nat → Nat} {xs : Nat → Int32} (hX : va_X b0 L xs s s.heap) (hbl : b0 < s.heap.size) (hbA : ¬ A b0) (B : gw_B p s m #[Value.ref b0] meth c cL_law 4 wsL_law RL ret D (gw_ty cc) t1 t2 A) {i k : Int32} {cl sl : Nat} (h1 : cl + 7 ≤ 600000) (h2 : sl + 98 ≤ 7302250) {K : gw_S → gw_S → Option Int32} (hK : ∀ (S M : gw_S), K S M = some 1 → ∀ (b d : Nat → Nat) (H : Heap) (locs : List Loc) (ls : Array Slot), gw_I D A s.heap (gw_mw cc am M ++ gw_cw cc a b d S) H locs → lv_has ls 4 [(0, .ref b0), (1, .ref (a 0)), (2, .ref (am 0)), (3, .int i)] → W p l e room_1 s m #[Value.ref b0] below meth c H locs (cl + 7) (sl + 98) (lw_Z below #[Value.ref b0] s) (F0 m 1551 ls [])) (S M : gw_S) (h : f_law_s xs L i k K S M = some 1) (b d : Nat → Nat) (H : Heap) (locs : List Loc) (ls : Array Slot) (hI : gw_I D A s.heap (gw_mw cc am M ++ gw_cw cc a b d S) H locs) (hl : lv_has ls 4 [(0, .ref b0), (1, .ref (a 0)), (2, .ref (am 0)), (3, .int i)]) : W p l e room_1 s m #[Value.ref b0] below meth c H locs cl sl (lw_Z below #[Value.ref b0] s) (F0 m 33 ls [.int k]) := by
  have hx := B.1.1
  have hb := B.1.2.1
  unfold f_law_s at h
  by_cases q0 : k = 0
  · replace h := gw_ifT q0 h
    refine gw_tabIn (k := 0) (off := 155) (tgt := 188) B q0 dL_law_33 (by decide) (by decide) ?_
    exact k_law_c0 hX hbl hbA B h1 h2 hK S M h b d H locs ls hI hl
  replace h := gw_ifF q0 h
  by_cases q1 : k = 1
  · replace h := gw_ifT q1 h
    refine gw_tabIn (k := 1) (off := 218) (tgt := 251) B q1 dL_law_33 (by decide) (by decide) ?_
    exact k_law_c1 hX hbl hbA B h1 h2 hK S M h b d H locs ls hI hl
  replace h := gw_ifF q1 h
  by_cases q2 : k = 2
  · replace h := gw_ifT q2 h
    refine gw_tabIn (k := 2) (off := 231) (tgt := 264) B q2 dL_law_33 (by decide) (by decide) ?_
    exact k_law_c2 hX hbl hbA B h1 h2 hK S M h b d H locs ls hI hl
  replace h := gw_ifF q2 h
  by_cases q3 : k = 3
  · replace h := gw_ifT q3 h
    refine gw_tabIn (k := 3) (off := 254) (tgt := 287) B q3 dL_law_33 (by decide) (by decide) ?_
    exact k_law_c3 hX hbl hbA B h1 h2 hK S M h b d H locs ls hI hl
  replace h := gw_ifF q3 h
  by_cases q4 : k = 4
  · replace h := gw_ifT q4 h
    refine gw_tabIn (k := 4) (off := 297) (tgt := 330) B q4 dL_law_33 (by decide) (by decide) ?_
    exact k_law_c4 hX hbl hbA B h1 h2 hK S M h b d H locs ls hI hl
  replace h := gw_ifF q4 h
  by_cases q5 : k = 5
  · replace h := gw_ifT q5 h
    refine gw_tabIn (k := 5) (off := 372) (tgt := 405) B q5 dL_law_33 (by decide) (by decide) ?_
    exact k_law_c5 hX hbl hbA B h1 h2 hK S M h b d H locs ls hI hl
  replace h := gw_ifF q5 h
  by_cases q6 : k = 6
  · replace h := gw_ifT q6 h
    refine gw_tabIn (k := 6) (off := 447) (tgt := 480) B q6 dL_law_33 (by decide) (by decide) ?_
    exact k_law_c6 hX hbl hbA B h1 h2 hK S M h b d H locs ls hI hl
  replace h := gw_ifF q6 h
  by_cases q7 : k = 7
  · replace h := gw_ifT q7 h
    refine gw_tabIn (k := 7) (off := 522) (tgt := 555) B q7 dL_law_33 (by decide) (by decide) ?_
    exact k_law_c7 hX hbl hbA B h1 h2 hK S M h b d H locs ls hI hl
  replace h := gw_ifF q7 h
  by_cases q8 : k = 8
  · replace h := gw_ifT q8 h
    refine gw_tabIn (k := 8) (off := 555) (tgt := 588) B q8 dL_law_33 (by decide) (by decide) ?_
    exact k_law_c8 hX hbl hbA B h1 h2 hK S M h b d H locs ls hI hl
  replace h := gw_ifF q8 h
  by_cases q9 : k = 9
  · replace h := gw_ifT q9 h
    refine gw_tabIn (k := 9) (off := 588) (tgt := 621) B q9 dL_law_33 (by decide) (by decide) ?_
    exact k_law_c9 hX hbl hbA B h1 h2 hK S M h b d H locs ls hI hl
  replace h := gw_ifF q9 h
  by_cases q10 : k = 10
  · replace h := gw_ifT q10 h
    refine gw_tabIn (k := 10) (off := 641) (tgt := 674) B q10 dL_law_33 (by decide) (by decide) ?_
    exact k_law_c10 hX hbl hbA B h1 h2 hK S M h b d H locs ls hI hl
  replace h := gw_ifF q10 h
  by_cases q11 : k = 11
  · replace h := gw_ifT q11 h
    refine gw_tabIn (k := 11) (off := 674) (tgt := 707) B q11 dL_law_33 (by decide) (by decide) ?_
    exact k_law_c11 hX hbl hbA B h1 h2 hK S M h b d H locs ls hI hl
  replace h := gw_ifF q11 h
  by_cases q12 : k = 12
  · replace h := gw_ifT q12 h
    refine gw_tabIn (k := 12) (off := 687) (tgt := 720) B q12 dL_law_33 (by decide) (by decide) ?_
    exact k_law_c12 hX hbl hbA B h1 h2 hK S M h b d H locs ls hI hl
  replace h := gw_ifF q12 h
  by_cases q13 : k = 13
  · replace h := gw_ifT q13 h
    refine gw_tabIn (k := 13) (off := 730) (tgt := 763) B q13 dL_law_33 (by decide) (by decide) ?_
    exact k_law_c13 hX hbl hbA B h1 h2 hK S M h b d H locs ls hI hl
  replace h := gw_ifF q13 h
  by_cases q14 : k = 14
  · replace h := gw_ifT q14 h
    refine gw_tabIn (k := 14) (off := 805) (tgt := 838) B q14 dL_law_33 (by decide) (by decide) ?_
    exact k_law_c14 hX hbl hbA B h1 h2 hK S M h b d H locs ls hI hl
  replace h := gw_ifF q14 h
  by_cases q15 : k = 15
  · replace h := gw_ifT q15 h
    refine gw_tabIn (k := 15) (off := 838) (tgt := 871) B q15 dL_law_33 (by decide) (by decide) ?_
    exact k_law_c15 hX hbl hbA B h1 h2 hK S M h b d H locs ls hI hl
  replace h := gw_ifF q15 h
  by_cases q16 : k = 16
  · replace h := gw_ifT q16 h
    refine gw_tabIn (k := 16) (off := 861) (tgt := 894) B q16 dL_law_33 (by decide) (by decide) ?_
    exact k_law_c16 hX hbl hbA B h1 h2 hK S M h b d H locs ls hI hl
  replace h := gw_ifF q16 h
  by_cases q17 : k = 17
  · replace h := gw_ifT q17 h
    refine gw_tabIn (k := 17) (off := 884) (tgt := 917) B q17 dL_law_33 (by decide) (by decide) ?_
    exact k_law_c17 hX hbl hbA B h1 h2 hK S M h b d H locs ls hI hl
  replace h := gw_ifF q17 h
  by_cases q18 : k = 18
  · replace h := gw_ifT q18 h
    refine gw_tabIn (k := 18) (off := 917) (tgt := 950) B q18 dL_law_33 (by decide) (by decide) ?_
    exact k_law_c18 hX hbl hbA B h1 h2 hK S M h b d H locs ls hI hl
  replace h := gw_ifF q18 h
  by_cases q19 : k = 19
  · replace h := gw_ifT q19 h
    refine gw_tabIn (k := 19) (off := 960) (tgt := 993) B q19 dL_law_33 (by decide) (by decide) ?_
    exact k_law_c19 hX hbl hbA B h1 h2 hK S M h b d H locs ls hI hl
  replace h := gw_ifF q19 h
  by_cases q20 : k = 20
  · replace h := gw_ifT q20 h
    refine gw_tabIn (k := 20) (off := 993) (tgt := 1026) B q20 dL_law_33 (by decide) (by decide) ?_
    exact k_law_c20 hX hbl hbA B h1 h2 hK S M h b d H locs ls hI hl
  replace h := gw_ifF q20 h
  by_cases q21 : k = 21
  · replace h := gw_ifT q21 h
    refine gw_tabIn (k := 21) (off := 1016) (tgt := 1049) B q21 dL_law_33 (by decide) (by decide) ?_
    exact k_law_c21 hX hbl hbA B h1 h2 hK S M h b d H locs ls hI hl
  replace h := gw_ifF q21 h
  by_cases q22 : k = 22
  · replace h := gw_ifT q22 h
    refine gw_tabIn (k := 22) (off := 1039) (tgt := 1072) B q22 dL_law_33 (by decide) (by decide) ?_
    exact k_law_c22 hX hbl hbA B h1 h2 hK S M h b d H locs ls hI hl
  replace h := gw_ifF q22 h
  by_cases q23 : k = 23
  · replace h := gw_ifT q23 h
    refine gw_tabIn (k := 23) (off := 1082) (tgt := 1115) B q23 dL_law_33 (by decide) (by decide) ?_
    exact k_law_c23 hX hbl hbA B h1 h2 hK S M h b d H locs ls hI hl
  replace h := gw_ifF q23 h
  by_cases q24 : k = 24
  · replace h := gw_ifT q24 h
    refine gw_tabIn (k := 24) (off := 1105) (tgt := 1138) B q24 dL_law_33 (by decide) (by decide) ?_
    exact k_law_c24 hX hbl hbA B h1 h2 hK S M h b d H locs ls hI hl
  replace h := gw_ifF q24 h
  by_cases q25 : k = 25
  · replace h := gw_ifT q25 h
    refine gw_tabIn (k := 25) (off := 1138) (tgt := 1171) B q25 dL_law_33 (by decide) (by decide) ?_
    exact k_law_c25 hX hbl hbA B h1 h2 hK S M h b d H locs ls hI hl
  replace h := gw_ifF q25 h
  by_cases q26 : k = 26
  · replace h := gw_ifT q26 h
    refine gw_tabIn (k := 26) (off := 1191) (tgt := 1224) B q26 dL_law_33 (by decide) (by decide) ?_
    exact k_law_c26 hX hbl hbA B h1 h2 hK S M h b d H locs ls hI hl
  replace h := gw_ifF q26 h
  by_cases q27 : k = 27
  · replace h := gw_ifT q27 h
    refine gw_tabIn (k := 27) (off := 1224) (tgt := 1257) B q27 dL_law_33 (by decide) (by decide) ?_
    exact k_law_c27 hX hbl hbA B h1 h2 hK S M h b d H locs ls hI hl
  replace h := gw_ifF q27 h
  by_cases q28 : k = 28
  · replace h := gw_ifT q28 h
    refine gw_tabIn (k := 28) (off := 1267) (tgt := 1300) B q28 dL_law_33 (by decide) (by decide) ?_
    exact k_law_c28 hX hbl hbA B h1 h2 hK S M h b d H locs ls hI hl
  replace h := gw_ifF q28 h
  by_cases q29 : k = 29
  · replace h := gw_ifT q29 h
    refine gw_tabIn (k := 29) (off := 1300) (tgt := 1333) B q29 dL_law_33 (by decide) (by decide) ?_
    exact k_law_c29 hX hbl hbA B h1 h2 hK S M h b d H locs ls hI hl
  replace h := gw_ifF q29 h
  by_cases q30 : k = 30
  · replace h := gw_ifT q30 h
    refine gw_tabIn (k := 30) (off := 1323) (tgt := 1356) B q30 dL_law_33 (by decide) (by decide) ?_
    exact k_law_c30 hX hbl hbA B h1 h2 hK S M h b d H locs ls hI hl
  replace h := gw_ifF q30 h
  by_cases q31 : k = 31
  · replace h := gw_ifT q31 h
    refine gw_tabIn (k := 31) (off := 1346) (tgt := 1379) B q31 dL_law_33 (by decide) (by decide) ?_
    exact k_law_c31 hX hbl hbA B h1 h2 hK S M h b d H locs ls hI hl
  replace h := gw_ifF q31 h
  by_cases q32 : k = 32
  · replace h := gw_ifT q32 h
    refine gw_tabIn (k := 32) (off := 1389) (tgt := 1422) B q32 dL_law_33 (by decide) (by decide) ?_
    exact k_law_c32 hX hbl hbA B h1 h2 hK S M h b d H locs ls hI hl
  replace h := gw_ifF q32 h
  by_cases q33 : k = 33
  · replace h := gw_ifT q33 h
    refine gw_tabIn (k := 33) (off := 1412) (tgt := 1445) B q33 dL_law_33 (by decide) (by decide) ?_
    exact k_law_c33 hX hbl hbA B h1 h2 hK S M h b d H locs ls hI hl
  replace h := gw_ifF q33 h
  by_cases q34 : k = 34
  · replace h := gw_ifT q34 h
    refine gw_tabIn (k := 34) (off := 1465) (tgt := 1498) B q34 dL_law_33 (by decide) (by decide) ?_
    exact k_law_c34 hX hbl hbA B h1 h2 hK S M h b d H locs ls hI hl
  replace h := gw_ifF q34 h
  refine lv_tableOut (tgt := 1551) hx hb dL_law_33 (gw_outL q0 q1 q2 q3 q4 q5 q6 q7 q8 q9 q10 q11 q12 q13 q14 q15 q16 q17 q18 q19 q20 q21 q22 q23 q24 q25 q26 q27 q28 q29 q30 q31 q32 q33 q34) (by decide) ?_
  refine W.widen (k := cl + 7) (n := sl + 98) (by omega) (by omega) ?_
  exact hK S M h b d H locs ls hI hl
set_option maxRecDepth 100000 in
set_option maxHeartbeats 4000000 in
theorem law_loop {p : Program} {l : Launch} {e : Env} {s : State} {m : MethodId} {below : List Frame} {meth : Method} {c : Code} {D : va_G} {cc : Nat → ClassId} {t1 t2 b0 L : Nat} {A : Nat → Prop} {a am : Nat → Nat} {xs : Nat → Int32} (hX : va_X b0 L xs s s.heap) (hbl : b0 < s.heap.size) (hbA : ¬ A b0) (B : gw_B p s m #[Value.ref b0] meth c cL_law 4 wsL_law RL ret D (gw_ty cc) t1 t2 A) (hLs : L ≤ 3584) (hr : meth.sig.returnType = ret) (hlocks : meth.locks = false) (hA2 : ∀ q, A q → s.heap.size ≤ q) : ∀ (n cl sl : Nat), cl + 7 * n ≤ 600000 → sl + 98 * n ≤ 7302250 → ∀ (i : Int32) (S M : gw_S), f_law xs L n i S M = some 1 → ∀ (b d : Nat → Nat) (H : Heap) (locs : List Loc) (ls : Array Slot), gw_I D A s.heap (gw_mw cc am M ++ gw_cw cc a b d S) H locs → lv_has ls 4 [(0, .ref b0), (1, .ref (a 0)), (2, .ref (am 0)), (3, .int i)] → W p l e room_1 s m #[Value.ref b0] below meth c H locs cl sl (lw_Z below #[Value.ref b0] s) (F0 m 18 ls []) := by
  have hx := B.1.1
  have hb := B.1.2.1
  intro n
  induction n with
  | zero =>
    intro cl sl _ _ i S M h
    cases h
  | succ n ih =>
    intro cl sl h1 h2 i S M h b d H locs ls hI hl
    unfold f_law at h
    refine lv_iload_n hx hb dL_law_18 rfl (lv_at hl 3 rfl) ?_
    refine lv_aload_n hx hb dL_law_19 rfl (lv_at hl 0 rfl) ?_
    refine va_slen hx hb hX hbl hbA hI.2.2 dL_law_20 ?_
    refine lv_bipush (v := 7) hx hb dL_law_21 (by decide) ?_
    refine lv_isub hx hb dL_law_23 ?_
    refine lv_icmp_gt (tgt := 1557) hx hb dL_law_24 (by decide) (fun c1 => ?_) (fun c1 => ?_)
    · refine lv_iconst (v := 1) hx hb dL_law_1557 (by decide) ?_
      refine va_forget (fun q hq => hA2 _ (hI.2.2.2.2 q hq)) ?_
      refine W.widen (k := 600000) (n := 7302250) (by omega) (by omega) ?_
      exact lw_ret hx hb hr hlocks dL_law_1558
    · replace h := gw_ifF c1 h
      obtain ⟨g1, h⟩ := gw_gdE h
      obtain ⟨k1, e1, h⟩ := gw_letE h
      refine lv_aload_n hx hb dL_law_27 rfl (lv_at hl 0 rfl) ?_
      refine lv_iload_n hx hb dL_law_28 rfl (lv_at hl 3 rfl) ?_
      refine va_sld hx hb hX hbl hbA hI.2.2 g1 dL_law_29 ?_
      refine lv_bipush (v := 63) hx hb dL_law_30 (by decide) ?_
      refine lv_iand hx hb dL_law_32 ?_
      rw [← e1]
      refine k_law_s hX hbl hbA B (by omega) (by omega) ?_ S M h b d H locs ls hI hl
      intro S M h b d H locs ls hI hl
      obtain ⟨y2, e2, h⟩ := gw_letE h
      refine lv_iinc (v := y2) (lv' := [(3, .int y2), (0, .ref b0), (1, .ref (a 0)), (2, .ref (am 0))]) hx hb dL_law_1551 hl (k := 3) rfl (by rw [e2]; rfl) (by decide) rfl (fun ls hl => ?_)
      refine lv_goto (tgt := 18) hx hb dL_law_1554 (by decide) ?_
      exact ih (cl + 7) (sl + 98) (by omega) (by omega) y2 S M h b d H locs ls hI (lv_sub hl [1, 2, 3, 0] rfl)
end
section
theorem gw_nfin : ∀ w ∈ gw_nf.map (fun q => Cond.fieldLinkNest q.1 q.2.1 q.2.2.1 q.2.2.2.1 q.2.2.2.2 "GownLet"), w ∈ lw_tbl := gw_inr [347, 361, 144, 122, 124, 154, 516, 520, 524, 366, 528, 526, 364, 368, 151, 207, 210, 76, 141, 360, 142, 153, 505, 522, 150, 511, 512, 355, 514, 523, 353, 518, 357, 534, 532, 530, 359, 351, 349, 362, 507, 509, 77] (by decide +kernel)
theorem gw_nmin : ∀ w ∈ gw_nm.map (fun q => Cond.methodLinkNest q.1 q.2.1 q.2.2 "GownLet"), w ∈ lw_tbl := gw_inr [201, 70, 92, 772, 325] (by decide +kernel)
theorem gw_aoin : ∀ w ∈ (["GownLet$Piece", "GownLet$Booking", "GownLet$Sheet"] : List String).map (fun C => Cond.arrayOver (.object C)), w ∈ lw_tbl := gw_inr [137, 139, 199] (by decide +kernel)
theorem gw_N0 {s : State} {args : Array Value} (hts : ∀ w ∈ lw_tbl, w.before args s = true) : gw_N s :=
  ⟨fun q hq => va_Nw.of rfl (hts _ (gw_nfin _ (List.mem_map.mpr ⟨q, hq, rfl⟩))), fun q hq => va_Nw.of rfl (hts _ (gw_nmin _ (List.mem_map.mpr ⟨q, hq, rfl⟩))), fun C hC => va_AO.of (hts _ (gw_aoin _ (List.mem_map.mpr ⟨C, hC, rfl⟩)))⟩
theorem gw_arp {s : State} {args : Array Value} {ty : FieldType} (hne : ∀ C, ty ≠ .object C) (h : (Cond.arrayClass ty).before args s = true) : ∃ cA : ClassId, ArrOfT s cA ty ∧ va_RA s cA ty := by
  obtain ⟨c, k, comp, h1, h2, h3⟩ := Cond.arrayClass_spec h
  refine ⟨c, fun n z => ⟨fun k h => (by cases h), k, h2, comp, h3⟩, ?_⟩
  cases ty with
  | object C => exact absurd rfl (hne C)
  | _ => exact h1
theorem gw_arq {s : State} {args : Array Value} {C : String} (h : (Cond.arrayOver (.object C)).before args s = true) : ∃ cA : ClassId, ArrOfT s cA (.object C) ∧ va_RA s cA (.object C) := by
  obtain ⟨comp, c, k, h1, h2, h3, h4, h5⟩ := Cond.arrayOver_spec h
  exact ⟨c, fun n z => ⟨fun k h => (by cases h), k, h3, comp, h4⟩, k, comp, h3, h4, h1, h5⟩
theorem gw_hK {s : State} {args : Array Value} (hts : ∀ w ∈ lw_tbl, w.before args s = true) : ∃ (D : va_G) (cc : Nat → ClassId), va_K D vwCl (gw_ty cc) s := by
  obtain ⟨c0, i0, hn0⟩ := u_known (C := RX0) (T := TX0) (N := 14) (n := 14) hts in_wsX00 (hts (.instantiable RX0 14) (List.mem_of_getElem? (i := 499) (by decide +kernel)))
  obtain ⟨c1, i1, hn1⟩ := u_known (C := RX1) (T := TX1) (N := 6) (n := 6) hts in_wsX10 (hts (.instantiable RX1 6) (List.mem_of_getElem? (i := 174) (by decide +kernel)))
  obtain ⟨c2, i2, hn2⟩ := u_known (C := RX2) (T := TX2) (N := 8) (n := 8) hts in_wsX20 (hts (.instantiable RX2 8) (List.mem_of_getElem? (i := 85) (by decide +kernel)))
  obtain ⟨c3, i3, hn3⟩ := u_known (C := RX3) (T := TX3) (N := 5) (n := 5) hts in_wsX30 (hts (.instantiable RX3 5) (List.mem_of_getElem? (i := 105) (by decide +kernel)))
  obtain ⟨c4, i4, hn4⟩ := u_known (C := RX4) (T := TX4) (N := 12) (n := 12) hts in_wsX40 (hts (.instantiable RX4 12) (List.mem_of_getElem? (i := 341) (by decide +kernel)))
  obtain ⟨c5, i5, hn5⟩ := u_known (C := RX5) (T := TX5) (N := 4) (n := 4) hts in_wsX50 (hts (.instantiable RX5 4) (List.mem_of_getElem? (i := 200) (by decide +kernel)))
  obtain ⟨c6, i6, hn6⟩ := u_known (C := RX6) (T := TX6) (N := 2) (n := 2) hts in_wsX60 (hts (.instantiable RX6 2) (List.mem_of_getElem? (i := 69) (by decide +kernel)))
  obtain ⟨c7, i7, hn7⟩ := u_known (C := RX7) (T := TX7) (N := 2) (n := 2) hts in_wsX70 (hts (.instantiable RX7 2) (List.mem_of_getElem? (i := 91) (by decide +kernel)))
  obtain ⟨c8, i8, hn8⟩ := u_known (C := RX8) (T := TX8) (N := 4) (n := 4) hts in_wsX80 (hts (.instantiable RX8 4) (List.mem_of_getElem? (i := 61) (by decide +kernel)))
  obtain ⟨c9, i9, hn9⟩ := u_known (C := RX9) (T := TX9) (N := 51) (n := 51) hts in_wsX90 (hts (.instantiable RX9 51) (List.mem_of_getElem? (i := 897) (by decide +kernel)))
  obtain ⟨a0, ha0⟩ := gw_arp (ty := .int) (by intro C h; cases h) (hts (.arrayClass .int) (List.mem_of_getElem? (i := 103) (by decide +kernel)))
  obtain ⟨a1, ha1⟩ := gw_arp (ty := .byte) (by intro C h; cases h) (hts (.arrayClass .byte) (List.mem_of_getElem? (i := 83) (by decide +kernel)))
  obtain ⟨a2, ha2⟩ := gw_arp (ty := .boolean) (by intro C h; cases h) (hts (.arrayClass .boolean) (List.mem_of_getElem? (i := 172) (by decide +kernel)))
  obtain ⟨a3, ha3⟩ := gw_arq (C := "GownLet$Piece") (hts _ (gw_aoin _ (List.mem_map.mpr ⟨"GownLet$Piece", by decide, rfl⟩)))
  obtain ⟨a4, ha4⟩ := gw_arq (C := "GownLet$Booking") (hts _ (gw_aoin _ (List.mem_map.mpr ⟨"GownLet$Booking", by decide, rfl⟩)))
  obtain ⟨a5, ha5⟩ := gw_arq (C := "GownLet$Sheet") (hts _ (gw_aoin _ (List.mem_map.mpr ⟨"GownLet$Sheet", by decide, rfl⟩)))
  refine ⟨(fun k => if k = 0 then c0 else if k = 1 then c1 else if k = 2 then c2 else if k = 3 then c3 else if k = 4 then c4 else if k = 5 then c5 else if k = 6 then c6 else if k = 7 then c7 else if k = 8 then c8 else c9, fun k => if k = 0 then i0 else if k = 1 then i1 else if k = 2 then i2 else if k = 3 then i3 else if k = 4 then i4 else if k = 5 then i5 else if k = 6 then i6 else if k = 7 then i7 else if k = 8 then i8 else i9), fun k => if k = 0 then a0 else if k = 1 then a1 else if k = 2 then a2 else if k = 3 then a3 else if k = 4 then a4 else a5, ?_, ?_⟩
  · intro k q hq
    match k, hq with
    | 0, hq => cases hq; exact hn0
    | 1, hq => cases hq; exact hn1
    | 2, hq => cases hq; exact hn2
    | 3, hq => cases hq; exact hn3
    | 4, hq => cases hq; exact hn4
    | 5, hq => cases hq; exact hn5
    | 6, hq => cases hq; exact hn6
    | 7, hq => cases hq; exact hn7
    | 8, hq => cases hq; exact hn8
    | 9, hq => cases hq; exact hn9
    | k + 10, hq => simp [vwCl] at hq
  · intro k q hq
    match k, hq with
    | 0, hq => cases hq; exact ha0
    | 1, hq => cases hq; exact ha1
    | 2, hq => cases hq; exact ha2
    | 3, hq => cases hq; exact ha3
    | 4, hq => cases hq; exact ha4
    | 5, hq => cases hq; exact ha5
    | k + 6, hq => simp [gw_ty] at hq
theorem gw_st0 {s : State} {b : Nat} (hts : ∀ w ∈ lw_tbl, w.before #[Value.ref b] s = true) (hgv : (Jvm.Cond.and given_1 narrow_1).before #[Value.ref b] s = true) : ∃ t1 t2, gw_st t1 t2 (fun q : Nat => s.heap.size ≤ q) s s.heap := by
  have hs := flat_of_before _ hgv
  obtain ⟨t1, ev1, hT1⟩ := va_Tof (tm := (Term.static "GownLet$Terms" "LETTER" "[C")) (ty := .char) (N := 8) (f := fun j => .int (gw_LET j)) (A := fun q : Nat => s.heap.size ≤ q) (by decide) (hs (.arrayOf (Term.static "GownLet$Terms" "LETTER" "[C") .char) (by decide +kernel)) (va_eqt (z := 8) (hs (.eq (.length (Term.static "GownLet$Terms" "LETTER" "[C")) (.int 8)) (by decide +kernel))) (fun j hj => by
    rcases (show j = 0 ∨ j = 1 ∨ j = 2 ∨ j = 3 ∨ j = 4 ∨ j = 5 ∨ j = 6 ∨ j = 7 by omega) with rfl | rfl | rfl | rfl | rfl | rfl | rfl | rfl
    · exact va_eqt (z := 104) (hs (.eq (.elem (Term.static "GownLet$Terms" "LETTER" "[C") (.int 0)) (.int 104)) (by decide +kernel))
    · exact va_eqt (z := 99) (hs (.eq (.elem (Term.static "GownLet$Terms" "LETTER" "[C") (.int 1)) (.int 99)) (by decide +kernel))
    · exact va_eqt (z := 108) (hs (.eq (.elem (Term.static "GownLet$Terms" "LETTER" "[C") (.int 2)) (.int 108)) (by decide +kernel))
    · exact va_eqt (z := 100) (hs (.eq (.elem (Term.static "GownLet$Terms" "LETTER" "[C") (.int 3)) (.int 100)) (by decide +kernel))
    · exact va_eqt (z := 101) (hs (.eq (.elem (Term.static "GownLet$Terms" "LETTER" "[C") (.int 4)) (.int 101)) (by decide +kernel))
    · exact va_eqt (z := 115) (hs (.eq (.elem (Term.static "GownLet$Terms" "LETTER" "[C") (.int 5)) (.int 115)) (by decide +kernel))
    · exact va_eqt (z := 116) (hs (.eq (.elem (Term.static "GownLet$Terms" "LETTER" "[C") (.int 6)) (.int 116)) (by decide +kernel))
    · exact va_eqt (z := 119) (hs (.eq (.elem (Term.static "GownLet$Terms" "LETTER" "[C") (.int 7)) (.int 119)) (by decide +kernel))) (fun a ha => by omega)
  obtain ⟨t2, ev2, hT2⟩ := va_Tof (tm := (Term.static "GownLet$Terms" "MOST" "[I")) (ty := .int) (N := 8) (f := fun j => .int (gw_MST j)) (A := fun q : Nat => s.heap.size ≤ q) (by decide) (hs (.arrayOf (Term.static "GownLet$Terms" "MOST" "[I") .int) (by decide +kernel)) (va_eqt (z := 8) (hs (.eq (.length (Term.static "GownLet$Terms" "MOST" "[I")) (.int 8)) (by decide +kernel))) (fun j hj => by
    rcases (show j = 0 ∨ j = 1 ∨ j = 2 ∨ j = 3 ∨ j = 4 ∨ j = 5 ∨ j = 6 ∨ j = 7 by omega) with rfl | rfl | rfl | rfl | rfl | rfl | rfl | rfl
    · exact va_eqt (z := 9) (hs (.eq (.elem (Term.static "GownLet$Terms" "MOST" "[I") (.int 0)) (.int 9)) (by decide +kernel))
    · exact va_eqt (z := 9) (hs (.eq (.elem (Term.static "GownLet$Terms" "MOST" "[I") (.int 1)) (.int 9)) (by decide +kernel))
    · exact va_eqt (z := 999) (hs (.eq (.elem (Term.static "GownLet$Terms" "MOST" "[I") (.int 2)) (.int 999)) (by decide +kernel))
    · exact va_eqt (z := 100) (hs (.eq (.elem (Term.static "GownLet$Terms" "MOST" "[I") (.int 3)) (.int 100)) (by decide +kernel))
    · exact va_eqt (z := 9) (hs (.eq (.elem (Term.static "GownLet$Terms" "MOST" "[I") (.int 4)) (.int 9)) (by decide +kernel))
    · exact va_eqt (z := 999) (hs (.eq (.elem (Term.static "GownLet$Terms" "MOST" "[I") (.int 5)) (.int 999)) (by decide +kernel))
    · exact va_eqt (z := 999) (hs (.eq (.elem (Term.static "GownLet$Terms" "MOST" "[I") (.int 6)) (.int 999)) (by decide +kernel))
    · exact va_eqt (z := 3) (hs (.eq (.elem (Term.static "GownLet$Terms" "MOST" "[I") (.int 7)) (.int 3)) (by decide +kernel))) (fun a ha => by omega)
  refine ⟨t1, t2, ⟨va_Zof (hts (.laysStatic "GownLet$Terms" "LETTER" "[C") (List.mem_of_getElem? (i := 279) (by decide +kernel))) (hts (.initialized "GownLet$Terms") (List.mem_of_getElem? (i := 51) (by decide +kernel))) ev1 (fun a ha => by omega), hT1⟩, va_Zof (hts (.laysStatic "GownLet$Terms" "MOST" "[I") (List.mem_of_getElem? (i := 289) (by decide +kernel))) (hts (.initialized "GownLet$Terms") (List.mem_of_getElem? (i := 51) (by decide +kernel))) ev2 (fun a ha => by omega), hT2, gw_N0 hts⟩
end
