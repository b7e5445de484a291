section
/-! own rows: a state is read off as numbers (S k i: field or place i of the cell k); a method is a pure function over it; its contract: where the function answers, the method returns that, and the cells hold the new state -/
abbrev gw_S : Type := Nat → Nat → Int32
def gw_up (S : gw_S) (k i : Nat) (v : Int32) : gw_S := fun j => if j = k then upd (S k) i v else S j
def gw_rf (b : Nat → Nat) (v : Int32) : Option Nat := if v = -1 then none else some (b v.toNatClampNeg)
theorem gw_rfP {b : Nat → Nat} {v : Int32} (h : ¬ v = -1) : va_rf (gw_rf b v) = .ref (b v.toNatClampNeg) := by simp [gw_rf, h, va_rf]
theorem gw_rfN {b : Nat → Nat} {v : Int32} (h : v = -1) : va_rf (gw_rf b v) = .null := by simp [gw_rf, h, va_rf]
theorem gw_rf0 {b : Nat → Nat} : va_rf (gw_rf b (-1)) = .null := gw_rfN rfl
theorem gw_catq {o : Option Nat} : (va_rf o).category = 1 := by cases o <;> rfl
theorem gw_cI {x : Int32} : (Value.int x).category = 1 := rfl
theorem gw_cR {x : Nat} : (Value.ref x).category = 1 := rfl
theorem gw_cL {x : Int64} : (Value.long x).category = 2 := rfl
theorem gw_rn {C : String} {o : Option Nat} : narrow (.object C) (va_rf o) = va_rf o := by cases o <;> rfl
theorem gw_rfit {C : String} {o : Option Nat} : fits (.object C) (va_rf o) = true := by cases o <;> rfl
theorem gw_zn {v : Int32} (h : v = 0 ∨ v = 1) : narrow .boolean (.int v) = .int v := by rcases h with rfl | rfl <;> rfl
theorem gw_zf {v : Int32} (h : v = 0 ∨ v = 1) : fits .boolean (.int v) = true := by rcases h with rfl | rfl <;> rfl
def gw_F : Nat := 1000000000
abbrev gw_in (i : Int32) (n : Nat) : Prop := ¬ (i < 0 ∨ n ≤ i.toNatClampNeg)
abbrev gw_ok (n : Nat) (v : Int32) : Prop := v = -1 ∨ (0 ≤ v ∧ v.toNatClampNeg < n)
def gw_let {α β : Type} (x : α) (k : α → Option β) : Option β := k x
theorem gw_letE {α β : Type} {x : α} {k : α → Option β} {z : β} (h : gw_let x k = some z) : ∃ y, y = x ∧ k y = some z := ⟨x, rfl, h⟩
theorem gw_letN {α β : Type} {x y : α} {k : α → Option β} {z : β} (h : gw_let x k = some z) (e : y = x) : k y = some z := by subst e; exact h
def gw_bd {α β : Type} (o : Option α) (k : α → Option β) : Option β := match o with | none => none | some x => k x
theorem gw_bdE {α β : Type} {o : Option α} {k : α → Option β} {z : β} (h : gw_bd o k = some z) : ∃ y, o = some y ∧ k y = some z := by
  cases o with
  | none => cases h
  | some y => exact ⟨y, rfl, h⟩
def gw_b2 {β : Type} (o : Option (Int32 × gw_S)) (k : Int32 → gw_S → Option β) : Option β := match o with | none => none | some x => k x.1 x.2
theorem gw_b2E {β : Type} {o : Option (Int32 × gw_S)} {k : Int32 → gw_S → Option β} {z : β} (h : gw_b2 o k = some z) : ∃ r S, o = some (r, S) ∧ k r S = some z := by
  cases o with
  | none => cases h
  | some y => exact ⟨y.1, y.2, rfl, h⟩
def gw_gd {β : Type} (c : Prop) [Decidable c] (k : Option β) : Option β := if c then k else none
theorem gw_gdE {β : Type} {c : Prop} [Decidable c] {k : Option β} {z : β} (h : gw_gd c k = some z) : c ∧ k = some z := by
  unfold gw_gd at h
  by_cases hc : c
  · rw [if_pos hc] at h; exact ⟨hc, h⟩
  · rw [if_neg hc] at h; cases h
theorem gw_ifT {β : Type} {c : Prop} [Decidable c] {x y : Option β} {z : β} (hc : c) (h : (if c then x else y) = some z) : x = some z := by rw [if_pos hc] at h; exact h
theorem gw_ifF {β : Type} {c : Prop} [Decidable c] {x y : Option β} {z : β} (hc : ¬ c) (h : (if c then x else y) = some z) : y = some z := by rw [if_neg hc] at h; exact h
theorem gw_out4 {x : Int32} (h0 : ¬ x = 0) (h1 : ¬ x = 1) (h2 : ¬ x = 2) (h3 : ¬ x = 3) : x.toInt < 0 ∨ (3 : Int) < x.toInt := by
  have q0 : ¬ x.toInt = 0 := lv_neT h0 (by decide)
  have q1 : ¬ x.toInt = 1 := lv_neT h1 (by decide)
  have q2 : ¬ x.toInt = 2 := lv_neT h2 (by decide)
  have q3 : ¬ x.toInt = 3 := lv_neT h3 (by decide)
  omega
theorem gw_out8 {x : Int32} (h0 : ¬ x = 0) (h1 : ¬ x = 1) (h2 : ¬ x = 2) (h3 : ¬ x = 3) (h4 : ¬ x = 4) (h5 : ¬ x = 5) (h6 : ¬ x = 6) (h7 : ¬ x = 7) : x.toInt < 0 ∨ (7 : Int) < x.toInt := by
  have q0 : ¬ x.toInt = 0 := lv_neT h0 (by decide)
  have q1 : ¬ x.toInt = 1 := lv_neT h1 (by decide)
  have q2 : ¬ x.toInt = 2 := lv_neT h2 (by decide)
  have q3 : ¬ x.toInt = 3 := lv_neT h3 (by decide)
  have q4 : ¬ x.toInt = 4 := lv_neT h4 (by decide)
  have q5 : ¬ x.toInt = 5 := lv_neT h5 (by decide)
  have q6 : ¬ x.toInt = 6 := lv_neT h6 (by decide)
  have q7 : ¬ x.toInt = 7 := lv_neT h7 (by decide)
  omega
theorem gw_out10 {x : Int32} (h0 : ¬ x = 0) (h1 : ¬ x = 1) (h2 : ¬ x = 2) (h3 : ¬ x = 3) (h4 : ¬ x = 4) (h5 : ¬ x = 5) (h6 : ¬ x = 6) (h7 : ¬ x = 7) (h8 : ¬ x = 8) (h9 : ¬ x = 9) : x.toInt < 0 ∨ (9 : Int) < x.toInt := by
  have q0 : ¬ x.toInt = 0 := lv_neT h0 (by decide)
  have q1 : ¬ x.toInt = 1 := lv_neT h1 (by decide)
  have q2 : ¬ x.toInt = 2 := lv_neT h2 (by decide)
  have q3 : ¬ x.toInt = 3 := lv_neT h3 (by decide)
  have q4 : ¬ x.toInt = 4 := lv_neT h4 (by decide)
  have q5 : ¬ x.toInt = 5 := lv_neT h5 (by decide)
  have q6 : ¬ x.toInt = 6 := lv_neT h6 (by decide)
  have q7 : ¬ x.toInt = 7 := lv_neT h7 (by decide)
  have q8 : ¬ x.toInt = 8 := lv_neT h8 (by decide)
  have q9 : ¬ x.toInt = 9 := lv_neT h9 (by decide)
  omega
/-! the statics -/
def gw_LET : Nat → Int32 := fun j => ([104, 99, 108, 100, 101, 115, 116, 119] : List Int32).getD j 0
def gw_MST : Nat → Int32 := fun j => ([9, 9, 999, 100, 9, 999, 999, 3] : List Int32).getD j 0
def gw_nf : List (String × Nat × String × String × String) := [("GownLet", 100, "GownLet$Piece", "kind", "I"), ("GownLet", 103, "GownLet$Piece", "hem", "I"), ("GownLet", 115, "GownLet$House", "lies", "LGownLet$Lies;"), ("GownLet", 119, "GownLet$Lies", "doubles", "I"), ("GownLet", 134, "GownLet$Lies", "areAtOdds", "Z"), ("GownLet", 153, "GownLet$House", "bookingCount", "I"), ("GownLet", 163, "GownLet$Booking", "made", "I"), ("GownLet", 175, "GownLet$Booking", "calledOffOn", "I"), ("GownLet", 178, "GownLet$Booking", "piece", "LGownLet$Piece;"), ("GownLet", 207, "GownLet$Piece", "tornFrom", "I"), ("GownLet", 250, "GownLet$Booking", "deposit", "I"), ("GownLet", 255, "GownLet$Booking", "stage", "I"), ("GownLet", 261, "GownLet$Piece", "worn", "I"), ("GownLet", 276, "GownLet$Piece", "isToldRetired", "Z"), ("GownLet", 282, "GownLet$House", "pieceCount", "I"), ("GownLet", 300, "GownLet$Sheet", "isThere", "Z"), ("GownLet", 303, "GownLet$Sheet", "length", "I"), ("GownLet", 55, "GownLet$Tape", "length", "I"), ("GownLet", 59, "GownLet$House", "terms", "LGownLet$Terms;"), ("GownLet$Booking", 47, "GownLet$Piece", "number", "I"), ("GownLet$Chain", 34, "GownLet$House", "terms", "LGownLet$Terms;"), ("GownLet$Chain", 50, "GownLet$House", "bookingCount", "I"), ("GownLet$Chain", 64, "GownLet$Booking", "number", "I"), ("GownLet$Chain", 83, "GownLet$Booking", "piece", "LGownLet$Piece;"), ("GownLet$Chain", 87, "GownLet$House", "pieceCount", "I"), ("GownLet$Chain", 90, "GownLet$Booking", "night", "I"), ("GownLet$House", 102, "GownLet$Booking", "night", "I"), ("GownLet$House", 105, "GownLet$Piece", "town", "I"), ("GownLet$House", 108, "GownLet$Booking", "town", "I"), ("GownLet$House", 117, "GownLet$Booking", "piece", "LGownLet$Piece;"), ("GownLet$House", 136, "GownLet$Piece", "lot", "I"), ("GownLet$House", 157, "GownLet$Booking", "party", "I"), ("GownLet$House", 174, "GownLet$Piece", "price", "I"), ("GownLet$House", 180, "GownLet$Booking", "homeOn", "I"), ("GownLet$House", 186, "GownLet$Booking", "lookHome", "I"), ("GownLet$House", 189, "GownLet$Booking", "lookOut", "I"), ("GownLet$House", 52, "GownLet$Piece", "number", "I"), ("GownLet$House", 72, "GownLet$Piece", "label", "I"), ("GownLet$House", 75, "GownLet$Piece", "maker", "I"), ("GownLet$House", 81, "GownLet$Piece", "hem", "I"), ("GownLet$House", 87, "GownLet$Booking", "size", "I"), ("GownLet$House", 90, "GownLet$Booking", "wants", "I"), ("GownLet$Terms", 28, "GownLet$Tape", "length", "I")]
def gw_nm : List (String × Nat × MethodName) := [("GownLet", 34, ⟨"GownLet$Sheet", "<init>", "()V"⟩), ("GownLet", 9, ⟨"GownLet$Tape", "<init>", "()V"⟩), ("GownLet$House", 11, ⟨"GownLet$Terms", "<init>", "()V"⟩), ("GownLet$House", 207, ⟨"GownLet", "isIn", "(III)Z"⟩), ("GownLet$House", 62, ⟨"GownLet", "isTown", "(I)Z"⟩)]
def gw_N (U : State) : Prop := (∀ q ∈ gw_nf, va_Nw (.fieldLinkNest q.1 q.2.1 q.2.2.1 q.2.2.2.1 q.2.2.2.2 "GownLet") U) ∧ (∀ q ∈ gw_nm, va_Nw (.methodLinkNest q.1 q.2.1 q.2.2 "GownLet") U) ∧ ∀ C ∈ (["GownLet$Piece", "GownLet$Booking", "GownLet$Sheet"] : List String), va_AO C U
theorem gw_N.warm {s U : State} (hW : s.WarmedH U.vm) (h : gw_N s) : gw_N U := ⟨fun q hq => va_Nw.warmF hW (h.1 q hq), fun q hq => va_Nw.warmM hW (h.2.1 q hq), fun C hC => (h.2.2 C hC).moved hW.alike⟩
def gw_st (t1 t2 : Nat) (A : Nat → Prop) (U : State) (H : Heap) : Prop := (va_Z "GownLet$Terms" "LETTER" "[C" (.ref t1) A U H ∧ va_T .char t1 8 (fun j => .int (gw_LET j)) A U H) ∧ va_Z "GownLet$Terms" "MOST" "[I" (.ref t2) A U H ∧ va_T .int t2 8 (fun j => .int (gw_MST j)) A U H ∧ gw_N U
theorem gw_st.moved {t1 t2 : Nat} {A : Nat → Prop} {u U : State} {H : Heap} (hW : u.WarmedH U.vm) (h : gw_st t1 t2 A u H) : gw_st t1 t2 A U H := ⟨⟨h.1.1.moved hW.alike, h.1.2.moved hW.alike⟩, h.2.1.moved hW.alike, h.2.2.1.moved hW.alike, h.2.2.2.warm hW⟩
theorem gw_st.kept {t1 t2 : Nat} {A : Nat → Prop} {U : State} {H H1 : Heap} (h : gw_st t1 t2 A U H) (hq : ∀ a : Nat, a < H.size → ¬ A a → H1[a]? = H[a]?) : gw_st t1 t2 A U H1 := ⟨⟨h.1.1.kept hq, h.1.2.kept hq⟩, h.2.1.kept hq, h.2.2.1.kept hq, h.2.2.2⟩
theorem gw_st.narrow {t1 t2 : Nat} {A B : Nat → Prop} {U : State} {H : Heap} (h : gw_st t1 t2 A U H) (hAB : ∀ q, B q → A q) : gw_st t1 t2 B U H := ⟨⟨h.1.1.narrow hAB, h.1.2.narrow hAB⟩, h.2.1.narrow hAB, h.2.2.1.narrow hAB, h.2.2.2⟩
/-! contracts -/
abbrev gw_TY : Type := List (ClassId × FieldType)
def gw_Pre (D : va_G) (tys : gw_TY) (t1 t2 : Nat) (w : va_W) (sz : Nat) (U : State) : Prop := U.heap.size = sz ∧ va_P D vwCl w U.heap ∧ va_K D vwCl tys U ∧ va_D (fun _ => True) w ∧ gw_st t1 t2 (va_A w sz) U U.heap
def gw_Pst (D : va_G) (A : Nat → Prop) (W' : va_W → Prop) (t : State) : Prop := ∃ w', W' w' ∧ va_P D vwCl w' t.heap ∧ va_D A w'
def gw_Q (ov : Option Value) (B : State → Prop) (A : Nat → Prop) : Array Value → State → Outcome → State → Prop := fun _ st oc t => oc = .returned ov ∧ B t ∧ va_F A st t
def gw_M (l : Launch) (y : MethodName) (ws : List Cond) (rm : Room) (mc ms : Nat) (D : va_G) (tys : gw_TY) (t1 t2 : Nat) (av : List Value) (w : va_W) (W' : va_W → Prop) (ov : Option Value) : Prop :=
  ∀ sz : Nat, Met l y ws rm (va_Pc av (gw_Pre D tys t1 t2 w sz)) (gw_Q ov (gw_Pst D (va_A w sz) W') (va_A w sz)) mc ms (va_A w sz)
def gw_I (D : va_G) (A : Nat → Prop) (H0 : Heap) (w : va_W) (H : Heap) (locs : List Loc) : Prop := va_P D vwCl w H ∧ va_D A w ∧ va_S A H0 H locs
/-- what a body has at hand: the tables, the machine -/
def gw_B (p : Program) (s : State) (m : MethodId) (args : Array Value) (meth : Method) (c : Code) (cc : ByteArray) (nL : Nat) (Ts : List Cond) (own : String) (ret : Option FieldType) (D : va_G) (tys : gw_TY) (t1 t2 : Nat) (A : Nat → Prop) : Prop :=
  CallFix p m c cc nL s args Ts own ∧ (meth.sig.returnType = ret ∧ meth.locks = false) ∧ va_K D vwCl tys s ∧ gw_st t1 t2 A s s.heap ∧ ∀ q : Nat, s.heap.size ≤ q → A q
set_option maxHeartbeats 1000000 in
theorem gw_enter {l : Launch} {y : MethodName} {ws ws' : List Cond} {rm : Room} {mc ms : Nat} {D : va_G} {tys : gw_TY} {t1 t2 : Nat} {av : List Value} {w : va_W} {W' : va_W → Prop} {ov : Option Value} {cc : ByteArray} {maxL : Nat} {ret : Option FieldType} {own : String}
    (ho : y.cls = own) (hy : plainName y.cls = true) (hw : ws = Cond.code y cc maxL ret :: ws') (hlen : (lg_sl av).length ≤ maxL)
    (body : ∀ (p : Program) (e : Env) (s : State) (m : MethodId) (below : List Frame) (meth : Method) (c : Code) (A : Nat → Prop), gw_B p s m av.toArray meth c cc maxL ws own ret D tys t1 t2 A → meth.name = y.name → gw_I D A s.heap w s.heap [] → ∀ ls : Array Slot, lv_has ls maxL (lv_args 0 av) →
      W p l e rm s m av.toArray below meth c s.heap [] 0 0 (MQ below (gw_Q ov (gw_Pst D A W') A) av.toArray s mc ms A) (F0 m 0 ls [])) :
    gw_M l y ws rm mc ms D tys t1 t2 av w W' ov := by
  intro sz
  refine Met.ofW (cc := cc) (maxL := maxL) (ret := ret) hy hw ?_
  intro p e s m args below meth c s₁ B hml hv
  obtain ⟨rfl, hsz, hP, hK, hD0, hst⟩ := hv
  subst hsz
  subst ho
  rw [lg_entry_eq]
  exact body p e s m below meth c (va_A w s.heap.size) ⟨⟨B.exec, B.bytes, hml, findClass_of_methodNamed B.named, atoms_spec B.pre⟩, ⟨B.returns, B.notSynchronized⟩, hK, hst, fun q h => Or.inr h⟩ (name_of_methodNamed B.named B.method).1 ⟨hP, hD0.self, va_S.rf⟩ _ (lv_entry av hlen)
section GW
variable {p : Program} {l : Launch} {e : Env} {R : Room} {s : State} {m : MethodId} {args : Array Value} {below : List Frame} {meth : Method} {c : Code} {H : Heap} {locs : List Loc} {cells slots : Nat} {Q : State → Prop}
variable {cc : ByteArray} {nL : Nat} {Ts : List Cond} {own : String} {ret : Option FieldType} {D : va_G} {tys : gw_TY} {t1 t2 : Nat} {A : Nat → Prop} {w : va_W} {W' : va_W → Prop} {pc : Nat} {ls : Array Slot} {rest : List Value} {mc ms : Nat}
theorem gw_iret (B : gw_B p s m args meth c cc nL Ts own (some .int) D tys t1 t2 A) (hI : gw_I D A s.heap w H locs) (hw : W' w) {v : Int32} (h1 : cells ≤ mc) (h2 : slots ≤ ms) (hdg : decode cc pc = .ok (.ireturn, 1)) :
    W p l e R s m args below meth c H locs cells slots (MQ below (gw_Q (some (.int v)) (gw_Pst D A W') A) args s mc ms A) (F0 m pc ls [.int v]) :=
  W.widen h1 h2 (W.iret B.1.1 B.1.2.1 B.2.1.1 (fun t ht hW => ⟨rfl, ⟨w, hw, by rw [ht]; exact hI.1, hI.2.1⟩, hI.2.2.F ht⟩) hI.2.2.2.2 hdg B.2.1.2)
theorem gw_zret (B : gw_B p s m args meth c cc nL Ts own (some .boolean) D tys t1 t2 A) (hI : gw_I D A s.heap w H locs) (hw : W' w) {v : Int32} (hv : v = 0 ∨ v = 1) (h1 : cells ≤ mc) (h2 : slots ≤ ms) (hdg : decode cc pc = .ok (.ireturn, 1)) :
    W p l e R s m args below meth c H locs cells slots (MQ below (gw_Q (some (.int v)) (gw_Pst D A W') A) args s mc ms A) (F0 m pc ls [.int v]) :=
  W.widen h1 h2 (W.zret B.1.1 B.1.2.1 B.2.1.1 (by rcases hv with rfl | rfl <;> rfl) (fun t ht hW => ⟨rfl, ⟨w, hw, by rw [ht]; exact hI.1, hI.2.1⟩, hI.2.2.F ht⟩) hI.2.2.2.2 hdg B.2.1.2)
theorem gw_vret (B : gw_B p s m args meth c cc nL Ts own none D tys t1 t2 A) (hI : gw_I D A s.heap w H locs) (hw : W' w) (h1 : cells ≤ mc) (h2 : slots ≤ ms) (hdg : decode cc pc = .ok (.return_, 1)) :
    W p l e R s m args below meth c H locs cells slots (MQ below (gw_Q none (gw_Pst D A W') A) args s mc ms A) (F0 m pc ls []) :=
  W.widen h1 h2 (W.vret B.1.1 B.1.2.1 B.2.1.1 (fun t ht hW => ⟨rfl, ⟨w, hw, by rw [ht]; exact hI.1, hI.2.1⟩, hI.2.2.F ht⟩) hI.2.2.2.2 hdg B.2.1.2)
theorem gw_aret {C : String} (B : gw_B p s m args meth c cc nL Ts own (some (.object C)) D tys t1 t2 A) (hI : gw_I D A s.heap w H locs) (hw : W' w) {o : Option Nat} (h1 : cells ≤ mc) (h2 : slots ≤ ms) (hdg : decode cc pc = .ok (.areturn, 1)) :
    W p l e R s m args below meth c H locs cells slots (MQ below (gw_Q (some (va_rf o)) (gw_Pst D A W') A) args s mc ms A) (F0 m pc ls [va_rf o]) :=
  W.widen h1 h2 (W.aret B.1.1 B.1.2.1 B.2.1.1 (Or.inl ⟨_, rfl⟩) (by cases o with | none => exact Or.inl rfl | some a => exact Or.inr ⟨a, rfl⟩) (fun t ht hW => ⟨rfl, ⟨w, hw, by rw [ht]; exact hI.1, hI.2.1⟩, hI.2.2.F ht⟩) hI.2.2.2.2 hdg B.2.1.2)
theorem gw_sub (hI : gw_I D A s.heap w H locs) (hA : ∀ q : Nat, s.heap.size ≤ q → A q) : ∀ q, va_A w H.size q → A q := by
  intro q h
  rcases h with ⟨k, e, h⟩ | h
  · exact hI.2.1.2 k (q, e) h
  · exact hA q (Nat.le_trans hI.2.2.1 h)
theorem gw_go {a : Array Value} {ov : Option Value} {st0 : List Value} (hr : va_Run p l e R s m args below meth c H locs cells slots mc ms (F0 m pc ls st0) rest (gw_Q ov (gw_Pst D (va_A w H.size) W') (va_A w H.size) a) (va_A w H.size)) (hI : gw_I D A s.heap w H locs) (hA : ∀ q : Nat, s.heap.size ≤ q → A q)
    (kk : ∀ (w' : va_W) (H1 : Heap) (locs1 : List Loc), W' w' → gw_I D A s.heap w' H1 locs1 → W p l e R s m args below meth c H1 locs1 (cells + mc) (slots + ms) Q (F0 m (pc + 3) ls (ov.toList ++ rest))) : W p l e R s m args below meth c H locs cells slots Q (F0 m pc ls st0) := by
  intro T hT X
  obtain ⟨v, st₀, t, T', L, h0, X', hL, e1, e2, ⟨hv, ⟨w', hw', hP', hD'⟩, hz, hk⟩, st⟩ := hr T hT X
  cases hv
  rw [h0] at hz hk
  have hAA := gw_sub hI hA
  have hS := hI.2.2
  obtain ⟨t2, a1, b1⟩ := kk w' T'.heap (locs ++ L) hw' ⟨by rw [e1]; exact hP', hD'.weaken (fun _ _ _ h => hAA _ h),
    ⟨Nat.le_trans hS.1 (by rw [e1]; exact hz), fun q h1 h2 => by rw [e1, hk q (Nat.lt_of_lt_of_le h1 hS.1) (fun z => h2 (hAA q z))]; exact hS.2.1 q h1 h2, fun q hq => by
      rcases List.mem_append.mp hq with h | h
      · exact hS.2.2 q h
      · exact hAA _ (hL q h)⟩⟩ T' rfl X'
  exact ⟨t2, st t2 a1, b1⟩
theorem gw_blind {av : List Value} {sz : Nat} : FrameBlind (va_Pc av (gw_Pre D tys t1 t2 w sz)) := fun a U g mk q => by
  obtain ⟨q0, q1, qP, qK, qD, qs⟩ := q
  exact ⟨q0, q1, qP, va_K.moved (u := U) (U := U.calling g mk a) (Vm.Alike.refl U.vm) qK, qD, gw_st.moved (u := U) (U := U.calling g mk a) (State.WarmedH.refl U) qs⟩
theorem gw_pre (hK : va_K D vwCl tys s) (hst : gw_st t1 t2 A s s.heap) (hA : ∀ q : Nat, s.heap.size ≤ q → A q) (hI : gw_I D A s.heap w H locs) (U : State) (hU : U.heap = H) (hW : s.WarmedH U.vm) : gw_Pre D tys t1 t2 w H.size U := by
  have h1 : gw_st t1 t2 A s H := hst.kept hI.2.2.2.1
  have h2 := (h1.narrow (gw_sub hI hA)).moved hW
  subst hU
  exact ⟨rfl, hI.1, va_K.moved hW.alike hK, hI.2.1.weaken (fun _ _ _ _ => trivial), h2⟩
theorem gw_callV0 {y : MethodName} {bytes : ByteArray} {maxL index n b q0 ci : Nat} {retY : Option FieldType} {wsy wsy' : List Cond} {rm : Room} {C : String} {As fs : List Value} {ov : Option Value} {qC : vw_C} (B : gw_B p s m args meth c cc nL Ts own ret D tys t1 t2 A) (hI : gw_I D A s.heap w H locs)
    (hM : gw_M l y wsy rm mc ms D tys t1 t2 (.ref b :: As) w W' ov) (hT : GoodIn Ts (wsV own index C y wsy)) (hw : wsy = Cond.code y bytes maxL retY :: wsy') (hrc : rm.cells = mc) (hrs : rm.slots = ms)
    (hd : y.cls = C ∧ y.cls ≠ "java/lang/invoke/MethodHandle" ∧ y.cls ≠ "java/lang/invoke/VarHandle" ∧ (parseMethodDescriptor y.desc).map (fun d => d.parameters.length) = some n) (hR : rm.frames + 1 ≤ R.frames ∧ 8 + (maxL + 11) + rm.locals ≤ R.locals)
    (he : w[q0]? = some (b, .inr (ci, fs))) (hc : vwCl[ci]? = some qC) (hC : qC.1 = C) (hn : As.length = n) (hsz : ls.size = nL) (hr8 : (rest.map fun v => v.category).sum ≤ 8) (hdg : decode cc pc = .ok (.invokevirtual index, 3)) (hf : cells + mc ≤ R.cells ∧ slots + ms ≤ R.slots)
    {st0 : List Value} (hst0 : st0 = As.reverse ++ .ref b :: rest)
    (kk : ∀ (w' : va_W) (H1 : Heap) (locs1 : List Loc), W' w' → gw_I D A s.heap w' H1 locs1 → W p l e R s m args below meth c H1 locs1 (cells + mc) (slots + ms) Q (F0 m (pc + 3) ls (ov.toList ++ rest))) : W p l e R s m args below meth c H locs cells slots Q (F0 m pc ls st0) := by
  obtain ⟨C0, -, hK, hst, hA⟩ := B
  refine gw_go (va_runV (As := As) (rest := rest) C0 (hM H.size) (cwV n C0.2.2.2.2 hT hw hrc hrs hd hR) ⟨gw_blind, ?_, fun U hU hW => ⟨rfl, gw_pre hK hst hA hI U hU hW⟩⟩ rfl hn hsz hst0 (lv_room hr8) hdg hf) hI hA kk
  have h := va_recv hK hI.1 hc he
  rw [hC] at h
  exact h
theorem gw_callS0 {y : MethodName} {bytes : ByteArray} {maxL index n : Nat} {retY : Option FieldType} {wsy wsy' : List Cond} {rm : Room} {As : List Value} {ov : Option Value} (B : gw_B p s m args meth c cc nL Ts own ret D tys t1 t2 A) (hI : gw_I D A s.heap w H locs)
    (hM : gw_M l y wsy rm mc ms D tys t1 t2 As w W' ov) (hT : GoodIn Ts (va_wsS own index y wsy)) (hw : wsy = Cond.code y bytes maxL retY :: wsy') (hrc : rm.cells = mc) (hrs : rm.slots = ms)
    (hd : y.cls ≠ "java/lang/invoke/MethodHandle" ∧ y.cls ≠ "java/lang/invoke/VarHandle" ∧ (parseMethodDescriptor y.desc).map (fun d => d.parameters.length) = some n) (hR : rm.frames + 1 ≤ R.frames ∧ 8 + (maxL + 11) + rm.locals ≤ R.locals)
    (hn : As.length = n) (hsz : ls.size = nL) (hr8 : (rest.map fun v => v.category).sum ≤ 8) (hdg : decode cc pc = .ok (.invokestatic index, 3)) (hf : cells + mc ≤ R.cells ∧ slots + ms ≤ R.slots)
    {st0 : List Value} (hst0 : st0 = As.reverse ++ rest)
    (kk : ∀ (w' : va_W) (H1 : Heap) (locs1 : List Loc), W' w' → gw_I D A s.heap w' H1 locs1 → W p l e R s m args below meth c H1 locs1 (cells + mc) (slots + ms) Q (F0 m (pc + 3) ls (ov.toList ++ rest))) : W p l e R s m args below meth c H locs cells slots Q (F0 m pc ls st0) := by
  obtain ⟨C0, -, hK, hst, hA⟩ := B
  have ok : ∀ w ∈ va_wsS own index y wsy, w.before args s = true := fun w h => C0.2.2.2.2 w (hT w h).1
  exact gw_go (va_runS (As := As) (rest := rest) C0 (hM H.size) ⟨callB_of n C0.2.2.2.2 (fun w h => hT w (by unfold va_wsS; exact List.mem_append_right _ h)) hw hrc hrs (ok _ (by simp [va_wsS])) (ok _ (by simp [va_wsS])) hd hR, ok _ (by simp [va_wsS])⟩ ⟨gw_blind, fun U hU hW => ⟨rfl, gw_pre hK hst hA hI U hU hW⟩⟩ rfl hn hsz hst0 (lv_room hr8) hdg hf) hI hA kk
theorem gw_get {index q0 a ci N k : Nat} {fs : List Value} {C ref n d : String} {T : u_T} {v : Value} (B : gw_B p s m args meth c cc nL Ts own ret D tys t1 t2 A) (hI : gw_I D A s.heap w H locs) (he : w[q0]? = some (a, .inr (ci, fs))) (hc : vwCl[ci]? = some (C, T, N)) (hin : ∀ w ∈ u_ws C T N, w ∈ Ts) (hk : k < N) (hlink : Cond.fieldLink own index ref n d ∈ Ts) (hT : T k = (ref, n, d, (T k).2.2.2)) (hv : fs[k]? = some v) (hdg : decode cc pc = .ok (.getfield index, 3))
    (kk : W p l e R s m args below meth c H locs cells slots Q (F0 m (pc + 3) ls (v :: rest))) : W p l e R s m args below meth c H locs cells slots Q (F0 m pc ls (.ref a :: rest)) :=
  va_get (D := D) B.1.1 B.1.2.1 B.1.2.2.2.2 hin B.1.2.2.2.1 B.2.2.1 hI.1 q0 he hc k hk (by rw [hT]; exact B.1.2.2.2.2 _ hlink) (by rw [hT]; exact fun _ h => h) hv hdg kk
theorem gw_put {index q0 a ci N k : Nat} {fs : List Value} {C ref n d : String} {T : u_T} {v : Value} {ty : FieldType} {w' : va_W} (B : gw_B p s m args meth c cc nL Ts own ret D tys t1 t2 A) (hI : gw_I D A s.heap w H locs) (he : w[q0]? = some (a, .inr (ci, fs))) (hc : vwCl[ci]? = some (C, T, N)) (hin : ∀ w ∈ u_ws C T N, w ∈ Ts) (ty0 : Nat → FieldType) (hty : ∀ k, k < N → parseFieldDescriptor (T k).2.2.1 = some (ty0 k)) (hnm : ∀ a, a < N → ∀ b, b < N → a ≠ b → (T a).2.1 ≠ (T b).2.1) (hk : k < N) (hlink : Cond.fieldLink own index ref n d ∈ Ts) (hT : T k = (ref, n, d, false)) (hd : ty0 k = ty) (hn : narrow ty v = v) (hfit : fits ty v = true) (hl : k < fs.length) (hset : w.set q0 (a, .inr (ci, fs.set k v)) = w') (hdg : decode cc pc = .ok (.putfield index, 3))
    (kk : ∀ (H1 : Heap) (locs1 : List Loc), gw_I D A s.heap w' H1 locs1 → W p l e R s m args below meth c H1 locs1 cells slots Q (F0 m (pc + 3) ls rest)) : W p l e R s m args below meth c H locs cells slots Q (F0 m pc ls (v :: .ref a :: rest)) := by
  subst hset
  subst hd
  exact va_put (D := D) (ty := ty0 k) B.1.1 B.1.2.1 B.1.2.2.2.2 hin ty0 hty hnm B.1.2.2.2.1 B.2.2.1 hI.1 hI.2.1 hI.2.2 q0 he hc k hk (by rw [hT]; exact B.1.2.2.2.2 _ hlink) (by rw [hT]; exact fun _ h => h) (by rw [hT]) (hty k hk) hn hfit hl hdg (fun H1 locs1 hP hD hS => kk H1 locs1 ⟨hP, hD, hS⟩)
theorem gw_iald {q0 t0 a n : Nat} {cA : ClassId} {f : Nat → Int32} {i : Int32} (B : gw_B p s m args meth c cc nL Ts own ret D tys t1 t2 A) (hI : gw_I D A s.heap w H locs) (ha : w[q0]? = some (a, .inl (cA, n, .inl f))) (ht : tys[t0]? = some (cA, .int)) (hin : gw_in i n) (hdg : decode cc pc = .ok (.iaload, 1))
    (kk : W p l e R s m args below meth c H locs cells slots Q (F0 m (pc + 1) ls (.int (f i.toNatClampNeg) :: rest))) : W p l e R s m args below meth c H locs cells slots Q (F0 m pc ls (.int i :: .ref a :: rest)) :=
  va_iald B.1.1 B.1.2.1 B.2.2.1 hI.1 q0 t0 ha ht hin hdg kk
theorem gw_bald {q0 t0 a n : Nat} {cA : ClassId} {f : Nat → Int32} {i : Int32} (B : gw_B p s m args meth c cc nL Ts own ret D tys t1 t2 A) (hI : gw_I D A s.heap w H locs) (ha : w[q0]? = some (a, .inl (cA, n, .inl f))) (ht : tys[t0]? = some (cA, .byte)) (hin : gw_in i n) (hdg : decode cc pc = .ok (.baload, 1))
    (kk : W p l e R s m args below meth c H locs cells slots Q (F0 m (pc + 1) ls (.int (f i.toNatClampNeg) :: rest))) : W p l e R s m args below meth c H locs cells slots Q (F0 m pc ls (.int i :: .ref a :: rest)) :=
  va_bald B.1.1 B.1.2.1 B.2.2.1 hI.1 q0 t0 ha ht hin hdg kk
theorem gw_zald {q0 t0 a n : Nat} {cA : ClassId} {f : Nat → Int32} {i : Int32} (B : gw_B p s m args meth c cc nL Ts own ret D tys t1 t2 A) (hI : gw_I D A s.heap w H locs) (ha : w[q0]? = some (a, .inl (cA, n, .inl f))) (ht : tys[t0]? = some (cA, .boolean)) (hin : gw_in i n) (hdg : decode cc pc = .ok (.baload, 1))
    (kk : W p l e R s m args below meth c H locs cells slots Q (F0 m (pc + 1) ls (.int (f i.toNatClampNeg) :: rest))) : W p l e R s m args below meth c H locs cells slots Q (F0 m pc ls (.int i :: .ref a :: rest)) :=
  va_zald B.1.1 B.1.2.1 B.2.2.1 hI.1 q0 t0 ha ht hin hdg kk
theorem gw_aald {q0 t0 a n : Nat} {cA : ClassId} {C : String} {f : Nat → Option Nat} {i : Int32} {v : Value} (B : gw_B p s m args meth c cc nL Ts own ret D tys t1 t2 A) (hI : gw_I D A s.heap w H locs) (ha : w[q0]? = some (a, .inl (cA, n, .inr (.inr (.inr (.inr f)))))) (ht : tys[t0]? = some (cA, .object C)) (hin : gw_in i n) (hv : va_rf (f i.toNatClampNeg) = v) (hdg : decode cc pc = .ok (.aaload, 1))
    (kk : W p l e R s m args below meth c H locs cells slots Q (F0 m (pc + 1) ls (v :: rest))) : W p l e R s m args below meth c H locs cells slots Q (F0 m pc ls (.int i :: .ref a :: rest)) := by
  subst hv
  exact va_aldq B.1.1 B.1.2.1 B.2.2.1 hI.1 q0 t0 ha ht hin hdg kk
theorem gw_iast {q0 t0 a n : Nat} {cA : ClassId} {f : Nat → Int32} {i x : Int32} {w' : va_W} (B : gw_B p s m args meth c cc nL Ts own ret D tys t1 t2 A) (hI : gw_I D A s.heap w H locs) (ha : w[q0]? = some (a, .inl (cA, n, .inl f))) (ht : tys[t0]? = some (cA, .int)) (hin : gw_in i n) (hset : w.set q0 (a, .inl (cA, n, .inl (upd f i.toNatClampNeg x))) = w') (hdg : decode cc pc = .ok (.iastore, 1))
    (kk : ∀ (H1 : Heap) (locs1 : List Loc), gw_I D A s.heap w' H1 locs1 → W p l e R s m args below meth c H1 locs1 cells slots Q (F0 m (pc + 1) ls rest)) : W p l e R s m args below meth c H locs cells slots Q (F0 m pc ls (.int x :: .int i :: .ref a :: rest)) := by
  subst hset
  exact va_iast B.1.1 B.1.2.1 B.2.2.1 hI.1 hI.2.1 hI.2.2 q0 t0 ha ht hin hdg (fun H1 locs1 hP hD hS => kk H1 locs1 ⟨hP, hD, hS⟩)
theorem gw_bast {q0 t0 a n : Nat} {cA : ClassId} {f : Nat → Int32} {i x : Int32} {w' : va_W} (B : gw_B p s m args meth c cc nL Ts own ret D tys t1 t2 A) (hI : gw_I D A s.heap w H locs) (ha : w[q0]? = some (a, .inl (cA, n, .inl f))) (ht : tys[t0]? = some (cA, .byte)) (hin : gw_in i n) (hset : w.set q0 (a, .inl (cA, n, .inl (upd f i.toNatClampNeg (vp_nar .byte x)))) = w') (hdg : decode cc pc = .ok (.bastore, 1))
    (kk : ∀ (H1 : Heap) (locs1 : List Loc), gw_I D A s.heap w' H1 locs1 → W p l e R s m args below meth c H1 locs1 cells slots Q (F0 m (pc + 1) ls rest)) : W p l e R s m args below meth c H locs cells slots Q (F0 m pc ls (.int x :: .int i :: .ref a :: rest)) := by
  subst hset
  exact va_bast B.1.1 B.1.2.1 B.2.2.1 hI.1 hI.2.1 hI.2.2 q0 t0 ha ht hin hdg (fun H1 locs1 hP hD hS => kk H1 locs1 ⟨hP, hD, hS⟩)
theorem gw_zast {q0 t0 a n : Nat} {cA : ClassId} {f : Nat → Int32} {i x : Int32} {w' : va_W} (B : gw_B p s m args meth c cc nL Ts own ret D tys t1 t2 A) (hI : gw_I D A s.heap w H locs) (ha : w[q0]? = some (a, .inl (cA, n, .inl f))) (ht : tys[t0]? = some (cA, .boolean)) (hin : gw_in i n) (hset : w.set q0 (a, .inl (cA, n, .inl (upd f i.toNatClampNeg (vp_nar .boolean x)))) = w') (hdg : decode cc pc = .ok (.bastore, 1))
    (kk : ∀ (H1 : Heap) (locs1 : List Loc), gw_I D A s.heap w' H1 locs1 → W p l e R s m args below meth c H1 locs1 cells slots Q (F0 m (pc + 1) ls rest)) : W p l e R s m args below meth c H locs cells slots Q (F0 m pc ls (.int x :: .int i :: .ref a :: rest)) := by
  subst hset
  exact va_zast B.1.1 B.1.2.1 B.2.2.1 hI.1 hI.2.1 hI.2.2 q0 t0 ha ht hin hdg (fun H1 locs1 hP hD hS => kk H1 locs1 ⟨hP, hD, hS⟩)
theorem gw_alen {q0 t0 a n : Nat} {cA : ClassId} {f : Nat → Int32} {v : Int32} (B : gw_B p s m args meth c cc nL Ts own ret D tys t1 t2 A) (hI : gw_I D A s.heap w H locs) (ha : w[q0]? = some (a, .inl (cA, n, .inl f))) (ht : tys[t0]? = some (cA, .int)) (hv : Int32.ofNat n = v) (hdg : decode cc pc = .ok (.arraylength, 1))
    (kk : W p l e R s m args below meth c H locs cells slots Q (F0 m (pc + 1) ls (.int v :: rest))) : W p l e R s m args below meth c H locs cells slots Q (F0 m pc ls (.ref a :: rest)) :=
  va_alen B.1.1 B.1.2.1 B.2.2.1 hI.1 q0 t0 (x := (n, .inl f)) ha ht hv hdg kk
theorem gw_ifnull {b : Nat → Nat} {v : Int32} {off : Int} {tgt : Nat} (B : gw_B p s m args meth c cc nL Ts own ret D tys t1 t2 A) (hdg : decode cc pc = .ok (.ifnull off, 3)) (ht : (pc : Int) + off = (tgt : Int))
    (kt : v = -1 → W p l e R s m args below meth c H locs cells slots Q (F0 m tgt ls rest)) (kf : ¬ v = -1 → W p l e R s m args below meth c H locs cells slots Q (F0 m (pc + 3) ls rest)) : W p l e R s m args below meth c H locs cells slots Q (F0 m pc ls (va_rf (gw_rf b v) :: rest)) := by
  by_cases h : v = -1
  · rw [gw_rfN h]; exact lv_ifnullN B.1.1 B.1.2.1 hdg ht (kt h)
  · rw [gw_rfP h]; exact lv_ifnull B.1.1 B.1.2.1 hdg (kf h)
theorem gw_ifnonnull {b : Nat → Nat} {v : Int32} {off : Int} {tgt : Nat} (B : gw_B p s m args meth c cc nL Ts own ret D tys t1 t2 A) (hdg : decode cc pc = .ok (.ifnonnull off, 3)) (ht : (pc : Int) + off = (tgt : Int))
    (kt : ¬ v = -1 → W p l e R s m args below meth c H locs cells slots Q (F0 m tgt ls rest)) (kf : v = -1 → W p l e R s m args below meth c H locs cells slots Q (F0 m (pc + 3) ls rest)) : W p l e R s m args below meth c H locs cells slots Q (F0 m pc ls (va_rf (gw_rf b v) :: rest)) := by
  by_cases h : v = -1
  · rw [gw_rfN h]; exact lv_ifnonnullN B.1.1 B.1.2.1 hdg (kf h)
  · rw [gw_rfP h]; exact lv_ifnonnull B.1.1 B.1.2.1 hdg ht (kt h)
theorem gw_null {b : Nat → Nat} (B : gw_B p s m args meth c cc nL Ts own ret D tys t1 t2 A) (hdg : decode cc pc = .ok (.aconst_null, 1)) (kk : W p l e R s m args below meth c H locs cells slots Q (F0 m (pc + 1) ls (va_rf (gw_rf b (-1)) :: rest))) : W p l e R s m args below meth c H locs cells slots Q (F0 m pc ls rest) :=
  lv_null B.1.1 B.1.2.1 hdg (by rw [gw_rf0] at kk; exact kk)
theorem gw_aload {o : Option Nat} {i : Nat} (B : gw_B p s m args meth c cc nL Ts own ret D tys t1 t2 A) (hdg : decode cc pc = .ok (.aload i, 2)) (hl : ls[i]? = some (.val (va_rf o)))
    (kk : W p l e R s m args below meth c H locs cells slots Q (F0 m (pc + 2) ls (va_rf o :: rest))) : W p l e R s m args below meth c H locs cells slots Q (F0 m pc ls rest) := by
  cases o with
  | none => exact lv_aloadN B.1.1 B.1.2.1 hdg hl kk
  | some x => exact lv_aload B.1.1 B.1.2.1 hdg hl kk
theorem gw_aload_n {o : Option Nat} {k : Fin 4} {i : Nat} (B : gw_B p s m args meth c cc nL Ts own ret D tys t1 t2 A) (hdg : decode cc pc = .ok (.aload_n k, 1)) (hi : (k : Nat) = i) (hl : ls[i]? = some (.val (va_rf o)))
    (kk : W p l e R s m args below meth c H locs cells slots Q (F0 m (pc + 1) ls (va_rf o :: rest))) : W p l e R s m args below meth c H locs cells slots Q (F0 m pc ls rest) := by
  cases o with
  | none => exact lv_aload_nN B.1.1 B.1.2.1 hdg hi hl kk
  | some x => exact lv_aload_n B.1.1 B.1.2.1 hdg hi hl kk
theorem gw_astore {o : Option Nat} {i : Nat} {lv lv' : List (Nat × Value)} (B : gw_B p s m args meth c cc nL Ts own ret D tys t1 t2 A) (hdg : decode cc pc = .ok (.astore i, 2)) (h : lv_has ls nL lv) (hn : i < nL) (hl : (i, va_rf o) :: lv.filter (fun q => !(q.1 == i) && !(q.1 + 1 == i && q.2.category == 2)) = lv')
    (kk : ∀ ls' : Array Slot, lv_has ls' nL lv' → W p l e R s m args below meth c H locs cells slots Q (F0 m (pc + 2) ls' rest)) : W p l e R s m args below meth c H locs cells slots Q (F0 m pc ls (va_rf o :: rest)) := by
  cases o with
  | none => exact lv_astoreN B.1.1 B.1.2.1 hdg h hn hl kk
  | some x => exact lv_astore B.1.1 B.1.2.1 hdg h hn hl kk
theorem gw_astore_n {o : Option Nat} {k : Fin 4} {i : Nat} {lv lv' : List (Nat × Value)} (B : gw_B p s m args meth c cc nL Ts own ret D tys t1 t2 A) (hdg : decode cc pc = .ok (.astore_n k, 1)) (hi : (k : Nat) = i) (h : lv_has ls nL lv) (hn : i < nL) (hl : (i, va_rf o) :: lv.filter (fun q => !(q.1 == i) && !(q.1 + 1 == i && q.2.category == 2)) = lv')
    (kk : ∀ ls' : Array Slot, lv_has ls' nL lv' → W p l e R s m args below meth c H locs cells slots Q (F0 m (pc + 1) ls' rest)) : W p l e R s m args below meth c H locs cells slots Q (F0 m pc ls (va_rf o :: rest)) := by
  cases o with
  | none => exact lv_astore_nN B.1.1 B.1.2.1 hdg hi h hn hl kk
  | some x => exact lv_astore_n B.1.1 B.1.2.1 hdg hi h hn hl kk
/-- a switch's row for one number -/
theorem gw_tabIn {dflt lo hi : Int} {offs : Array Int} {len : Nat} {x k : Int32} {off : Int} {tgt : Nat} (B : gw_B p s m args meth c cc nL Ts own ret D tys t1 t2 A) (hx : x = k) (hdg : decode cc pc = .ok (.tableswitch dflt lo hi offs, len)) (h1 : ¬ k.toInt < lo ∧ ¬ hi < k.toInt ∧ offs[(k.toInt - lo).toNat]? = some off) (ht : (pc : Int) + off = (tgt : Int))
    (kk : W p l e R s m args below meth c H locs cells slots Q (F0 m tgt ls rest)) : W p l e R s m args below meth c H locs cells slots Q (F0 m pc ls (.int x :: rest)) := by
  subst hx
  exact lv_tableIn B.1.1 B.1.2.1 hdg h1.1 h1.2.1 h1.2.2 ht kk
theorem gw_lookIn {dflt : Int} {ps : Array (Int × Int)} {len : Nat} {x k : Int32} {off : Int} {tgt : Nat} (B : gw_B p s m args meth c cc nL Ts own ret D tys t1 t2 A) (hx : x = k) (hdg : decode cc pc = .ok (.lookupswitch dflt ps, len)) (hp : (ps.toList.zip (ps.toList.drop 1)).all (fun (a, next) => a.1 < next.1) = true) (ho : Op.lookupswitch.offset ps.toList dflt k.toInt = off) (ht : (pc : Int) + off = (tgt : Int))
    (kk : W p l e R s m args below meth c H locs cells slots Q (F0 m tgt ls rest)) : W p l e R s m args below meth c H locs cells slots Q (F0 m pc ls (.int x :: rest)) := by
  subst hx
  exact lv_lookup B.1.1 B.1.2.1 hdg hp ho ht kk
theorem gw_callVv {y : MethodName} {bytes : ByteArray} {maxL index n b q0 ci : Nat} {retY : Option FieldType} {wsy wsy' : List Cond} {rm : Room} {C : String} {As fs : List Value} {qC : vw_C} (B : gw_B p s m args meth c cc nL Ts own ret D tys t1 t2 A) (hI : gw_I D A s.heap w H locs)
    (hM : gw_M l y wsy rm mc ms D tys t1 t2 (.ref b :: As) w W' none) (hT : GoodIn Ts (wsV own index C y wsy)) (hw : wsy = Cond.code y bytes maxL retY :: wsy') (hrc : rm.cells = mc) (hrs : rm.slots = ms)
    (hd : y.cls = C ∧ y.cls ≠ "java/lang/invoke/MethodHandle" ∧ y.cls ≠ "java/lang/invoke/VarHandle" ∧ (parseMethodDescriptor y.desc).map (fun d => d.parameters.length) = some n) (hR : rm.frames + 1 ≤ R.frames ∧ 8 + (maxL + 11) + rm.locals ≤ R.locals)
    (he : w[q0]? = some (b, .inr (ci, fs))) (hc : vwCl[ci]? = some qC) (hC : qC.1 = C) (hn : As.length = n) (hsz : ls.size = nL) (hr8 : (rest.map fun v => v.category).sum ≤ 8) (hdg : decode cc pc = .ok (.invokevirtual index, 3)) (hf : cells + mc ≤ R.cells ∧ slots + ms ≤ R.slots)
    {st0 : List Value} (hst0 : st0 = As.reverse ++ .ref b :: rest)
    (kk : ∀ (w' : va_W) (H1 : Heap) (locs1 : List Loc), W' w' → gw_I D A s.heap w' H1 locs1 → W p l e R s m args below meth c H1 locs1 (cells + mc) (slots + ms) Q (F0 m (pc + 3) ls rest)) : W p l e R s m args below meth c H locs cells slots Q (F0 m pc ls st0) :=
  gw_callV0 B hI hM hT hw hrc hrs hd hR he hc hC hn hsz hr8 hdg hf hst0 kk
theorem gw_callV {v : Value} {y : MethodName} {bytes : ByteArray} {maxL index n b q0 ci : Nat} {retY : Option FieldType} {wsy wsy' : List Cond} {rm : Room} {C : String} {As fs : List Value} {qC : vw_C} (B : gw_B p s m args meth c cc nL Ts own ret D tys t1 t2 A) (hI : gw_I D A s.heap w H locs)
    (hM : gw_M l y wsy rm mc ms D tys t1 t2 (.ref b :: As) w W' (some v)) (hT : GoodIn Ts (wsV own index C y wsy)) (hw : wsy = Cond.code y bytes maxL retY :: wsy') (hrc : rm.cells = mc) (hrs : rm.slots = ms)
    (hd : y.cls = C ∧ y.cls ≠ "java/lang/invoke/MethodHandle" ∧ y.cls ≠ "java/lang/invoke/VarHandle" ∧ (parseMethodDescriptor y.desc).map (fun d => d.parameters.length) = some n) (hR : rm.frames + 1 ≤ R.frames ∧ 8 + (maxL + 11) + rm.locals ≤ R.locals)
    (he : w[q0]? = some (b, .inr (ci, fs))) (hc : vwCl[ci]? = some qC) (hC : qC.1 = C) (hn : As.length = n) (hsz : ls.size = nL) (hr8 : (rest.map fun v => v.category).sum ≤ 8) (hdg : decode cc pc = .ok (.invokevirtual index, 3)) (hf : cells + mc ≤ R.cells ∧ slots + ms ≤ R.slots)
    {st0 : List Value} (hst0 : st0 = As.reverse ++ .ref b :: rest)
    (kk : ∀ (w' : va_W) (H1 : Heap) (locs1 : List Loc), W' w' → gw_I D A s.heap w' H1 locs1 → W p l e R s m args below meth c H1 locs1 (cells + mc) (slots + ms) Q (F0 m (pc + 3) ls (v :: rest))) : W p l e R s m args below meth c H locs cells slots Q (F0 m pc ls st0) :=
  gw_callV0 B hI hM hT hw hrc hrs hd hR he hc hC hn hsz hr8 hdg hf hst0 kk
theorem gw_callSv {y : MethodName} {bytes : ByteArray} {maxL index n : Nat} {retY : Option FieldType} {wsy wsy' : List Cond} {rm : Room} {As : List Value} (B : gw_B p s m args meth c cc nL Ts own ret D tys t1 t2 A) (hI : gw_I D A s.heap w H locs)
    (hM : gw_M l y wsy rm mc ms D tys t1 t2 As w W' none) (hT : GoodIn Ts (va_wsS own index y wsy)) (hw : wsy = Cond.code y bytes maxL retY :: wsy') (hrc : rm.cells = mc) (hrs : rm.slots = ms)
    (hd : y.cls ≠ "java/lang/invoke/MethodHandle" ∧ y.cls ≠ "java/lang/invoke/VarHandle" ∧ (parseMethodDescriptor y.desc).map (fun d => d.parameters.length) = some n) (hR : rm.frames + 1 ≤ R.frames ∧ 8 + (maxL + 11) + rm.locals ≤ R.locals)
    (hn : As.length = n) (hsz : ls.size = nL) (hr8 : (rest.map fun v => v.category).sum ≤ 8) (hdg : decode cc pc = .ok (.invokestatic index, 3)) (hf : cells + mc ≤ R.cells ∧ slots + ms ≤ R.slots)
    {st0 : List Value} (hst0 : st0 = As.reverse ++ rest)
    (kk : ∀ (w' : va_W) (H1 : Heap) (locs1 : List Loc), W' w' → gw_I D A s.heap w' H1 locs1 → W p l e R s m args below meth c H1 locs1 (cells + mc) (slots + ms) Q (F0 m (pc + 3) ls rest)) : W p l e R s m args below meth c H locs cells slots Q (F0 m pc ls st0) :=
  gw_callS0 B hI hM hT hw hrc hrs hd hR hn hsz hr8 hdg hf hst0 kk
theorem gw_callS {v : Value} {y : MethodName} {bytes : ByteArray} {maxL index n : Nat} {retY : Option FieldType} {wsy wsy' : List Cond} {rm : Room} {As : List Value} (B : gw_B p s m args meth c cc nL Ts own ret D tys t1 t2 A) (hI : gw_I D A s.heap w H locs)
    (hM : gw_M l y wsy rm mc ms D tys t1 t2 As w W' (some v)) (hT : GoodIn Ts (va_wsS own index y wsy)) (hw : wsy = Cond.code y bytes maxL retY :: wsy') (hrc : rm.cells = mc) (hrs : rm.slots = ms)
    (hd : y.cls ≠ "java/lang/invoke/MethodHandle" ∧ y.cls ≠ "java/lang/invoke/VarHandle" ∧ (parseMethodDescriptor y.desc).map (fun d => d.parameters.length) = some n) (hR : rm.frames + 1 ≤ R.frames ∧ 8 + (maxL + 11) + rm.locals ≤ R.locals)
    (hn : As.length = n) (hsz : ls.size = nL) (hr8 : (rest.map fun v => v.category).sum ≤ 8) (hdg : decode cc pc = .ok (.invokestatic index, 3)) (hf : cells + mc ≤ R.cells ∧ slots + ms ≤ R.slots)
    {st0 : List Value} (hst0 : st0 = As.reverse ++ rest)
    (kk : ∀ (w' : va_W) (H1 : Heap) (locs1 : List Loc), W' w' → gw_I D A s.heap w' H1 locs1 → W p l e R s m args below meth c H1 locs1 (cells + mc) (slots + ms) Q (F0 m (pc + 3) ls (v :: rest))) : W p l e R s m args below meth c H locs cells slots Q (F0 m pc ls st0) :=
  gw_callS0 B hI hM hT hw hrc hrs hd hR hn hsz hr8 hdg hf hst0 kk
theorem gw_gets1 {index : Nat} (B : gw_B p s m args meth c cc nL Ts own ret D tys t1 t2 A) (hI : gw_I D A s.heap w H locs) (hlink : Cond.fieldLink own index "GownLet$Terms" "LETTER" "[C" ∈ Ts) (hdg : decode cc pc = .ok (.getstatic index, 3))
    (kk : W p l e R s m args below meth c H locs cells slots Q (F0 m (pc + 3) ls (.ref t1 :: rest))) : W p l e R s m args below meth c H locs cells slots Q (F0 m pc ls rest) :=
  va_gets B.1.1 B.1.2.1 B.2.2.2.1.1.1 hI.2.2 B.1.2.2.2.1 (B.1.2.2.2.2 _ hlink) (fun _ h => h) hdg kk
theorem gw_gets2 {index : Nat} (B : gw_B p s m args meth c cc nL Ts own ret D tys t1 t2 A) (hI : gw_I D A s.heap w H locs) (hlink : Cond.fieldLink own index "GownLet$Terms" "MOST" "[I" ∈ Ts) (hdg : decode cc pc = .ok (.getstatic index, 3))
    (kk : W p l e R s m args below meth c H locs cells slots Q (F0 m (pc + 3) ls (.ref t2 :: rest))) : W p l e R s m args below meth c H locs cells slots Q (F0 m pc ls rest) :=
  va_gets B.1.1 B.1.2.1 B.2.2.2.1.2.1 hI.2.2 B.1.2.2.2.1 (B.1.2.2.2.2 _ hlink) (fun _ h => h) hdg kk
theorem gw_t1 {i : Int32} (B : gw_B p s m args meth c cc nL Ts own ret D tys t1 t2 A) (hI : gw_I D A s.heap w H locs) (hin : gw_in i 8) (hdg : decode cc pc = .ok (.caload, 1))
    (kk : W p l e R s m args below meth c H locs cells slots Q (F0 m (pc + 1) ls (.int (gw_LET i.toNatClampNeg) :: rest))) : W p l e R s m args below meth c H locs cells slots Q (F0 m pc ls (.int i :: .ref t1 :: rest)) :=
  va_tc B.1.1 B.1.2.1 B.2.2.2.1.1.2 hI.2.2 hin rfl hdg kk
theorem gw_t2 {i : Int32} (B : gw_B p s m args meth c cc nL Ts own ret D tys t1 t2 A) (hI : gw_I D A s.heap w H locs) (hin : gw_in i 8) (hdg : decode cc pc = .ok (.iaload, 1))
    (kk : W p l e R s m args below meth c H locs cells slots Q (F0 m (pc + 1) ls (.int (gw_MST i.toNatClampNeg) :: rest))) : W p l e R s m args below meth c H locs cells slots Q (F0 m pc ls (.int i :: .ref t2 :: rest)) :=
  va_ti B.1.1 B.1.2.1 B.2.2.2.1.2.2.1 hI.2.2 hin rfl hdg kk
theorem gw_mmax {index : Nat} (B : gw_B p s m args meth c cc nL Ts own ret D tys t1 t2 A) (hsz : ls.size = nL) (hown : s.vm.findClass own = some m.cls) (hlink : Cond.methodLink own index Lib.Math.max.name ∈ Ts) (hstat : Cond.static Lib.Math.max.name ∈ Ts) (hini : Cond.initialized "java/lang/Math" ∈ Ts) (hcode : Cond.code Lib.Math.max.name Lib.Math.max.code 2 (some .int) ∈ Ts)
    (hframes : 1 ≤ R.frames) (hlocals : (rest.map fun v => v.category).sum + 13 ≤ R.locals) (hc : cells ≤ R.cells) (hs : slots ≤ R.slots) {x y : Int32} (hdg : decode cc pc = .ok (.invokestatic index, 3))
    (kk : W p l e R s m args below meth c H locs cells slots Q (F0 m (pc + 3) ls (.int (if x < y then y else x) :: rest))) : W p l e R s m args below meth c H locs cells slots Q (F0 m pc ls (.int y :: .int x :: rest)) :=
  va_mmax B.1.1 B.1.2.1 (by rw [hsz]; exact B.1.2.2.1) hown (B.1.2.2.2.2 _ hlink) (B.1.2.2.2.2 _ hstat) (B.1.2.2.2.2 _ hini) (B.1.2.2.2.2 _ hcode) hframes hlocals hc hs hdg kk
theorem gw_mmin {index : Nat} (B : gw_B p s m args meth c cc nL Ts own ret D tys t1 t2 A) (hsz : ls.size = nL) (hown : s.vm.findClass own = some m.cls) (hlink : Cond.methodLink own index Lib.Math.min.name ∈ Ts) (hstat : Cond.static Lib.Math.min.name ∈ Ts) (hini : Cond.initialized "java/lang/Math" ∈ Ts) (hcode : Cond.code Lib.Math.min.name Lib.Math.min.code 2 (some .int) ∈ Ts)
    (hframes : 1 ≤ R.frames) (hlocals : (rest.map fun v => v.category).sum + 13 ≤ R.locals) (hc : cells ≤ R.cells) (hs : slots ≤ R.slots) {x y : Int32} (hdg : decode cc pc = .ok (.invokestatic index, 3))
    (kk : W p l e R s m args below meth c H locs cells slots Q (F0 m (pc + 3) ls (.int (if y < x then y else x) :: rest))) : W p l e R s m args below meth c H locs cells slots Q (F0 m pc ls (.int y :: .int x :: rest)) :=
  va_mmin B.1.1 B.1.2.1 (by rw [hsz]; exact B.1.2.2.1) hown (B.1.2.2.2.2 _ hlink) (B.1.2.2.2.2 _ hstat) (B.1.2.2.2.2 _ hini) (B.1.2.2.2.2 _ hcode) hframes hlocals hc hs hdg kk
theorem gw_mabs {index : Nat} (B : gw_B p s m args meth c cc nL Ts own ret D tys t1 t2 A) (hsz : ls.size = nL) (hown : s.vm.findClass own = some m.cls) (hlink : Cond.methodLink own index Lib.Math.abs.name ∈ Ts) (hstat : Cond.static Lib.Math.abs.name ∈ Ts) (hini : Cond.initialized "java/lang/Math" ∈ Ts) (hcode : Cond.code Lib.Math.abs.name Lib.Math.abs.code 1 (some .int) ∈ Ts)
    (hframes : 1 ≤ R.frames) (hlocals : (rest.map fun v => v.category).sum + 13 ≤ R.locals) (hc : cells ≤ R.cells) (hs : slots ≤ R.slots) {x : Int32} (hdg : decode cc pc = .ok (.invokestatic index, 3))
    (kk : W p l e R s m args below meth c H locs cells slots Q (F0 m (pc + 3) ls (.int (if 0 ≤ x then x else 0 - x) :: rest))) : W p l e R s m args below meth c H locs cells slots Q (F0 m pc ls (.int x :: rest)) :=
  va_mabs B.1.1 B.1.2.1 (by rw [hsz]; exact B.1.2.2.1) hown (B.1.2.2.2.2 _ hlink) (B.1.2.2.2.2 _ hstat) (B.1.2.2.2.2 _ hini) (B.1.2.2.2.2 _ hcode) hframes hlocals hc hs hdg kk
theorem gw_getN {index q0 a ci N k : Nat} {fs : List Value} {C ref n d : String} {T : u_T} {v : Value} (B : gw_B p s m args meth c cc nL Ts own ret D tys t1 t2 A) (hI : gw_I D A s.heap w H locs) (he : w[q0]? = some (a, .inr (ci, fs))) (hc : vwCl[ci]? = some (C, T, N)) (hin : ∀ w ∈ u_ws C T N, w ∈ Ts) (hk : k < N) (hlink : (own, index, ref, n, d) ∈ gw_nf) (hT : T k = (ref, n, d, (T k).2.2.2)) (hv : fs[k]? = some v) (hdg : decode cc pc = .ok (.getfield index, 3))
    (kk : W p l e R s m args below meth c H locs cells slots Q (F0 m (pc + 3) ls (v :: rest))) : W p l e R s m args below meth c H locs cells slots Q (F0 m pc ls (.ref a :: rest)) :=
  va_getN (D := D) (host := "GownLet") B.1.1 B.1.2.1 B.1.2.2.2.2 hin B.1.2.2.2.1 B.2.2.1 hI.1 q0 he hc k hk (by rw [hT]; exact (B.2.2.2.1.2.2.2.1 _ hlink).use rfl) (by rw [hT]; exact fun _ h => h) hv hdg kk
theorem gw_putN {index q0 a ci N k : Nat} {fs : List Value} {C ref n d : String} {T : u_T} {v : Value} {ty : FieldType} {w' : va_W} (B : gw_B p s m args meth c cc nL Ts own ret D tys t1 t2 A) (hI : gw_I D A s.heap w H locs) (he : w[q0]? = some (a, .inr (ci, fs))) (hc : vwCl[ci]? = some (C, T, N)) (hin : ∀ w ∈ u_ws C T N, w ∈ Ts) (ty0 : Nat → FieldType) (hty : ∀ k, k < N → parseFieldDescriptor (T k).2.2.1 = some (ty0 k)) (hnm : ∀ a, a < N → ∀ b, b < N → a ≠ b → (T a).2.1 ≠ (T b).2.1) (hk : k < N) (hlink : (own, index, ref, n, d) ∈ gw_nf) (hT : T k = (ref, n, d, false)) (hd : ty0 k = ty) (hn : narrow ty v = v) (hfit : fits ty v = true) (hl : k < fs.length) (hset : w.set q0 (a, .inr (ci, fs.set k v)) = w') (hdg : decode cc pc = .ok (.putfield index, 3))
    (kk : ∀ (H1 : Heap) (locs1 : List Loc), gw_I D A s.heap w' H1 locs1 → W p l e R s m args below meth c H1 locs1 cells slots Q (F0 m (pc + 3) ls rest)) : W p l e R s m args below meth c H locs cells slots Q (F0 m pc ls (v :: .ref a :: rest)) := by
  subst hset
  subst hd
  exact va_putN (D := D) (ty := ty0 k) (host := "GownLet") B.1.1 B.1.2.1 B.1.2.2.2.2 hin ty0 hty hnm B.1.2.2.2.1 B.2.2.1 hI.1 hI.2.1 hI.2.2 q0 he hc k hk (by rw [hT]; exact (B.2.2.2.1.2.2.2.1 _ hlink).use rfl) (by rw [hT]; exact fun _ h => h) (by rw [hT]) (hty k hk) hn hfit hl hdg (fun H1 locs1 hP hD hS => kk H1 locs1 ⟨hP, hD, hS⟩)
theorem gw_callSN {v : Value} {y : MethodName} {bytes : ByteArray} {maxL index n : Nat} {retY : Option FieldType} {wsy wsy' : List Cond} {rm : Room} {As : List Value} (B : gw_B p s m args meth c cc nL Ts own ret D tys t1 t2 A) (hI : gw_I D A s.heap w H locs)
    (hM : gw_M l y wsy rm mc ms D tys t1 t2 As w W' (some v)) (hG : GoodIn Ts wsy) (hw : wsy = Cond.code y bytes maxL retY :: wsy') (hrc : rm.cells = mc) (hrs : rm.slots = ms) (hl : (own, index, y) ∈ gw_nm) (hini : Cond.initialized y.cls ∈ Ts) (hst : Cond.static y ∈ Ts)
    (hd : y.cls ≠ "java/lang/invoke/MethodHandle" ∧ y.cls ≠ "java/lang/invoke/VarHandle" ∧ (parseMethodDescriptor y.desc).map (fun d => d.parameters.length) = some n) (hR : rm.frames + 1 ≤ R.frames ∧ 8 + (maxL + 11) + rm.locals ≤ R.locals)
    (hn : As.length = n) (hsz : ls.size = nL) (hr8 : (rest.map fun v => v.category).sum ≤ 8) (hdg : decode cc pc = .ok (.invokestatic index, 3)) (hf : cells + mc ≤ R.cells ∧ slots + ms ≤ R.slots)
    {st0 : List Value} (hst0 : st0 = As.reverse ++ rest)
    (kk : ∀ (w' : va_W) (H1 : Heap) (locs1 : List Loc), W' w' → gw_I D A s.heap w' H1 locs1 → W p l e R s m args below meth c H1 locs1 (cells + mc) (slots + ms) Q (F0 m (pc + 3) ls (v :: rest))) : W p l e R s m args below meth c H locs cells slots Q (F0 m pc ls st0) := by
  obtain ⟨C0, -, hK, hst0', hA⟩ := B
  exact gw_go (va_runSN (As := As) (rest := rest) C0 (hM H.size) ⟨va_cnB (host := "GownLet") n C0.2.2.2.2 hG hw hrc hrs (hst0'.2.2.2.2.1 _ hl) (C0.2.2.2.2 _ hini) hd hR, C0.2.2.2.2 _ hst, trivial⟩ ⟨gw_blind, fun U hU hW => ⟨rfl, gw_pre hK hst0' hA hI U hU hW⟩⟩ rfl hn hsz hst0 (lv_room hr8) hdg hf) hI hA kk
end GW
end
section
/-! the worlds: printed by wip/gen/worlds.py -/
abbrev gw_ty (cc : Nat → ClassId) : gw_TY := [(cc 0, .int), (cc 1, .byte), (cc 2, .boolean), (cc 3, .object "GownLet$Piece"), (cc 4, .object "GownLet$Booking"), (cc 5, .object "GownLet$Sheet")]
theorem gw_upE {S : gw_S} {k i : Nat} {v : Int32} : gw_up S k i v k = upd (S k) i v := by simp [gw_up]
theorem gw_upN {S : gw_S} {k i j : Nat} {v : Int32} (h : j ≠ k) : gw_up S k i v j = S j := by simp [gw_up, h]
def gw_np (S : gw_S) : Nat := (S 29 0).toNatClampNeg
def gw_nb (S : gw_S) : Nat := (S 29 1).toNatClampNeg
abbrev gw_pF (S : gw_S) (i : Nat) : List Value := [.int (S (2 * i + 30) 0), .int (S (2 * i + 30) 1), .int (S (2 * i + 30) 2), .int (S (2 * i + 30) 3), .int (S (2 * i + 30) 4), .int (S (2 * i + 30) 5), .int (S (2 * i + 30) 6), .int (S (2 * i + 30) 7), .int (S (2 * i + 30) 8), .int (S (2 * i + 30) 9), .int (S (2 * i + 30) 10), .int (S (2 * i + 30) 11)]
abbrev gw_bF (b : Nat → Nat) (S : gw_S) (j : Nat) : List Value := [.int (S (2 * j + 31) 0), .int (S (2 * j + 31) 1), .int (S (2 * j + 31) 2), .int (S (2 * j + 31) 3), .int (S (2 * j + 31) 4), .int (S (2 * j + 31) 5), .int (S (2 * j + 31) 6), .int (S (2 * j + 31) 7), va_rf (gw_rf b (S (2 * j + 31) 8)), .int (S (2 * j + 31) 9), .int (S (2 * j + 31) 10), .int (S (2 * j + 31) 11), .int (S (2 * j + 31) 12), .int (S (2 * j + 31) 13)]
def gw_fix (cc : Nat → ClassId) (a b d : Nat → Nat) (S : gw_S) : va_W := [(a 0, .inr (8, [.ref (a 1), .ref (a 3), .ref (a 15), .ref (a 20)])), (a 1, .inr (6, [.ref (a 2), .int (S 1 1)])), (a 2, .inl (cc 1, 60, .inl (S 2))), (a 3, .inr (2, [.ref (a 4), .ref (a 7), .ref (a 11), .ref (a 12), .ref (a 13), .ref (a 14), .int (S 3 6), .int (S 3 7)])), (a 4, .inr (7, [.ref (a 5), .ref (a 6)])), (a 5, .inl (cc 0, 8, .inl (S 5))), (a 6, .inl (cc 0, 8, .inl (S 6))), (a 7, .inr (3, [.ref (a 8), .ref (a 9), .ref (a 10), .int (S 7 3), .int (S 7 4)])), (a 8, .inl (cc 0, 36, .inl (S 8))), (a 9, .inl (cc 0, 6, .inl (S 9))), (a 10, .inl (cc 0, 6, .inl (S 10))), (a 11, .inl (cc 0, 81, .inl (S 11))), (a 12, .inl (cc 3, 24, .inr (.inr (.inr (.inr (fun i => gw_rf b (S 12 i))))))), (a 13, .inl (cc 4, 30, .inr (.inr (.inr (.inr (fun i => gw_rf d (S 13 i))))))), (a 14, .inl (cc 2, 30, .inl (S 14))), (a 15, .inr (1, [.ref (a 3), .ref (a 16), .ref (a 17), .ref (a 18), .ref (a 19), .int (S 15 5)])), (a 16, .inl (cc 0, 720, .inl (S 16))), (a 17, .inl (cc 0, 30, .inl (S 17))), (a 18, .inl (cc 0, 4, .inl (S 18))), (a 19, .inl (cc 0, 4, .inl (S 19))), (a 20, .inl (cc 5, 4, .inr (.inr (.inr (.inr (fun i => if i < 4 then some (a (21 + i)) else none)))))), (a 21, .inr (5, [.ref (a 25), .int (S 21 1), .int (S 21 2), .int (S 21 3)])), (a 22, .inr (5, [.ref (a 26), .int (S 22 1), .int (S 22 2), .int (S 22 3)])), (a 23, .inr (5, [.ref (a 27), .int (S 23 1), .int (S 23 2), .int (S 23 3)])), (a 24, .inr (5, [.ref (a 28), .int (S 24 1), .int (S 24 2), .int (S 24 3)])), (a 25, .inl (cc 0, 36, .inl (S 25))), (a 26, .inl (cc 0, 36, .inl (S 26))), (a 27, .inl (cc 0, 36, .inl (S 27))), (a 28, .inl (cc 0, 36, .inl (S 28)))]
def gw_pool (b d : Nat → Nat) (S : gw_S) : va_W := (List.range (gw_np S)).map (fun i => (b i, .inr (4, gw_pF S i))) ++ (List.range (gw_nb S)).map (fun j => (d j, .inr (0, gw_bF b S j)))
def gw_cw (cc : Nat → ClassId) (a b d : Nat → Nat) (S : gw_S) : va_W := gw_fix cc a b d S ++ gw_pool b d S
theorem gw_poolK {b d : Nat → Nat} {S S1 : gw_S} (h0 : S1 29 = S 29) (hp : ∀ i, S1 (2 * i + 30) = S (2 * i + 30)) (hb : ∀ j, S1 (2 * j + 31) = S (2 * j + 31)) : gw_pool b d S = gw_pool b d S1 := by simp only [gw_pool, gw_np, gw_nb, gw_pF, gw_bF, h0, hp, hb]
theorem gw_fixset {cc : Nat → ClassId} {a b d : Nat → Nat} {S : gw_S} {k i : Nat} {v : Int32} {x : Nat × va_E} (hk : k < 29) (hset : (gw_fix cc a b d S).set k x = gw_fix cc a b d (gw_up S k i v)) : (gw_cw cc a b d S).set k x = gw_cw cc a b d (gw_up S k i v) := by
  have hl : k < (gw_fix cc a b d S).length := hk
  rw [gw_cw, List.set_append_left _ _ hl, hset, gw_poolK (S1 := gw_up S k i v) (gw_upN (by omega)) (fun i => gw_upN (by omega)) (fun i => gw_upN (by omega))]
  rfl
theorem gw_fixK {cc : Nat → ClassId} {a b d : Nat → Nat} {S S1 : gw_S} (h : ∀ k, k < 29 → S1 k = S k) : gw_fix cc a b d S = gw_fix cc a b d S1 := by
  simp only [gw_fix, h 0 (by decide), h 1 (by decide), h 2 (by decide), h 3 (by decide), h 4 (by decide), h 5 (by decide), h 6 (by decide), h 7 (by decide), h 8 (by decide), h 9 (by decide), h 10 (by decide), h 11 (by decide), h 12 (by decide), h 13 (by decide), h 14 (by decide), h 15 (by decide), h 16 (by decide), h 17 (by decide), h 18 (by decide), h 19 (by decide), h 20 (by decide), h 21 (by decide), h 22 (by decide), h 23 (by decide), h 24 (by decide), h 25 (by decide), h 26 (by decide), h 27 (by decide), h 28 (by decide)]
section GWW
variable {cc : Nat → ClassId} {a b d : Nat → Nat} {S S1 : gw_S}
theorem gc_g0 : (gw_cw cc a b d S)[0]? = some (a 0, .inr (8, [.ref (a 1), .ref (a 3), .ref (a 15), .ref (a 20)])) := rfl
theorem gc_g1 : (gw_cw cc a b d S)[1]? = some (a 1, .inr (6, [.ref (a 2), .int (S 1 1)])) := rfl
theorem gc_s1_1 {v : Int32} (h : S1 = gw_up S 1 1 v) : (gw_cw cc a b d S).set 1 (a 1, .inr (6, [.ref (a 2), .int (S 1 1)].set 1 (.int v))) = gw_cw cc a b d S1 := by subst h; exact gw_fixset (by decide) rfl
theorem gc_g2 : (gw_cw cc a b d S)[2]? = some (a 2, .inl (cc 1, 60, .inl (S 2))) := rfl
theorem gc_s2 {i : Nat} {v : Int32} (h : S1 = gw_up S 2 i v) : (gw_cw cc a b d S).set 2 (a 2, .inl (cc 1, 60, .inl (upd (S 2) i v))) = gw_cw cc a b d S1 := by subst h; exact gw_fixset (by decide) rfl
theorem gc_g3 : (gw_cw cc a b d S)[3]? = some (a 3, .inr (2, [.ref (a 4), .ref (a 7), .ref (a 11), .ref (a 12), .ref (a 13), .ref (a 14), .int (S 3 6), .int (S 3 7)])) := rfl
theorem gc_s3_6 {v : Int32} (h : S1 = gw_up S 3 6 v) : (gw_cw cc a b d S).set 3 (a 3, .inr (2, [.ref (a 4), .ref (a 7), .ref (a 11), .ref (a 12), .ref (a 13), .ref (a 14), .int (S 3 6), .int (S 3 7)].set 6 (.int v))) = gw_cw cc a b d S1 := by subst h; exact gw_fixset (by decide) rfl
theorem gc_s3_7 {v : Int32} (h : S1 = gw_up S 3 7 v) : (gw_cw cc a b d S).set 3 (a 3, .inr (2, [.ref (a 4), .ref (a 7), .ref (a 11), .ref (a 12), .ref (a 13), .ref (a 14), .int (S 3 6), .int (S 3 7)].set 7 (.int v))) = gw_cw cc a b d S1 := by subst h; exact gw_fixset (by decide) rfl
theorem gc_g4 : (gw_cw cc a b d S)[4]? = some (a 4, .inr (7, [.ref (a 5), .ref (a 6)])) := rfl
theorem gc_g5 : (gw_cw cc a b d S)[5]? = some (a 5, .inl (cc 0, 8, .inl (S 5))) := rfl
theorem gc_s5 {i : Nat} {v : Int32} (h : S1 = gw_up S 5 i v) : (gw_cw cc a b d S).set 5 (a 5, .inl (cc 0, 8, .inl (upd (S 5) i v))) = gw_cw cc a b d S1 := by subst h; exact gw_fixset (by decide) rfl
theorem gc_g6 : (gw_cw cc a b d S)[6]? = some (a 6, .inl (cc 0, 8, .inl (S 6))) := rfl
theorem gc_s6 {i : Nat} {v : Int32} (h : S1 = gw_up S 6 i v) : (gw_cw cc a b d S).set 6 (a 6, .inl (cc 0, 8, .inl (upd (S 6) i v))) = gw_cw cc a b d S1 := by subst h; exact gw_fixset (by decide) rfl
theorem gc_g7 : (gw_cw cc a b d S)[7]? = some (a 7, .inr (3, [.ref (a 8), .ref (a 9), .ref (a 10), .int (S 7 3), .int (S 7 4)])) := rfl
theorem gc_s7_3 {v : Int32} (h : S1 = gw_up S 7 3 v) : (gw_cw cc a b d S).set 7 (a 7, .inr (3, [.ref (a 8), .ref (a 9), .ref (a 10), .int (S 7 3), .int (S 7 4)].set 3 (.int v))) = gw_cw cc a b d S1 := by subst h; exact gw_fixset (by decide) rfl
theorem gc_s7_4 {v : Int32} (h : S1 = gw_up S 7 4 v) : (gw_cw cc a b d S).set 7 (a 7, .inr (3, [.ref (a 8), .ref (a 9), .ref (a 10), .int (S 7 3), .int (S 7 4)].set 4 (.int v))) = gw_cw cc a b d S1 := by subst h; exact gw_fixset (by decide) rfl
theorem gc_g8 : (gw_cw cc a b d S)[8]? = some (a 8, .inl (cc 0, 36, .inl (S 8))) := rfl
theorem gc_s8 {i : Nat} {v : Int32} (h : S1 = gw_up S 8 i v) : (gw_cw cc a b d S).set 8 (a 8, .inl (cc 0, 36, .inl (upd (S 8) i v))) = gw_cw cc a b d S1 := by subst h; exact gw_fixset (by decide) rfl
theorem gc_g9 : (gw_cw cc a b d S)[9]? = some (a 9, .inl (cc 0, 6, .inl (S 9))) := rfl
theorem gc_s9 {i : Nat} {v : Int32} (h : S1 = gw_up S 9 i v) : (gw_cw cc a b d S).set 9 (a 9, .inl (cc 0, 6, .inl (upd (S 9) i v))) = gw_cw cc a b d S1 := by subst h; exact gw_fixset (by decide) rfl
theorem gc_g10 : (gw_cw cc a b d S)[10]? = some (a 10, .inl (cc 0, 6, .inl (S 10))) := rfl
theorem gc_s10 {i : Nat} {v : Int32} (h : S1 = gw_up S 10 i v) : (gw_cw cc a b d S).set 10 (a 10, .inl (cc 0, 6, .inl (upd (S 10) i v))) = gw_cw cc a b d S1 := by subst h; exact gw_fixset (by decide) rfl
theorem gc_g11 : (gw_cw cc a b d S)[11]? = some (a 11, .inl (cc 0, 81, .inl (S 11))) := rfl
theorem gc_s11 {i : Nat} {v : Int32} (h : S1 = gw_up S 11 i v) : (gw_cw cc a b d S).set 11 (a 11, .inl (cc 0, 81, .inl (upd (S 11) i v))) = gw_cw cc a b d S1 := by subst h; exact gw_fixset (by decide) rfl
theorem gc_g12 : (gw_cw cc a b d S)[12]? = some (a 12, .inl (cc 3, 24, .inr (.inr (.inr (.inr (fun i => gw_rf b (S 12 i))))))) := rfl
theorem gc_g13 : (gw_cw cc a b d S)[13]? = some (a 13, .inl (cc 4, 30, .inr (.inr (.inr (.inr (fun i => gw_rf d (S 13 i))))))) := rfl
theorem gc_g14 : (gw_cw cc a b d S)[14]? = some (a 14, .inl (cc 2, 30, .inl (S 14))) := rfl
theorem gc_s14 {i : Nat} {v : Int32} (h : S1 = gw_up S 14 i v) : (gw_cw cc a b d S).set 14 (a 14, .inl (cc 2, 30, .inl (upd (S 14) i v))) = gw_cw cc a b d S1 := by subst h; exact gw_fixset (by decide) rfl
theorem gc_g15 : (gw_cw cc a b d S)[15]? = some (a 15, .inr (1, [.ref (a 3), .ref (a 16), .ref (a 17), .ref (a 18), .ref (a 19), .int (S 15 5)])) := rfl
theorem gc_s15_5 {v : Int32} (h : S1 = gw_up S 15 5 v) : (gw_cw cc a b d S).set 15 (a 15, .inr (1, [.ref (a 3), .ref (a 16), .ref (a 17), .ref (a 18), .ref (a 19), .int (S 15 5)].set 5 (.int v))) = gw_cw cc a b d S1 := by subst h; exact gw_fixset (by decide) rfl
theorem gc_g16 : (gw_cw cc a b d S)[16]? = some (a 16, .inl (cc 0, 720, .inl (S 16))) := rfl
theorem gc_s16 {i : Nat} {v : Int32} (h : S1 = gw_up S 16 i v) : (gw_cw cc a b d S).set 16 (a 16, .inl (cc 0, 720, .inl (upd (S 16) i v))) = gw_cw cc a b d S1 := by subst h; exact gw_fixset (by decide) rfl
theorem gc_g17 : (gw_cw cc a b d S)[17]? = some (a 17, .inl (cc 0, 30, .inl (S 17))) := rfl
theorem gc_s17 {i : Nat} {v : Int32} (h : S1 = gw_up S 17 i v) : (gw_cw cc a b d S).set 17 (a 17, .inl (cc 0, 30, .inl (upd (S 17) i v))) = gw_cw cc a b d S1 := by subst h; exact gw_fixset (by decide) rfl
theorem gc_g18 : (gw_cw cc a b d S)[18]? = some (a 18, .inl (cc 0, 4, .inl (S 18))) := rfl
theorem gc_s18 {i : Nat} {v : Int32} (h : S1 = gw_up S 18 i v) : (gw_cw cc a b d S).set 18 (a 18, .inl (cc 0, 4, .inl (upd (S 18) i v))) = gw_cw cc a b d S1 := by subst h; exact gw_fixset (by decide) rfl
theorem gc_g19 : (gw_cw cc a b d S)[19]? = some (a 19, .inl (cc 0, 4, .inl (S 19))) := rfl
theorem gc_s19 {i : Nat} {v : Int32} (h : S1 = gw_up S 19 i v) : (gw_cw cc a b d S).set 19 (a 19, .inl (cc 0, 4, .inl (upd (S 19) i v))) = gw_cw cc a b d S1 := by subst h; exact gw_fixset (by decide) rfl
theorem gc_g20 : (gw_cw cc a b d S)[20]? = some (a 20, .inl (cc 5, 4, .inr (.inr (.inr (.inr (fun i => if i < 4 then some (a (21 + i)) else none)))))) := rfl
theorem gc_g21 : (gw_cw cc a b d S)[21]? = some (a 21, .inr (5, [.ref (a 25), .int (S 21 1), .int (S 21 2), .int (S 21 3)])) := rfl
theorem gc_s21_1 {v : Int32} (h : S1 = gw_up S 21 1 v) : (gw_cw cc a b d S).set 21 (a 21, .inr (5, [.ref (a 25), .int (S 21 1), .int (S 21 2), .int (S 21 3)].set 1 (.int v))) = gw_cw cc a b d S1 := by subst h; exact gw_fixset (by decide) rfl
theorem gc_s21_2 {v : Int32} (h : S1 = gw_up S 21 2 v) : (gw_cw cc a b d S).set 21 (a 21, .inr (5, [.ref (a 25), .int (S 21 1), .int (S 21 2), .int (S 21 3)].set 2 (.int v))) = gw_cw cc a b d S1 := by subst h; exact gw_fixset (by decide) rfl
theorem gc_s21_3 {v : Int32} (h : S1 = gw_up S 21 3 v) : (gw_cw cc a b d S).set 21 (a 21, .inr (5, [.ref (a 25), .int (S 21 1), .int (S 21 2), .int (S 21 3)].set 3 (.int v))) = gw_cw cc a b d S1 := by subst h; exact gw_fixset (by decide) rfl
theorem gc_g22 : (gw_cw cc a b d S)[22]? = some (a 22, .inr (5, [.ref (a 26), .int (S 22 1), .int (S 22 2), .int (S 22 3)])) := rfl
theorem gc_s22_1 {v : Int32} (h : S1 = gw_up S 22 1 v) : (gw_cw cc a b d S).set 22 (a 22, .inr (5, [.ref (a 26), .int (S 22 1), .int (S 22 2), .int (S 22 3)].set 1 (.int v))) = gw_cw cc a b d S1 := by subst h; exact gw_fixset (by decide) rfl
theorem gc_s22_2 {v : Int32} (h : S1 = gw_up S 22 2 v) : (gw_cw cc a b d S).set 22 (a 22, .inr (5, [.ref (a 26), .int (S 22 1), .int (S 22 2), .int (S 22 3)].set 2 (.int v))) = gw_cw cc a b d S1 := by subst h; exact gw_fixset (by decide) rfl
theorem gc_s22_3 {v : Int32} (h : S1 = gw_up S 22 3 v) : (gw_cw cc a b d S).set 22 (a 22, .inr (5, [.ref (a 26), .int (S 22 1), .int (S 22 2), .int (S 22 3)].set 3 (.int v))) = gw_cw cc a b d S1 := by subst h; exact gw_fixset (by decide) rfl
theorem gc_g23 : (gw_cw cc a b d S)[23]? = some (a 23, .inr (5, [.ref (a 27), .int (S 23 1), .int (S 23 2), .int (S 23 3)])) := rfl
theorem gc_s23_1 {v : Int32} (h : S1 = gw_up S 23 1 v) : (gw_cw cc a b d S).set 23 (a 23, .inr (5, [.ref (a 27), .int (S 23 1), .int (S 23 2), .int (S 23 3)].set 1 (.int v))) = gw_cw cc a b d S1 := by subst h; exact gw_fixset (by decide) rfl
theorem gc_s23_2 {v : Int32} (h : S1 = gw_up S 23 2 v) : (gw_cw cc a b d S).set 23 (a 23, .inr (5, [.ref (a 27), .int (S 23 1), .int (S 23 2), .int (S 23 3)].set 2 (.int v))) = gw_cw cc a b d S1 := by subst h; exact gw_fixset (by decide) rfl
theorem gc_s23_3 {v : Int32} (h : S1 = gw_up S 23 3 v) : (gw_cw cc a b d S).set 23 (a 23, .inr (5, [.ref (a 27), .int (S 23 1), .int (S 23 2), .int (S 23 3)].set 3 (.int v))) = gw_cw cc a b d S1 := by subst h; exact gw_fixset (by decide) rfl
theorem gc_g24 : (gw_cw cc a b d S)[24]? = some (a 24, .inr (5, [.ref (a 28), .int (S 24 1), .int (S 24 2), .int (S 24 3)])) := rfl
theorem gc_s24_1 {v : Int32} (h : S1 = gw_up S 24 1 v) : (gw_cw cc a b d S).set 24 (a 24, .inr (5, [.ref (a 28), .int (S 24 1), .int (S 24 2), .int (S 24 3)].set 1 (.int v))) = gw_cw cc a b d S1 := by subst h; exact gw_fixset (by decide) rfl
theorem gc_s24_2 {v : Int32} (h : S1 = gw_up S 24 2 v) : (gw_cw cc a b d S).set 24 (a 24, .inr (5, [.ref (a 28), .int (S 24 1), .int (S 24 2), .int (S 24 3)].set 2 (.int v))) = gw_cw cc a b d S1 := by subst h; exact gw_fixset (by decide) rfl
theorem gc_s24_3 {v : Int32} (h : S1 = gw_up S 24 3 v) : (gw_cw cc a b d S).set 24 (a 24, .inr (5, [.ref (a 28), .int (S 24 1), .int (S 24 2), .int (S 24 3)].set 3 (.int v))) = gw_cw cc a b d S1 := by subst h; exact gw_fixset (by decide) rfl
theorem gc_g25 : (gw_cw cc a b d S)[25]? = some (a 25, .inl (cc 0, 36, .inl (S 25))) := rfl
theorem gc_s25 {i : Nat} {v : Int32} (h : S1 = gw_up S 25 i v) : (gw_cw cc a b d S).set 25 (a 25, .inl (cc 0, 36, .inl (upd (S 25) i v))) = gw_cw cc a b d S1 := by subst h; exact gw_fixset (by decide) rfl
theorem gc_g26 : (gw_cw cc a b d S)[26]? = some (a 26, .inl (cc 0, 36, .inl (S 26))) := rfl
theorem gc_s26 {i : Nat} {v : Int32} (h : S1 = gw_up S 26 i v) : (gw_cw cc a b d S).set 26 (a 26, .inl (cc 0, 36, .inl (upd (S 26) i v))) = gw_cw cc a b d S1 := by subst h; exact gw_fixset (by decide) rfl
theorem gc_g27 : (gw_cw cc a b d S)[27]? = some (a 27, .inl (cc 0, 36, .inl (S 27))) := rfl
theorem gc_s27 {i : Nat} {v : Int32} (h : S1 = gw_up S 27 i v) : (gw_cw cc a b d S).set 27 (a 27, .inl (cc 0, 36, .inl (upd (S 27) i v))) = gw_cw cc a b d S1 := by subst h; exact gw_fixset (by decide) rfl
theorem gc_g28 : (gw_cw cc a b d S)[28]? = some (a 28, .inl (cc 0, 36, .inl (S 28))) := rfl
theorem gc_s28 {i : Nat} {v : Int32} (h : S1 = gw_up S 28 i v) : (gw_cw cc a b d S).set 28 (a 28, .inl (cc 0, 36, .inl (upd (S 28) i v))) = gw_cw cc a b d S1 := by subst h; exact gw_fixset (by decide) rfl
theorem gc_gsh {i : Nat} (h : i < 4) : (gw_cw cc a b d S)[21 + i]? = some (a (21 + i), .inr (5, [.ref (a (25 + i)), .int (S (21 + i) 1), .int (S (21 + i) 2), .int (S (21 + i) 3)])) := by
  rcases (show i = 0 ∨ i = 1 ∨ i = 2 ∨ i = 3 by omega) with rfl | rfl | rfl | rfl <;> rfl
theorem gc_git {i : Nat} (h : i < 4) : (gw_cw cc a b d S)[25 + i]? = some (a (25 + i), .inl (cc 0, 36, .inl (S (25 + i)))) := by
  rcases (show i = 0 ∨ i = 1 ∨ i = 2 ∨ i = 3 by omega) with rfl | rfl | rfl | rfl <;> rfl
theorem gc_ssh_1 {i : Nat} {v : Int32} (hi : i < 4) (h : S1 = gw_up S (21 + i) 1 v) : (gw_cw cc a b d S).set (21 + i) (a (21 + i), .inr (5, ([.ref (a (25 + i)), .int (S (21 + i) 1), .int (S (21 + i) 2), .int (S (21 + i) 3)] : List Value).set 1 (.int v))) = gw_cw cc a b d S1 := by
  rcases (show i = 0 ∨ i = 1 ∨ i = 2 ∨ i = 3 by omega) with rfl | rfl | rfl | rfl <;> (subst h; exact gw_fixset (by decide) rfl)
theorem gc_ssh_2 {i : Nat} {v : Int32} (hi : i < 4) (h : S1 = gw_up S (21 + i) 2 v) : (gw_cw cc a b d S).set (21 + i) (a (21 + i), .inr (5, ([.ref (a (25 + i)), .int (S (21 + i) 1), .int (S (21 + i) 2), .int (S (21 + i) 3)] : List Value).set 2 (.int v))) = gw_cw cc a b d S1 := by
  rcases (show i = 0 ∨ i = 1 ∨ i = 2 ∨ i = 3 by omega) with rfl | rfl | rfl | rfl <;> (subst h; exact gw_fixset (by decide) rfl)
theorem gc_ssh_3 {i : Nat} {v : Int32} (hi : i < 4) (h : S1 = gw_up S (21 + i) 3 v) : (gw_cw cc a b d S).set (21 + i) (a (21 + i), .inr (5, ([.ref (a (25 + i)), .int (S (21 + i) 1), .int (S (21 + i) 2), .int (S (21 + i) 3)] : List Value).set 3 (.int v))) = gw_cw cc a b d S1 := by
  rcases (show i = 0 ∨ i = 1 ∨ i = 2 ∨ i = 3 by omega) with rfl | rfl | rfl | rfl <;> (subst h; exact gw_fixset (by decide) rfl)
theorem gc_sit {i k : Nat} {v : Int32} (hi : i < 4) (h : S1 = gw_up S (25 + i) k v) : (gw_cw cc a b d S).set (25 + i) (a (25 + i), .inl (cc 0, 36, .inl (upd (S (25 + i)) k v))) = gw_cw cc a b d S1 := by
  rcases (show i = 0 ∨ i = 1 ∨ i = 2 ∨ i = 3 by omega) with rfl | rfl | rfl | rfl <;> (subst h; exact gw_fixset (by decide) rfl)
theorem gw_rset {α : Type} {f : Nat → α} {n i : Nat} {y : α} : ((List.range n).map f).set i y = (List.range n).map (fun j => if j = i then y else f j) := by
  apply List.ext_getElem?
  intro k
  rw [List.getElem?_set]
  simp only [List.getElem?_map, List.length_map, List.length_range]
  by_cases hki : i = k
  · subst hki
    by_cases hk : i < n
    · simp [hk, List.getElem?_range]
    · simp [hk]
  · rw [if_neg hki]
    by_cases hk : k < n
    · simp [hk, List.getElem?_range, Ne.symm hki]
    · simp [hk]
theorem gc_gp {i : Nat} (h : i < gw_np S) : (gw_cw cc a b d S)[29 + i]? = some (b i, .inr (4, gw_pF S i)) := by
  rw [gw_cw, List.getElem?_append_right (show (gw_fix cc a b d S).length ≤ 29 + i from Nat.le_add_right 29 i), show 29 + i - (gw_fix cc a b d S).length = i from Nat.add_sub_cancel_left 29 i, gw_pool, List.getElem?_append_left (by simpa using h)]
  simp [h]
theorem gc_gb {j : Nat} (h : j < gw_nb S) : (gw_cw cc a b d S)[29 + (gw_np S + j)]? = some (d j, .inr (0, gw_bF b S j)) := by
  rw [gw_cw, List.getElem?_append_right (show (gw_fix cc a b d S).length ≤ 29 + _ from Nat.le_add_right 29 _), show 29 + (gw_np S + j) - (gw_fix cc a b d S).length = gw_np S + j from Nat.add_sub_cancel_left 29 (gw_np S + j), gw_pool, List.getElem?_append_right (by simp)]
  simp [h]
theorem gw_sp {i k : Nat} {v : Int32} {fs : List Value} (hi : i < gw_np S) (h : S1 = gw_up S (2 * i + 30) k v) (hf : fs = gw_pF S1 i) : (gw_cw cc a b d S).set (29 + i) (b i, .inr (4, fs)) = gw_cw cc a b d S1 := by
  have hnp : gw_np S1 = gw_np S := by subst h; simp only [gw_np]; rw [gw_upN (by omega)]
  have hnb : gw_nb S1 = gw_nb S := by subst h; simp only [gw_nb]; rw [gw_upN (by omega)]
  have hfix : gw_fix cc a b d S = gw_fix cc a b d S1 := gw_fixK (fun k hk => by subst h; exact gw_upN (by omega))
  have hx : ∀ j, j ≠ i → S1 (2 * j + 30) = S (2 * j + 30) := fun j hj => by subst h; exact gw_upN (by omega)
  have hy : ∀ j, S1 (2 * j + 31) = S (2 * j + 31) := fun j => by subst h; exact gw_upN (by omega)
  rw [gw_cw, List.set_append_right _ _ (show (gw_fix cc a b d S).length ≤ 29 + i from Nat.le_add_right 29 i), show 29 + i - (gw_fix cc a b d S).length = i from Nat.add_sub_cancel_left 29 i, gw_cw, ← hfix]
  congr 1
  rw [gw_pool, gw_pool, List.set_append_left _ _ (by simpa using hi), gw_rset, hnp, hnb]
  congr 1
  · apply List.map_congr_left
    intro j hj
    by_cases hji : j = i
    · subst hji; simp [hf]
    · simp only [if_neg hji, gw_pF, hx j hji]
  · apply List.map_congr_left
    intro j hj
    simp only [gw_bF, hy j]
theorem gw_sb {i k : Nat} {v : Int32} {fs : List Value} (hi : i < gw_nb S) (h : S1 = gw_up S (2 * i + 31) k v) (hf : fs = gw_bF b S1 i) : (gw_cw cc a b d S).set (29 + (gw_np S + i)) (d i, .inr (0, fs)) = gw_cw cc a b d S1 := by
  have hnp : gw_np S1 = gw_np S := by subst h; simp only [gw_np]; rw [gw_upN (by omega)]
  have hnb : gw_nb S1 = gw_nb S := by subst h; simp only [gw_nb]; rw [gw_upN (by omega)]
  have hfix : gw_fix cc a b d S = gw_fix cc a b d S1 := gw_fixK (fun k hk => by subst h; exact gw_upN (by omega))
  have hx : ∀ j : Nat, S1 (2 * j + 30) = S (2 * j + 30) := fun j => by subst h; exact gw_upN (by omega)
  have hy : ∀ j, j ≠ i → S1 (2 * j + 31) = S (2 * j + 31) := fun j hj => by subst h; exact gw_upN (by omega)
  rw [gw_cw, List.set_append_right _ _ (show (gw_fix cc a b d S).length ≤ 29 + _ from Nat.le_add_right 29 _), show 29 + (gw_np S + i) - (gw_fix cc a b d S).length = gw_np S + i from Nat.add_sub_cancel_left 29 (gw_np S + i), gw_cw, ← hfix]
  congr 1
  rw [gw_pool, gw_pool, List.set_append_right _ _ (by simp), hnp, hnb]
  congr 1
  · apply List.map_congr_left
    intro j hj
    simp only [gw_pF, hx j]
  · rw [List.length_map, List.length_range, Nat.add_sub_cancel_left, gw_rset]
    apply List.map_congr_left
    intro j hj
    by_cases hji : j = i
    · subst hji; simp [hf]
    · simp only [if_neg hji, gw_bF, hy j hji]
theorem gc_sp_0 {i : Nat} {v : Int32} (hi : i < gw_np S) (h : S1 = gw_up S (2 * i + 30) 0 v) : (gw_cw cc a b d S).set (29 + i) (b i, .inr (4, (gw_pF S i).set 0 (.int v))) = gw_cw cc a b d S1 := gw_sp (k := 0) hi h (by subst h; simp [gw_upE, upd]) 
theorem gc_sp_1 {i : Nat} {v : Int32} (hi : i < gw_np S) (h : S1 = gw_up S (2 * i + 30) 1 v) : (gw_cw cc a b d S).set (29 + i) (b i, .inr (4, (gw_pF S i).set 1 (.int v))) = gw_cw cc a b d S1 := gw_sp (k := 1) hi h (by subst h; simp [gw_upE, upd]) 
theorem gc_sp_2 {i : Nat} {v : Int32} (hi : i < gw_np S) (h : S1 = gw_up S (2 * i + 30) 2 v) : (gw_cw cc a b d S).set (29 + i) (b i, .inr (4, (gw_pF S i).set 2 (.int v))) = gw_cw cc a b d S1 := gw_sp (k := 2) hi h (by subst h; simp [gw_upE, upd]) 
theorem gc_sp_3 {i : Nat} {v : Int32} (hi : i < gw_np S) (h : S1 = gw_up S (2 * i + 30) 3 v) : (gw_cw cc a b d S).set (29 + i) (b i, .inr (4, (gw_pF S i).set 3 (.int v))) = gw_cw cc a b d S1 := gw_sp (k := 3) hi h (by subst h; simp [gw_upE, upd]) 
theorem gc_sp_4 {i : Nat} {v : Int32} (hi : i < gw_np S) (h : S1 = gw_up S (2 * i + 30) 4 v) : (gw_cw cc a b d S).set (29 + i) (b i, .inr (4, (gw_pF S i).set 4 (.int v))) = gw_cw cc a b d S1 := gw_sp (k := 4) hi h (by subst h; simp [gw_upE, upd]) 
theorem gc_sp_5 {i : Nat} {v : Int32} (hi : i < gw_np S) (h : S1 = gw_up S (2 * i + 30) 5 v) : (gw_cw cc a b d S).set (29 + i) (b i, .inr (4, (gw_pF S i).set 5 (.int v))) = gw_cw cc a b d S1 := gw_sp (k := 5) hi h (by subst h; simp [gw_upE, upd]) 
theorem gc_sp_6 {i : Nat} {v : Int32} (hi : i < gw_np S) (h : S1 = gw_up S (2 * i + 30) 6 v) : (gw_cw cc a b d S).set (29 + i) (b i, .inr (4, (gw_pF S i).set 6 (.int v))) = gw_cw cc a b d S1 := gw_sp (k := 6) hi h (by subst h; simp [gw_upE, upd]) 
theorem gc_sp_7 {i : Nat} {v : Int32} (hi : i < gw_np S) (h : S1 = gw_up S (2 * i + 30) 7 v) : (gw_cw cc a b d S).set (29 + i) (b i, .inr (4, (gw_pF S i).set 7 (.int v))) = gw_cw cc a b d S1 := gw_sp (k := 7) hi h (by subst h; simp [gw_upE, upd]) 
theorem gc_sp_8 {i : Nat} {v : Int32} (hi : i < gw_np S) (h : S1 = gw_up S (2 * i + 30) 8 v) : (gw_cw cc a b d S).set (29 + i) (b i, .inr (4, (gw_pF S i).set 8 (.int v))) = gw_cw cc a b d S1 := gw_sp (k := 8) hi h (by subst h; simp [gw_upE, upd]) 
theorem gc_sp_9 {i : Nat} {v : Int32} (hi : i < gw_np S) (h : S1 = gw_up S (2 * i + 30) 9 v) : (gw_cw cc a b d S).set (29 + i) (b i, .inr (4, (gw_pF S i).set 9 (.int v))) = gw_cw cc a b d S1 := gw_sp (k := 9) hi h (by subst h; simp [gw_upE, upd]) 
theorem gc_sp_10 {i : Nat} {v : Int32} (hi : i < gw_np S) (h : S1 = gw_up S (2 * i + 30) 10 v) : (gw_cw cc a b d S).set (29 + i) (b i, .inr (4, (gw_pF S i).set 10 (.int v))) = gw_cw cc a b d S1 := gw_sp (k := 10) hi h (by subst h; simp [gw_upE, upd]) 
theorem gc_sp_11 {i : Nat} {v : Int32} (hi : i < gw_np S) (h : S1 = gw_up S (2 * i + 30) 11 v) : (gw_cw cc a b d S).set (29 + i) (b i, .inr (4, (gw_pF S i).set 11 (.int v))) = gw_cw cc a b d S1 := gw_sp (k := 11) hi h (by subst h; simp [gw_upE, upd]) 
theorem gc_sb_0 {i : Nat} {v : Int32} (hi : i < gw_nb S) (h : S1 = gw_up S (2 * i + 31) 0 v) : (gw_cw cc a b d S).set (29 + (gw_np S + i)) (d i, .inr (0, (gw_bF b S i).set 0 (.int v))) = gw_cw cc a b d S1 := gw_sb (k := 0) hi h (by subst h; simp [gw_upE, upd])
theorem gc_sb_1 {i : Nat} {v : Int32} (hi : i < gw_nb S) (h : S1 = gw_up S (2 * i + 31) 1 v) : (gw_cw cc a b d S).set (29 + (gw_np S + i)) (d i, .inr (0, (gw_bF b S i).set 1 (.int v))) = gw_cw cc a b d S1 := gw_sb (k := 1) hi h (by subst h; simp [gw_upE, upd])
theorem gc_sb_2 {i : Nat} {v : Int32} (hi : i < gw_nb S) (h : S1 = gw_up S (2 * i + 31) 2 v) : (gw_cw cc a b d S).set (29 + (gw_np S + i)) (d i, .inr (0, (gw_bF b S i).set 2 (.int v))) = gw_cw cc a b d S1 := gw_sb (k := 2) hi h (by subst h; simp [gw_upE, upd])
theorem gc_sb_3 {i : Nat} {v : Int32} (hi : i < gw_nb S) (h : S1 = gw_up S (2 * i + 31) 3 v) : (gw_cw cc a b d S).set (29 + (gw_np S + i)) (d i, .inr (0, (gw_bF b S i).set 3 (.int v))) = gw_cw cc a b d S1 := gw_sb (k := 3) hi h (by subst h; simp [gw_upE, upd])
theorem gc_sb_4 {i : Nat} {v : Int32} (hi : i < gw_nb S) (h : S1 = gw_up S (2 * i + 31) 4 v) : (gw_cw cc a b d S).set (29 + (gw_np S + i)) (d i, .inr (0, (gw_bF b S i).set 4 (.int v))) = gw_cw cc a b d S1 := gw_sb (k := 4) hi h (by subst h; simp [gw_upE, upd])
theorem gc_sb_5 {i : Nat} {v : Int32} (hi : i < gw_nb S) (h : S1 = gw_up S (2 * i + 31) 5 v) : (gw_cw cc a b d S).set (29 + (gw_np S + i)) (d i, .inr (0, (gw_bF b S i).set 5 (.int v))) = gw_cw cc a b d S1 := gw_sb (k := 5) hi h (by subst h; simp [gw_upE, upd])
theorem gc_sb_6 {i : Nat} {v : Int32} (hi : i < gw_nb S) (h : S1 = gw_up S (2 * i + 31) 6 v) : (gw_cw cc a b d S).set (29 + (gw_np S + i)) (d i, .inr (0, (gw_bF b S i).set 6 (.int v))) = gw_cw cc a b d S1 := gw_sb (k := 6) hi h (by subst h; simp [gw_upE, upd])
theorem gc_sb_7 {i : Nat} {v : Int32} (hi : i < gw_nb S) (h : S1 = gw_up S (2 * i + 31) 7 v) : (gw_cw cc a b d S).set (29 + (gw_np S + i)) (d i, .inr (0, (gw_bF b S i).set 7 (.int v))) = gw_cw cc a b d S1 := gw_sb (k := 7) hi h (by subst h; simp [gw_upE, upd])
theorem gc_sb_8 {i : Nat} {v : Int32} (hi : i < gw_nb S) (h : S1 = gw_up S (2 * i + 31) 8 v) : (gw_cw cc a b d S).set (29 + (gw_np S + i)) (d i, .inr (0, (gw_bF b S i).set 8 (va_rf (gw_rf b v)))) = gw_cw cc a b d S1 := gw_sb (k := 8) hi h (by subst h; simp [gw_upE, upd])
theorem gc_sb_9 {i : Nat} {v : Int32} (hi : i < gw_nb S) (h : S1 = gw_up S (2 * i + 31) 9 v) : (gw_cw cc a b d S).set (29 + (gw_np S + i)) (d i, .inr (0, (gw_bF b S i).set 9 (.int v))) = gw_cw cc a b d S1 := gw_sb (k := 9) hi h (by subst h; simp [gw_upE, upd])
theorem gc_sb_10 {i : Nat} {v : Int32} (hi : i < gw_nb S) (h : S1 = gw_up S (2 * i + 31) 10 v) : (gw_cw cc a b d S).set (29 + (gw_np S + i)) (d i, .inr (0, (gw_bF b S i).set 10 (.int v))) = gw_cw cc a b d S1 := gw_sb (k := 10) hi h (by subst h; simp [gw_upE, upd])
theorem gc_sb_11 {i : Nat} {v : Int32} (hi : i < gw_nb S) (h : S1 = gw_up S (2 * i + 31) 11 v) : (gw_cw cc a b d S).set (29 + (gw_np S + i)) (d i, .inr (0, (gw_bF b S i).set 11 (.int v))) = gw_cw cc a b d S1 := gw_sb (k := 11) hi h (by subst h; simp [gw_upE, upd])
theorem gc_sb_12 {i : Nat} {v : Int32} (hi : i < gw_nb S) (h : S1 = gw_up S (2 * i + 31) 12 v) : (gw_cw cc a b d S).set (29 + (gw_np S + i)) (d i, .inr (0, (gw_bF b S i).set 12 (.int v))) = gw_cw cc a b d S1 := gw_sb (k := 12) hi h (by subst h; simp [gw_upE, upd])
theorem gc_sb_13 {i : Nat} {v : Int32} (hi : i < gw_nb S) (h : S1 = gw_up S (2 * i + 31) 13 v) : (gw_cw cc a b d S).set (29 + (gw_np S + i)) (d i, .inr (0, (gw_bF b S i).set 13 (.int v))) = gw_cw cc a b d S1 := gw_sb (k := 13) hi h (by subst h; simp [gw_upE, upd])
end GWW
theorem gw_shv {a : Nat → Nat} {i : Nat} (h : i < 4) : va_rf ((fun j => if j < 4 then some (a (21 + j)) else none) i) = .ref (a (21 + i)) := by simp [h, va_rf]
theorem gw_okE {n : Nat} {b : Nat → Nat} {v w : Int32} (hv : gw_ok n v) (hw : gw_ok n w) (hb : ∀ i j, i < n → j < n → b i = b j → i = j) : gw_rf b v = gw_rf b w ↔ v = w := by
  constructor
  · intro h
    rcases hv with rfl | ⟨h1, h2⟩ <;> rcases hw with rfl | ⟨h3, h4⟩
    · rfl
    · have hw1 : ¬ w = -1 := by intro q; subst q; exact absurd h3 (by decide)
      simp [gw_rf, hw1] at h
    · have hv1 : ¬ v = -1 := by intro q; subst q; exact absurd h1 (by decide)
      simp [gw_rf, hv1] at h
    · have hv1 : ¬ v = -1 := by intro q; subst q; exact absurd h1 (by decide)
      have hw1 : ¬ w = -1 := by intro q; subst q; exact absurd h3 (by decide)
      simp only [gw_rf, hv1, hw1, if_false, Option.some.injEq] at h
      have h5 := hb _ _ h2 h4 h
      rw [Int32.le_iff_toInt_le] at h1 h3
      have e1 : v.toInt.toNat = w.toInt.toNat := h5
      rw [Int32.toInt_zero] at h1 h3
      exact Int32.toInt_inj.mp (by omega)
  · intro h; rw [h]
section GWA
variable {cc : Nat → ClassId} {a b d : Nat → Nat} {S : gw_S} {A : Nat → Prop}
theorem gw_bi (hD : va_D A (gw_cw cc a b d S)) : ∀ i j, i < gw_np S → j < gw_np S → b i = b j → i = j := by
  intro i j hi hj h
  have := hD.1 _ _ _ _ (gc_gp hi) (gc_gp hj) h
  omega
theorem gw_di (hD : va_D A (gw_cw cc a b d S)) : ∀ i j, i < gw_nb S → j < gw_nb S → d i = d j → i = j := by
  intro i j hi hj h
  have := hD.1 _ _ _ _ (gc_gb hi) (gc_gb hj) h
  omega
variable {p : Program} {l : Launch} {e : Env} {R : Room} {s : State} {m : MethodId} {args : Array Value} {below : List Frame} {meth : Method} {c : Code} {H : Heap} {locs : List Loc} {cells slots : Nat} {Q : State → Prop}
variable {bc : ByteArray} {nL : Nat} {Ts : List Cond} {own : String} {ret : Option FieldType} {D : va_G} {tys : gw_TY} {t1 t2 : Nat} {pc : Nat} {ls : Array Slot} {rest : List Value} {off : Int} {tgt : Nat} {v w : Int32}
theorem gw_acmp_eqp (B : gw_B p s m args meth c bc nL Ts own ret D tys t1 t2 A) (hI : gw_I D A s.heap (gw_cw cc a b d S) H locs) (h1 : gw_ok (gw_np S) v) (h2 : gw_ok (gw_np S) w) (hdg : decode bc pc = .ok (.if_acmp .eq off, 3)) (ht : (pc : Int) + off = (tgt : Int))
    (kt : v = w → W p l e R s m args below meth c H locs cells slots Q (F0 m tgt ls rest)) (kf : ¬ v = w → W p l e R s m args below meth c H locs cells slots Q (F0 m (pc + 3) ls rest)) : W p l e R s m args below meth c H locs cells slots Q (F0 m pc ls (va_rf (gw_rf b w) :: va_rf (gw_rf b v) :: rest)) :=
  lv_acmp_eq B.1.1 B.1.2.1 hdg ht (fun h => kt ((gw_okE h1 h2 (gw_bi hI.2.1)).mp h)) (fun h => kf (fun q => h ((gw_okE h1 h2 (gw_bi hI.2.1)).mpr q)))
theorem gw_acmp_eqb (B : gw_B p s m args meth c bc nL Ts own ret D tys t1 t2 A) (hI : gw_I D A s.heap (gw_cw cc a b d S) H locs) (h1 : gw_ok (gw_nb S) v) (h2 : gw_ok (gw_nb S) w) (hdg : decode bc pc = .ok (.if_acmp .eq off, 3)) (ht : (pc : Int) + off = (tgt : Int))
    (kt : v = w → W p l e R s m args below meth c H locs cells slots Q (F0 m tgt ls rest)) (kf : ¬ v = w → W p l e R s m args below meth c H locs cells slots Q (F0 m (pc + 3) ls rest)) : W p l e R s m args below meth c H locs cells slots Q (F0 m pc ls (va_rf (gw_rf d w) :: va_rf (gw_rf d v) :: rest)) :=
  lv_acmp_eq B.1.1 B.1.2.1 hdg ht (fun h => kt ((gw_okE h1 h2 (gw_di hI.2.1)).mp h)) (fun h => kf (fun q => h ((gw_okE h1 h2 (gw_di hI.2.1)).mpr q)))
theorem gw_acmp_nep (B : gw_B p s m args meth c bc nL Ts own ret D tys t1 t2 A) (hI : gw_I D A s.heap (gw_cw cc a b d S) H locs) (h1 : gw_ok (gw_np S) v) (h2 : gw_ok (gw_np S) w) (hdg : decode bc pc = .ok (.if_acmp .ne off, 3)) (ht : (pc : Int) + off = (tgt : Int))
    (kt : ¬ v = w → W p l e R s m args below meth c H locs cells slots Q (F0 m tgt ls rest)) (kf : v = w → W p l e R s m args below meth c H locs cells slots Q (F0 m (pc + 3) ls rest)) : W p l e R s m args below meth c H locs cells slots Q (F0 m pc ls (va_rf (gw_rf b w) :: va_rf (gw_rf b v) :: rest)) :=
  lv_acmp_ne B.1.1 B.1.2.1 hdg ht (fun h => kt (fun q => h ((gw_okE h1 h2 (gw_bi hI.2.1)).mpr q))) (fun h => kf ((gw_okE h1 h2 (gw_bi hI.2.1)).mp h))
theorem gw_acmp_neb (B : gw_B p s m args meth c bc nL Ts own ret D tys t1 t2 A) (hI : gw_I D A s.heap (gw_cw cc a b d S) H locs) (h1 : gw_ok (gw_nb S) v) (h2 : gw_ok (gw_nb S) w) (hdg : decode bc pc = .ok (.if_acmp .ne off, 3)) (ht : (pc : Int) + off = (tgt : Int))
    (kt : ¬ v = w → W p l e R s m args below meth c H locs cells slots Q (F0 m tgt ls rest)) (kf : v = w → W p l e R s m args below meth c H locs cells slots Q (F0 m (pc + 3) ls rest)) : W p l e R s m args below meth c H locs cells slots Q (F0 m pc ls (va_rf (gw_rf d w) :: va_rf (gw_rf d v) :: rest)) :=
  lv_acmp_ne B.1.1 B.1.2.1 hdg ht (fun h => kt (fun q => h ((gw_okE h1 h2 (gw_di hI.2.1)).mpr q))) (fun h => kf ((gw_okE h1 h2 (gw_di hI.2.1)).mp h))
end GWA
section GWL
variable {cc : Nat → ClassId} {a : Nat → Nat} {S S1 : gw_S}
def gw_lw (cc : Nat → ClassId) (a : Nat → Nat) (S : gw_S) : va_W := [(a 7, .inr (3, [.ref (a 8), .ref (a 9), .ref (a 10), .int (S 7 3), .int (S 7 4)])), (a 8, .inl (cc 0, 36, .inl (S 8))), (a 9, .inl (cc 0, 6, .inl (S 9))), (a 10, .inl (cc 0, 6, .inl (S 10)))]
theorem gl_g7 : (gw_lw cc a S)[0]? = some (a 7, .inr (3, [.ref (a 8), .ref (a 9), .ref (a 10), .int (S 7 3), .int (S 7 4)])) := rfl
theorem gl_s7_3 {v : Int32} (h : S1 = gw_up S 7 3 v) : (gw_lw cc a S).set 0 (a 7, .inr (3, [.ref (a 8), .ref (a 9), .ref (a 10), .int (S 7 3), .int (S 7 4)].set 3 (.int v))) = gw_lw cc a S1 := by subst h; rfl
theorem gl_s7_4 {v : Int32} (h : S1 = gw_up S 7 4 v) : (gw_lw cc a S).set 0 (a 7, .inr (3, [.ref (a 8), .ref (a 9), .ref (a 10), .int (S 7 3), .int (S 7 4)].set 4 (.int v))) = gw_lw cc a S1 := by subst h; rfl
theorem gl_g8 : (gw_lw cc a S)[1]? = some (a 8, .inl (cc 0, 36, .inl (S 8))) := rfl
theorem gl_s8 {i : Nat} {v : Int32} (h : S1 = gw_up S 8 i v) : (gw_lw cc a S).set 1 (a 8, .inl (cc 0, 36, .inl (upd (S 8) i v))) = gw_lw cc a S1 := by subst h; rfl
theorem gl_g9 : (gw_lw cc a S)[2]? = some (a 9, .inl (cc 0, 6, .inl (S 9))) := rfl
theorem gl_s9 {i : Nat} {v : Int32} (h : S1 = gw_up S 9 i v) : (gw_lw cc a S).set 2 (a 9, .inl (cc 0, 6, .inl (upd (S 9) i v))) = gw_lw cc a S1 := by subst h; rfl
theorem gl_g10 : (gw_lw cc a S)[3]? = some (a 10, .inl (cc 0, 6, .inl (S 10))) := rfl
theorem gl_s10 {i : Nat} {v : Int32} (h : S1 = gw_up S 10 i v) : (gw_lw cc a S).set 3 (a 10, .inl (cc 0, 6, .inl (upd (S 10) i v))) = gw_lw cc a S1 := by subst h; rfl
end GWL
section GWM
variable {cc : Nat → ClassId} {a : Nat → Nat} {S S1 : gw_S}
def gw_mw (cc : Nat → ClassId) (a : Nat → Nat) (S : gw_S) : va_W := [(a 0, .inr (9, [.ref (a 1), .ref (a 2), .ref (a 3), .ref (a 4), .ref (a 5), .int (S 0 5), .int (S 0 6), .ref (a 6), .int (S 0 8), .ref (a 7), .ref (a 8), .ref (a 9), .ref (a 10), .ref (a 11), .ref (a 12), .ref (a 13), .ref (a 14), .ref (a 15), .ref (a 16), .ref (a 17), .ref (a 18), .int (S 0 21), .ref (a 19), .ref (a 20), .ref (a 21), .ref (a 22), .ref (a 23), .ref (a 24), .int (S 0 28), .int (S 0 29), .ref (a 25), .ref (a 26), .ref (a 27), .ref (a 28), .ref (a 29), .ref (a 30), .ref (a 31), .ref (a 32), .ref (a 33), .ref (a 34), .ref (a 35), .ref (a 36), .ref (a 37), .ref (a 38), .ref (a 39), .ref (a 40), .ref (a 41), .ref (a 42), .ref (a 43), .ref (a 44), .ref (a 45)])), (a 1, .inl (cc 0, 8, .inl (S 1))), (a 2, .inl (cc 0, 8, .inl (S 2))), (a 3, .inl (cc 0, 8, .inl (S 3))), (a 4, .inl (cc 0, 8, .inl (S 4))), (a 5, .inl (cc 0, 60, .inl (S 5))), (a 6, .inl (cc 0, 81, .inl (S 6))), (a 7, .inl (cc 0, 24, .inl (S 7))), (a 8, .inl (cc 0, 24, .inl (S 8))), (a 9, .inl (cc 0, 24, .inl (S 9))), (a 10, .inl (cc 0, 24, .inl (S 10))), (a 11, .inl (cc 0, 24, .inl (S 11))), (a 12, .inl (cc 0, 24, .inl (S 12))), (a 13, .inl (cc 0, 24, .inl (S 13))), (a 14, .inl (cc 0, 24, .inl (S 14))), (a 15, .inl (cc 0, 24, .inl (S 15))), (a 16, .inl (cc 2, 24, .inl (S 16))), (a 17, .inl (cc 2, 24, .inl (S 17))), (a 18, .inl (cc 0, 24, .inl (S 18))), (a 19, .inl (cc 0, 20, .inl (S 19))), (a 20, .inl (cc 0, 20, .inl (S 20))), (a 21, .inl (cc 0, 20, .inl (S 21))), (a 22, .inl (cc 0, 20, .inl (S 22))), (a 23, .inl (cc 0, 6, .inl (S 23))), (a 24, .inl (cc 0, 6, .inl (S 24))), (a 25, .inl (cc 0, 30, .inl (S 25))), (a 26, .inl (cc 0, 30, .inl (S 26))), (a 27, .inl (cc 0, 30, .inl (S 27))), (a 28, .inl (cc 0, 30, .inl (S 28))), (a 29, .inl (cc 0, 30, .inl (S 29))), (a 30, .inl (cc 0, 30, .inl (S 30))), (a 31, .inl (cc 0, 30, .inl (S 31))), (a 32, .inl (cc 0, 30, .inl (S 32))), (a 33, .inl (cc 0, 30, .inl (S 33))), (a 34, .inl (cc 0, 30, .inl (S 34))), (a 35, .inl (cc 0, 30, .inl (S 35))), (a 36, .inl (cc 0, 30, .inl (S 36))), (a 37, .inl (cc 0, 30, .inl (S 37))), (a 38, .inl (cc 0, 30, .inl (S 38))), (a 39, .inl (cc 0, 30, .inl (S 39))), (a 40, .inl (cc 0, 8, .inl (S 40))), (a 41, .inl (cc 0, 8, .inl (S 41))), (a 42, .inl (cc 0, 30, .inl (S 42))), (a 43, .inl (cc 0, 4, .inl (S 43))), (a 44, .inl (cc 0, 4, .inl (S 44))), (a 45, .inl (cc 0, 144, .inl (S 45)))]
theorem gm_g0 : (gw_mw cc a S)[0]? = some (a 0, .inr (9, [.ref (a 1), .ref (a 2), .ref (a 3), .ref (a 4), .ref (a 5), .int (S 0 5), .int (S 0 6), .ref (a 6), .int (S 0 8), .ref (a 7), .ref (a 8), .ref (a 9), .ref (a 10), .ref (a 11), .ref (a 12), .ref (a 13), .ref (a 14), .ref (a 15), .ref (a 16), .ref (a 17), .ref (a 18), .int (S 0 21), .ref (a 19), .ref (a 20), .ref (a 21), .ref (a 22), .ref (a 23), .ref (a 24), .int (S 0 28), .int (S 0 29), .ref (a 25), .ref (a 26), .ref (a 27), .ref (a 28), .ref (a 29), .ref (a 30), .ref (a 31), .ref (a 32), .ref (a 33), .ref (a 34), .ref (a 35), .ref (a 36), .ref (a 37), .ref (a 38), .ref (a 39), .ref (a 40), .ref (a 41), .ref (a 42), .ref (a 43), .ref (a 44), .ref (a 45)])) := rfl
theorem gm_s0_5 {v : Int32} (h : S1 = gw_up S 0 5 v) : (gw_mw cc a S).set 0 (a 0, .inr (9, [.ref (a 1), .ref (a 2), .ref (a 3), .ref (a 4), .ref (a 5), .int (S 0 5), .int (S 0 6), .ref (a 6), .int (S 0 8), .ref (a 7), .ref (a 8), .ref (a 9), .ref (a 10), .ref (a 11), .ref (a 12), .ref (a 13), .ref (a 14), .ref (a 15), .ref (a 16), .ref (a 17), .ref (a 18), .int (S 0 21), .ref (a 19), .ref (a 20), .ref (a 21), .ref (a 22), .ref (a 23), .ref (a 24), .int (S 0 28), .int (S 0 29), .ref (a 25), .ref (a 26), .ref (a 27), .ref (a 28), .ref (a 29), .ref (a 30), .ref (a 31), .ref (a 32), .ref (a 33), .ref (a 34), .ref (a 35), .ref (a 36), .ref (a 37), .ref (a 38), .ref (a 39), .ref (a 40), .ref (a 41), .ref (a 42), .ref (a 43), .ref (a 44), .ref (a 45)].set 5 (.int v))) = gw_mw cc a S1 := by subst h; rfl
theorem gm_s0_6 {v : Int32} (h : S1 = gw_up S 0 6 v) : (gw_mw cc a S).set 0 (a 0, .inr (9, [.ref (a 1), .ref (a 2), .ref (a 3), .ref (a 4), .ref (a 5), .int (S 0 5), .int (S 0 6), .ref (a 6), .int (S 0 8), .ref (a 7), .ref (a 8), .ref (a 9), .ref (a 10), .ref (a 11), .ref (a 12), .ref (a 13), .ref (a 14), .ref (a 15), .ref (a 16), .ref (a 17), .ref (a 18), .int (S 0 21), .ref (a 19), .ref (a 20), .ref (a 21), .ref (a 22), .ref (a 23), .ref (a 24), .int (S 0 28), .int (S 0 29), .ref (a 25), .ref (a 26), .ref (a 27), .ref (a 28), .ref (a 29), .ref (a 30), .ref (a 31), .ref (a 32), .ref (a 33), .ref (a 34), .ref (a 35), .ref (a 36), .ref (a 37), .ref (a 38), .ref (a 39), .ref (a 40), .ref (a 41), .ref (a 42), .ref (a 43), .ref (a 44), .ref (a 45)].set 6 (.int v))) = gw_mw cc a S1 := by subst h; rfl
theorem gm_s0_8 {v : Int32} (h : S1 = gw_up S 0 8 v) : (gw_mw cc a S).set 0 (a 0, .inr (9, [.ref (a 1), .ref (a 2), .ref (a 3), .ref (a 4), .ref (a 5), .int (S 0 5), .int (S 0 6), .ref (a 6), .int (S 0 8), .ref (a 7), .ref (a 8), .ref (a 9), .ref (a 10), .ref (a 11), .ref (a 12), .ref (a 13), .ref (a 14), .ref (a 15), .ref (a 16), .ref (a 17), .ref (a 18), .int (S 0 21), .ref (a 19), .ref (a 20), .ref (a 21), .ref (a 22), .ref (a 23), .ref (a 24), .int (S 0 28), .int (S 0 29), .ref (a 25), .ref (a 26), .ref (a 27), .ref (a 28), .ref (a 29), .ref (a 30), .ref (a 31), .ref (a 32), .ref (a 33), .ref (a 34), .ref (a 35), .ref (a 36), .ref (a 37), .ref (a 38), .ref (a 39), .ref (a 40), .ref (a 41), .ref (a 42), .ref (a 43), .ref (a 44), .ref (a 45)].set 8 (.int v))) = gw_mw cc a S1 := by subst h; rfl
theorem gm_s0_21 {v : Int32} (h : S1 = gw_up S 0 21 v) : (gw_mw cc a S).set 0 (a 0, .inr (9, [.ref (a 1), .ref (a 2), .ref (a 3), .ref (a 4), .ref (a 5), .int (S 0 5), .int (S 0 6), .ref (a 6), .int (S 0 8), .ref (a 7), .ref (a 8), .ref (a 9), .ref (a 10), .ref (a 11), .ref (a 12), .ref (a 13), .ref (a 14), .ref (a 15), .ref (a 16), .ref (a 17), .ref (a 18), .int (S 0 21), .ref (a 19), .ref (a 20), .ref (a 21), .ref (a 22), .ref (a 23), .ref (a 24), .int (S 0 28), .int (S 0 29), .ref (a 25), .ref (a 26), .ref (a 27), .ref (a 28), .ref (a 29), .ref (a 30), .ref (a 31), .ref (a 32), .ref (a 33), .ref (a 34), .ref (a 35), .ref (a 36), .ref (a 37), .ref (a 38), .ref (a 39), .ref (a 40), .ref (a 41), .ref (a 42), .ref (a 43), .ref (a 44), .ref (a 45)].set 21 (.int v))) = gw_mw cc a S1 := by subst h; rfl
theorem gm_s0_28 {v : Int32} (h : S1 = gw_up S 0 28 v) : (gw_mw cc a S).set 0 (a 0, .inr (9, [.ref (a 1), .ref (a 2), .ref (a 3), .ref (a 4), .ref (a 5), .int (S 0 5), .int (S 0 6), .ref (a 6), .int (S 0 8), .ref (a 7), .ref (a 8), .ref (a 9), .ref (a 10), .ref (a 11), .ref (a 12), .ref (a 13), .ref (a 14), .ref (a 15), .ref (a 16), .ref (a 17), .ref (a 18), .int (S 0 21), .ref (a 19), .ref (a 20), .ref (a 21), .ref (a 22), .ref (a 23), .ref (a 24), .int (S 0 28), .int (S 0 29), .ref (a 25), .ref (a 26), .ref (a 27), .ref (a 28), .ref (a 29), .ref (a 30), .ref (a 31), .ref (a 32), .ref (a 33), .ref (a 34), .ref (a 35), .ref (a 36), .ref (a 37), .ref (a 38), .ref (a 39), .ref (a 40), .ref (a 41), .ref (a 42), .ref (a 43), .ref (a 44), .ref (a 45)].set 28 (.int v))) = gw_mw cc a S1 := by subst h; rfl
theorem gm_s0_29 {v : Int32} (h : S1 = gw_up S 0 29 v) : (gw_mw cc a S).set 0 (a 0, .inr (9, [.ref (a 1), .ref (a 2), .ref (a 3), .ref (a 4), .ref (a 5), .int (S 0 5), .int (S 0 6), .ref (a 6), .int (S 0 8), .ref (a 7), .ref (a 8), .ref (a 9), .ref (a 10), .ref (a 11), .ref (a 12), .ref (a 13), .ref (a 14), .ref (a 15), .ref (a 16), .ref (a 17), .ref (a 18), .int (S 0 21), .ref (a 19), .ref (a 20), .ref (a 21), .ref (a 22), .ref (a 23), .ref (a 24), .int (S 0 28), .int (S 0 29), .ref (a 25), .ref (a 26), .ref (a 27), .ref (a 28), .ref (a 29), .ref (a 30), .ref (a 31), .ref (a 32), .ref (a 33), .ref (a 34), .ref (a 35), .ref (a 36), .ref (a 37), .ref (a 38), .ref (a 39), .ref (a 40), .ref (a 41), .ref (a 42), .ref (a 43), .ref (a 44), .ref (a 45)].set 29 (.int v))) = gw_mw cc a S1 := by subst h; rfl
theorem gm_g1 : (gw_mw cc a S)[1]? = some (a 1, .inl (cc 0, 8, .inl (S 1))) := rfl
theorem gm_s1 {i : Nat} {v : Int32} (h : S1 = gw_up S 1 i v) : (gw_mw cc a S).set 1 (a 1, .inl (cc 0, 8, .inl (upd (S 1) i v))) = gw_mw cc a S1 := by subst h; rfl
theorem gm_g2 : (gw_mw cc a S)[2]? = some (a 2, .inl (cc 0, 8, .inl (S 2))) := rfl
theorem gm_s2 {i : Nat} {v : Int32} (h : S1 = gw_up S 2 i v) : (gw_mw cc a S).set 2 (a 2, .inl (cc 0, 8, .inl (upd (S 2) i v))) = gw_mw cc a S1 := by subst h; rfl
theorem gm_g3 : (gw_mw cc a S)[3]? = some (a 3, .inl (cc 0, 8, .inl (S 3))) := rfl
theorem gm_s3 {i : Nat} {v : Int32} (h : S1 = gw_up S 3 i v) : (gw_mw cc a S).set 3 (a 3, .inl (cc 0, 8, .inl (upd (S 3) i v))) = gw_mw cc a S1 := by subst h; rfl
theorem gm_g4 : (gw_mw cc a S)[4]? = some (a 4, .inl (cc 0, 8, .inl (S 4))) := rfl
theorem gm_s4 {i : Nat} {v : Int32} (h : S1 = gw_up S 4 i v) : (gw_mw cc a S).set 4 (a 4, .inl (cc 0, 8, .inl (upd (S 4) i v))) = gw_mw cc a S1 := by subst h; rfl
theorem gm_g5 : (gw_mw cc a S)[5]? = some (a 5, .inl (cc 0, 60, .inl (S 5))) := rfl
theorem gm_s5 {i : Nat} {v : Int32} (h : S1 = gw_up S 5 i v) : (gw_mw cc a S).set 5 (a 5, .inl (cc 0, 60, .inl (upd (S 5) i v))) = gw_mw cc a S1 := by subst h; rfl
theorem gm_g6 : (gw_mw cc a S)[6]? = some (a 6, .inl (cc 0, 81, .inl (S 6))) := rfl
theorem gm_s6 {i : Nat} {v : Int32} (h : S1 = gw_up S 6 i v) : (gw_mw cc a S).set 6 (a 6, .inl (cc 0, 81, .inl (upd (S 6) i v))) = gw_mw cc a S1 := by subst h; rfl
theorem gm_g7 : (gw_mw cc a S)[7]? = some (a 7, .inl (cc 0, 24, .inl (S 7))) := rfl
theorem gm_s7 {i : Nat} {v : Int32} (h : S1 = gw_up S 7 i v) : (gw_mw cc a S).set 7 (a 7, .inl (cc 0, 24, .inl (upd (S 7) i v))) = gw_mw cc a S1 := by subst h; rfl
theorem gm_g8 : (gw_mw cc a S)[8]? = some (a 8, .inl (cc 0, 24, .inl (S 8))) := rfl
theorem gm_s8 {i : Nat} {v : Int32} (h : S1 = gw_up S 8 i v) : (gw_mw cc a S).set 8 (a 8, .inl (cc 0, 24, .inl (upd (S 8) i v))) = gw_mw cc a S1 := by subst h; rfl
theorem gm_g9 : (gw_mw cc a S)[9]? = some (a 9, .inl (cc 0, 24, .inl (S 9))) := rfl
theorem gm_s9 {i : Nat} {v : Int32} (h : S1 = gw_up S 9 i v) : (gw_mw cc a S).set 9 (a 9, .inl (cc 0, 24, .inl (upd (S 9) i v))) = gw_mw cc a S1 := by subst h; rfl
theorem gm_g10 : (gw_mw cc a S)[10]? = some (a 10, .inl (cc 0, 24, .inl (S 10))) := rfl
theorem gm_s10 {i : Nat} {v : Int32} (h : S1 = gw_up S 10 i v) : (gw_mw cc a S).set 10 (a 10, .inl (cc 0, 24, .inl (upd (S 10) i v))) = gw_mw cc a S1 := by subst h; rfl
theorem gm_g11 : (gw_mw cc a S)[11]? = some (a 11, .inl (cc 0, 24, .inl (S 11))) := rfl
theorem gm_s11 {i : Nat} {v : Int32} (h : S1 = gw_up S 11 i v) : (gw_mw cc a S).set 11 (a 11, .inl (cc 0, 24, .inl (upd (S 11) i v))) = gw_mw cc a S1 := by subst h; rfl
theorem gm_g12 : (gw_mw cc a S)[12]? = some (a 12, .inl (cc 0, 24, .inl (S 12))) := rfl
theorem gm_s12 {i : Nat} {v : Int32} (h : S1 = gw_up S 12 i v) : (gw_mw cc a S).set 12 (a 12, .inl (cc 0, 24, .inl (upd (S 12) i v))) = gw_mw cc a S1 := by subst h; rfl
theorem gm_g13 : (gw_mw cc a S)[13]? = some (a 13, .inl (cc 0, 24, .inl (S 13))) := rfl
theorem gm_s13 {i : Nat} {v : Int32} (h : S1 = gw_up S 13 i v) : (gw_mw cc a S).set 13 (a 13, .inl (cc 0, 24, .inl (upd (S 13) i v))) = gw_mw cc a S1 := by subst h; rfl
theorem gm_g14 : (gw_mw cc a S)[14]? = some (a 14, .inl (cc 0, 24, .inl (S 14))) := rfl
theorem gm_s14 {i : Nat} {v : Int32} (h : S1 = gw_up S 14 i v) : (gw_mw cc a S).set 14 (a 14, .inl (cc 0, 24, .inl (upd (S 14) i v))) = gw_mw cc a S1 := by subst h; rfl
theorem gm_g15 : (gw_mw cc a S)[15]? = some (a 15, .inl (cc 0, 24, .inl (S 15))) := rfl
theorem gm_s15 {i : Nat} {v : Int32} (h : S1 = gw_up S 15 i v) : (gw_mw cc a S).set 15 (a 15, .inl (cc 0, 24, .inl (upd (S 15) i v))) = gw_mw cc a S1 := by subst h; rfl
theorem gm_g16 : (gw_mw cc a S)[16]? = some (a 16, .inl (cc 2, 24, .inl (S 16))) := rfl
theorem gm_s16 {i : Nat} {v : Int32} (h : S1 = gw_up S 16 i v) : (gw_mw cc a S).set 16 (a 16, .inl (cc 2, 24, .inl (upd (S 16) i v))) = gw_mw cc a S1 := by subst h; rfl
theorem gm_g17 : (gw_mw cc a S)[17]? = some (a 17, .inl (cc 2, 24, .inl (S 17))) := rfl
theorem gm_s17 {i : Nat} {v : Int32} (h : S1 = gw_up S 17 i v) : (gw_mw cc a S).set 17 (a 17, .inl (cc 2, 24, .inl (upd (S 17) i v))) = gw_mw cc a S1 := by subst h; rfl
theorem gm_g18 : (gw_mw cc a S)[18]? = some (a 18, .inl (cc 0, 24, .inl (S 18))) := rfl
theorem gm_s18 {i : Nat} {v : Int32} (h : S1 = gw_up S 18 i v) : (gw_mw cc a S).set 18 (a 18, .inl (cc 0, 24, .inl (upd (S 18) i v))) = gw_mw cc a S1 := by subst h; rfl
theorem gm_g19 : (gw_mw cc a S)[19]? = some (a 19, .inl (cc 0, 20, .inl (S 19))) := rfl
theorem gm_s19 {i : Nat} {v : Int32} (h : S1 = gw_up S 19 i v) : (gw_mw cc a S).set 19 (a 19, .inl (cc 0, 20, .inl (upd (S 19) i v))) = gw_mw cc a S1 := by subst h; rfl
theorem gm_g20 : (gw_mw cc a S)[20]? = some (a 20, .inl (cc 0, 20, .inl (S 20))) := rfl
theorem gm_s20 {i : Nat} {v : Int32} (h : S1 = gw_up S 20 i v) : (gw_mw cc a S).set 20 (a 20, .inl (cc 0, 20, .inl (upd (S 20) i v))) = gw_mw cc a S1 := by subst h; rfl
theorem gm_g21 : (gw_mw cc a S)[21]? = some (a 21, .inl (cc 0, 20, .inl (S 21))) := rfl
theorem gm_s21 {i : Nat} {v : Int32} (h : S1 = gw_up S 21 i v) : (gw_mw cc a S).set 21 (a 21, .inl (cc 0, 20, .inl (upd (S 21) i v))) = gw_mw cc a S1 := by subst h; rfl
theorem gm_g22 : (gw_mw cc a S)[22]? = some (a 22, .inl (cc 0, 20, .inl (S 22))) := rfl
theorem gm_s22 {i : Nat} {v : Int32} (h : S1 = gw_up S 22 i v) : (gw_mw cc a S).set 22 (a 22, .inl (cc 0, 20, .inl (upd (S 22) i v))) = gw_mw cc a S1 := by subst h; rfl
theorem gm_g23 : (gw_mw cc a S)[23]? = some (a 23, .inl (cc 0, 6, .inl (S 23))) := rfl
theorem gm_s23 {i : Nat} {v : Int32} (h : S1 = gw_up S 23 i v) : (gw_mw cc a S).set 23 (a 23, .inl (cc 0, 6, .inl (upd (S 23) i v))) = gw_mw cc a S1 := by subst h; rfl
theorem gm_g24 : (gw_mw cc a S)[24]? = some (a 24, .inl (cc 0, 6, .inl (S 24))) := rfl
theorem gm_s24 {i : Nat} {v : Int32} (h : S1 = gw_up S 24 i v) : (gw_mw cc a S).set 24 (a 24, .inl (cc 0, 6, .inl (upd (S 24) i v))) = gw_mw cc a S1 := by subst h; rfl
theorem gm_g25 : (gw_mw cc a S)[25]? = some (a 25, .inl (cc 0, 30, .inl (S 25))) := rfl
theorem gm_s25 {i : Nat} {v : Int32} (h : S1 = gw_up S 25 i v) : (gw_mw cc a S).set 25 (a 25, .inl (cc 0, 30, .inl (upd (S 25) i v))) = gw_mw cc a S1 := by subst h; rfl
theorem gm_g26 : (gw_mw cc a S)[26]? = some (a 26, .inl (cc 0, 30, .inl (S 26))) := rfl
theorem gm_s26 {i : Nat} {v : Int32} (h : S1 = gw_up S 26 i v) : (gw_mw cc a S).set 26 (a 26, .inl (cc 0, 30, .inl (upd (S 26) i v))) = gw_mw cc a S1 := by subst h; rfl
theorem gm_g27 : (gw_mw cc a S)[27]? = some (a 27, .inl (cc 0, 30, .inl (S 27))) := rfl
theorem gm_s27 {i : Nat} {v : Int32} (h : S1 = gw_up S 27 i v) : (gw_mw cc a S).set 27 (a 27, .inl (cc 0, 30, .inl (upd (S 27) i v))) = gw_mw cc a S1 := by subst h; rfl
theorem gm_g28 : (gw_mw cc a S)[28]? = some (a 28, .inl (cc 0, 30, .inl (S 28))) := rfl
theorem gm_s28 {i : Nat} {v : Int32} (h : S1 = gw_up S 28 i v) : (gw_mw cc a S).set 28 (a 28, .inl (cc 0, 30, .inl (upd (S 28) i v))) = gw_mw cc a S1 := by subst h; rfl
theorem gm_g29 : (gw_mw cc a S)[29]? = some (a 29, .inl (cc 0, 30, .inl (S 29))) := rfl
theorem gm_s29 {i : Nat} {v : Int32} (h : S1 = gw_up S 29 i v) : (gw_mw cc a S).set 29 (a 29, .inl (cc 0, 30, .inl (upd (S 29) i v))) = gw_mw cc a S1 := by subst h; rfl
theorem gm_g30 : (gw_mw cc a S)[30]? = some (a 30, .inl (cc 0, 30, .inl (S 30))) := rfl
theorem gm_s30 {i : Nat} {v : Int32} (h : S1 = gw_up S 30 i v) : (gw_mw cc a S).set 30 (a 30, .inl (cc 0, 30, .inl (upd (S 30) i v))) = gw_mw cc a S1 := by subst h; rfl
theorem gm_g31 : (gw_mw cc a S)[31]? = some (a 31, .inl (cc 0, 30, .inl (S 31))) := rfl
theorem gm_s31 {i : Nat} {v : Int32} (h : S1 = gw_up S 31 i v) : (gw_mw cc a S).set 31 (a 31, .inl (cc 0, 30, .inl (upd (S 31) i v))) = gw_mw cc a S1 := by subst h; rfl
theorem gm_g32 : (gw_mw cc a S)[32]? = some (a 32, .inl (cc 0, 30, .inl (S 32))) := rfl
theorem gm_s32 {i : Nat} {v : Int32} (h : S1 = gw_up S 32 i v) : (gw_mw cc a S).set 32 (a 32, .inl (cc 0, 30, .inl (upd (S 32) i v))) = gw_mw cc a S1 := by subst h; rfl
theorem gm_g33 : (gw_mw cc a S)[33]? = some (a 33, .inl (cc 0, 30, .inl (S 33))) := rfl
theorem gm_s33 {i : Nat} {v : Int32} (h : S1 = gw_up S 33 i v) : (gw_mw cc a S).set 33 (a 33, .inl (cc 0, 30, .inl (upd (S 33) i v))) = gw_mw cc a S1 := by subst h; rfl
theorem gm_g34 : (gw_mw cc a S)[34]? = some (a 34, .inl (cc 0, 30, .inl (S 34))) := rfl
theorem gm_s34 {i : Nat} {v : Int32} (h : S1 = gw_up S 34 i v) : (gw_mw cc a S).set 34 (a 34, .inl (cc 0, 30, .inl (upd (S 34) i v))) = gw_mw cc a S1 := by subst h; rfl
theorem gm_g35 : (gw_mw cc a S)[35]? = some (a 35, .inl (cc 0, 30, .inl (S 35))) := rfl
theorem gm_s35 {i : Nat} {v : Int32} (h : S1 = gw_up S 35 i v) : (gw_mw cc a S).set 35 (a 35, .inl (cc 0, 30, .inl (upd (S 35) i v))) = gw_mw cc a S1 := by subst h; rfl
theorem gm_g36 : (gw_mw cc a S)[36]? = some (a 36, .inl (cc 0, 30, .inl (S 36))) := rfl
theorem gm_s36 {i : Nat} {v : Int32} (h : S1 = gw_up S 36 i v) : (gw_mw cc a S).set 36 (a 36, .inl (cc 0, 30, .inl (upd (S 36) i v))) = gw_mw cc a S1 := by subst h; rfl
theorem gm_g37 : (gw_mw cc a S)[37]? = some (a 37, .inl (cc 0, 30, .inl (S 37))) := rfl
theorem gm_s37 {i : Nat} {v : Int32} (h : S1 = gw_up S 37 i v) : (gw_mw cc a S).set 37 (a 37, .inl (cc 0, 30, .inl (upd (S 37) i v))) = gw_mw cc a S1 := by subst h; rfl
theorem gm_g38 : (gw_mw cc a S)[38]? = some (a 38, .inl (cc 0, 30, .inl (S 38))) := rfl
theorem gm_s38 {i : Nat} {v : Int32} (h : S1 = gw_up S 38 i v) : (gw_mw cc a S).set 38 (a 38, .inl (cc 0, 30, .inl (upd (S 38) i v))) = gw_mw cc a S1 := by subst h; rfl
theorem gm_g39 : (gw_mw cc a S)[39]? = some (a 39, .inl (cc 0, 30, .inl (S 39))) := rfl
theorem gm_s39 {i : Nat} {v : Int32} (h : S1 = gw_up S 39 i v) : (gw_mw cc a S).set 39 (a 39, .inl (cc 0, 30, .inl (upd (S 39) i v))) = gw_mw cc a S1 := by subst h; rfl
theorem gm_g40 : (gw_mw cc a S)[40]? = some (a 40, .inl (cc 0, 8, .inl (S 40))) := rfl
theorem gm_s40 {i : Nat} {v : Int32} (h : S1 = gw_up S 40 i v) : (gw_mw cc a S).set 40 (a 40, .inl (cc 0, 8, .inl (upd (S 40) i v))) = gw_mw cc a S1 := by subst h; rfl
theorem gm_g41 : (gw_mw cc a S)[41]? = some (a 41, .inl (cc 0, 8, .inl (S 41))) := rfl
theorem gm_s41 {i : Nat} {v : Int32} (h : S1 = gw_up S 41 i v) : (gw_mw cc a S).set 41 (a 41, .inl (cc 0, 8, .inl (upd (S 41) i v))) = gw_mw cc a S1 := by subst h; rfl
theorem gm_g42 : (gw_mw cc a S)[42]? = some (a 42, .inl (cc 0, 30, .inl (S 42))) := rfl
theorem gm_s42 {i : Nat} {v : Int32} (h : S1 = gw_up S 42 i v) : (gw_mw cc a S).set 42 (a 42, .inl (cc 0, 30, .inl (upd (S 42) i v))) = gw_mw cc a S1 := by subst h; rfl
theorem gm_g43 : (gw_mw cc a S)[43]? = some (a 43, .inl (cc 0, 4, .inl (S 43))) := rfl
theorem gm_s43 {i : Nat} {v : Int32} (h : S1 = gw_up S 43 i v) : (gw_mw cc a S).set 43 (a 43, .inl (cc 0, 4, .inl (upd (S 43) i v))) = gw_mw cc a S1 := by subst h; rfl
theorem gm_g44 : (gw_mw cc a S)[44]? = some (a 44, .inl (cc 0, 4, .inl (S 44))) := rfl
theorem gm_s44 {i : Nat} {v : Int32} (h : S1 = gw_up S 44 i v) : (gw_mw cc a S).set 44 (a 44, .inl (cc 0, 4, .inl (upd (S 44) i v))) = gw_mw cc a S1 := by subst h; rfl
theorem gm_g45 : (gw_mw cc a S)[45]? = some (a 45, .inl (cc 0, 144, .inl (S 45))) := rfl
theorem gm_s45 {i : Nat} {v : Int32} (h : S1 = gw_up S 45 i v) : (gw_mw cc a S).set 45 (a 45, .inl (cc 0, 144, .inl (upd (S 45) i v))) = gw_mw cc a S1 := by subst h; rfl
end GWM
end
section
/-! the methods as pure functions: printed by wip/gen -/
def f_X0_isCalledOff (x0 : Int32) (S : gw_S) : Option (Int32) := gw_gd (x0.toNatClampNeg < gw_nb S) ((if (S (2 * x0.toNatClampNeg + 31) 7) = (-4 : Int32) then some (0 : Int32) else some (1 : Int32)))
abbrev rm_X0_isCalledOff : Room := { frames := 0, cells := 0, slots := 0, locals := 0 }
def f_X0_wentOut (x0 : Int32) (S : gw_S) : Option (Int32) := gw_gd (x0.toNatClampNeg < gw_nb S) ((if (S (2 * x0.toNatClampNeg + 31) 9) = 0 then some (0 : Int32) else some (1 : Int32)))
abbrev rm_X0_wentOut : Room := { frames := 0, cells := 0, slots := 0, locals := 0 }
def f_X0_waits (x0 : Int32) (S : gw_S) : Option (Int32) := gw_gd (x0.toNatClampNeg < gw_nb S) ((if (S (2 * x0.toNatClampNeg + 31) 8) = -1 then gw_bd (f_X0_isCalledOff x0 S) (fun r3 => (if r3 = 0 then some (1 : Int32) else some (0 : Int32))) else some (0 : Int32)))
abbrev rm_X0_waits : Room := { frames := 1, cells := 0, slots := 0, locals := 40 }
def f_X0_pieceNumber (x0 : Int32) (S : gw_S) : Option (Int32) := gw_gd (x0.toNatClampNeg < gw_nb S) ((if (S (2 * x0.toNatClampNeg + 31) 8) = -1 then some (-4 : Int32) else gw_gd ((S (2 * x0.toNatClampNeg + 31) 8).toNatClampNeg < gw_np S) (some (S (2 * (S (2 * x0.toNatClampNeg + 31) 8).toNatClampNeg + 30) 7))))
abbrev rm_X0_pieceNumber : Room := { frames := 0, cells := 0, slots := 0, locals := 0 }
def f_X0_isKnownOn (x0 : Int32) (x1 : Int32) (S : gw_S) : Option (Int32) := gw_gd (x0.toNatClampNeg < gw_nb S) ((if x1 < (S (2 * x0.toNatClampNeg + 31) 5) then some (0 : Int32) else gw_bd (f_X0_isCalledOff x0 S) (fun r3 => (if r3 = 0 then some (1 : Int32) else (if (S (2 * x0.toNatClampNeg + 31) 7) ≤ x1 then some (0 : Int32) else some (1 : Int32))))))
abbrev rm_X0_isKnownOn : Room := { frames := 1, cells := 0, slots := 0, locals := 40 }
def f_X0_tally (x0 : Int32) (x1 : Int32) (S : gw_S) : Option (Int32) := (if x1 = 5 then gw_gd (x0.toNatClampNeg < gw_nb S) (gw_bd (f_X0_isCalledOff x0 S) (fun r3 => (if r3 = 0 then some (0 : Int32) else some (1 : Int32)))) else (if x1 = 6 then gw_gd (x0.toNatClampNeg < gw_nb S) ((if (S (2 * x0.toNatClampNeg + 31) 8) = -1 then some (0 : Int32) else some (1 : Int32))) else some (0 : Int32)))
abbrev rm_X0_tally : Room := { frames := 1, cells := 0, slots := 0, locals := 40 }
def f_X0_goOut (x0 : Int32) (x1 : Int32) (x2 : Int32) (S : gw_S) : Option (gw_S) := gw_gd (x0.toNatClampNeg < gw_nb S) (gw_let (gw_up S (2 * x0.toNatClampNeg + 31) 9 (1 : Int32)) (fun S2 => gw_gd (x0.toNatClampNeg < gw_nb S2) (gw_let (gw_up S2 (2 * x0.toNatClampNeg + 31) 11 x1) (fun S5 => gw_gd (x0.toNatClampNeg < gw_nb S5) (gw_let (gw_up S5 (2 * x0.toNatClampNeg + 31) 10 x2) (fun S8 => some S8))))))
abbrev rm_X0_goOut : Room := { frames := 0, cells := 0, slots := 0, locals := 0 }
def f_X0_comeHome (x0 : Int32) (x1 : Int32) (x2 : Int32) (S : gw_S) : Option (gw_S) := gw_gd (x0.toNatClampNeg < gw_nb S) (gw_let (gw_up S (2 * x0.toNatClampNeg + 31) 9 (2 : Int32)) (fun S2 => gw_gd (x0.toNatClampNeg < gw_nb S2) (gw_let (gw_up S2 (2 * x0.toNatClampNeg + 31) 13 x1) (fun S5 => gw_gd (x0.toNatClampNeg < gw_nb S5) (gw_let (gw_up S5 (2 * x0.toNatClampNeg + 31) 12 x2) (fun S8 => some S8))))))
abbrev rm_X0_comeHome : Room := { frames := 0, cells := 0, slots := 0, locals := 0 }
def f_X1_bookingIn (x1 : Int32) (S : gw_S) : Option (Int32) := (if x1 < 0 then some (-1 : Int32) else (if (S 15 5) ≤ x1 then some (-1 : Int32) else (if (4 : Int32) ≤ x1 then some (-1 : Int32) else gw_gd (gw_in x1 4) (some (S 18 x1.toNatClampNeg)))))
abbrev rm_X1_bookingIn : Room := { frames := 0, cells := 0, slots := 0, locals := 0 }
def f_X1_pieceIn (x1 : Int32) (S : gw_S) : Option (Int32) := (if x1 < 0 then some (-1 : Int32) else (if (S 15 5) ≤ x1 then some (-1 : Int32) else (if (4 : Int32) ≤ x1 then some (-1 : Int32) else gw_gd (gw_in x1 4) (some (S 19 x1.toNatClampNeg)))))
abbrev rm_X1_pieceIn : Room := { frames := 0, cells := 0, slots := 0, locals := 0 }
def f_X7_at (x1 : Int32) (S : gw_S) : Option (Int32) := (if x1 < 0 then some (0 : Int32) else (if (8 : Int32) ≤ x1 then some (0 : Int32) else gw_gd (gw_in x1 8) (some (S 5 x1.toNatClampNeg))))
abbrev rm_X7_at : Room := { frames := 0, cells := 0, slots := 0, locals := 0 }
def f_X1_nearestOf (x1 : Int32) (S : gw_S) : Option (Int32) := (if x1 < 0 then some (99 : Int32) else (if (30 : Int32) ≤ x1 then some (99 : Int32) else gw_gd (gw_in x1 30) (some (S 17 x1.toNatClampNeg))))
abbrev rm_X1_nearestOf : Room := { frames := 0, cells := 0, slots := 0, locals := 0 }
def f_X1_sourceOf (x1 : Int32) (x2 : Int32) (S : gw_S) : Option (Int32) := gw_let (((x1 * (24 : Int32)) + x2) : Int32) (fun y1 => (if y1 < 0 then some (-2 : Int32) else (if (720 : Int32) ≤ y1 then some (-2 : Int32) else gw_gd (gw_in y1 720) (some (S 16 y1.toNatClampNeg)))))
abbrev rm_X1_sourceOf : Room := { frames := 0, cells := 0, slots := 0, locals := 0 }
def f_X1_isTakenAhead_b2 (S : gw_S)  : Nat → Int32 → Int32 → Int32 → Option (Int32)
  | 0, _, _, _ => none
  | n + 1, v1, v2, v3 => (if v2 ≤ v3 then some (0 : Int32) else (if (4 : Int32) ≤ v3 then some (0 : Int32) else gw_gd (gw_in v3 4) ((if (S 19 v3.toNatClampNeg) = v1 then some (1 : Int32) else gw_let (v3 + (1 : Int32) : Int32) (fun y5 => (f_X1_isTakenAhead_b2 S  n) v1 v2 y5)))))
def f_X1_isTakenAhead (x1 : Int32) (x2 : Int32) (S : gw_S) : Option (Int32) := f_X1_isTakenAhead_b2 S  gw_F x1 x2 (0 : Int32)
abbrev rm_X1_isTakenAhead : Room := { frames := 0, cells := 0, slots := 0, locals := 0 }
def f_X1_follow_b141 (F : Int32 → Int32 → gw_S → Option (Int32 × gw_S)) (K31 : Int32 → Int32 → Int32 → Int32 → gw_S → Option (Int32 × gw_S)) : Int32 → Int32 → Int32 → Int32 → gw_S → Option (Int32 × gw_S) := fun v1 v2 v3 v4 S => gw_let (v4 + (1 : Int32) : Int32) (fun y1 => K31 v1 v2 v3 y1 S)
def f_X1_follow_b126 (F : Int32 → Int32 → gw_S → Option (Int32 × gw_S)) (K31 : Int32 → Int32 → Int32 → Int32 → gw_S → Option (Int32 × gw_S)) : Int32 → Int32 → Int32 → Int32 → gw_S → Option (Int32 × gw_S) := fun v1 v2 v3 v4 S => gw_b2 (F (v1 + (1 : Int32)) (v2 - (1 : Int32)) S) (fun r3 S4 => (if r3 = 0 then f_X1_follow_b141 F K31 v1 v2 v3 v4 S4 else some ((1 : Int32), S4)))
def f_X1_follow_b79 (F : Int32 → Int32 → gw_S → Option (Int32 × gw_S)) (K31 : Int32 → Int32 → Int32 → Int32 → gw_S → Option (Int32 × gw_S)) : Int32 → Int32 → Int32 → Int32 → Int32 → Int32 → Int32 → gw_S → Option (Int32 × gw_S) := fun v1 v2 v3 v4 v5 t0_ t1_ S => (if t1_ = t0_ then gw_bd (f_X1_isTakenAhead v4 v1 S) (fun r8 => (if r8 = 0 then gw_gd (gw_in v1 4) (gw_let (gw_up S 19 v1.toNatClampNeg v4) (fun S12 => (if v2 = 0 then some ((1 : Int32), S12) else (if (4 : Int32) ≤ (v1 + (1 : Int32)) then f_X1_follow_b126 F K31 v1 v2 v3 v4 S12 else gw_gd (gw_in (v1 + (1 : Int32)) 4) (gw_let (gw_up S12 18 (v1 + (1 : Int32)).toNatClampNeg v5) (fun S17 => f_X1_follow_b126 F K31 v1 v2 v3 v4 S17)))))) else f_X1_follow_b141 F K31 v1 v2 v3 v4 S)) else f_X1_follow_b141 F K31 v1 v2 v3 v4 S)
def f_X1_follow_b70 (F : Int32 → Int32 → gw_S → Option (Int32 × gw_S)) (K31 : Int32 → Int32 → Int32 → Int32 → gw_S → Option (Int32 × gw_S)) : Int32 → Int32 → Int32 → Int32 → Int32 → Int32 → gw_S → Option (Int32 × gw_S) := fun v1 v2 v3 v4 v5 t0_ S => (if v2 = 0 then f_X1_follow_b79 F K31 v1 v2 v3 v4 v5 (1 : Int32) t0_ S else f_X1_follow_b79 F K31 v1 v2 v3 v4 v5 (0 : Int32) t0_ S)
def f_X1_follow_b31 (F : Int32 → Int32 → gw_S → Option (Int32 × gw_S))  : Nat → Int32 → Int32 → Int32 → Int32 → gw_S → Option (Int32 × gw_S)
  | 0, _, _, _, _, _ => none
  | n + 1, v1, v2, v3, v4, S => (if (S 3 6) ≤ v4 then some ((0 : Int32), S) else gw_bd (f_X1_sourceOf v3 v4 S) (fun r21 => (if r21 = (-2 : Int32) then f_X1_follow_b141 F (f_X1_follow_b31 F  n) v1 v2 v3 v4 S else (if r21 = (-1 : Int32) then f_X1_follow_b70 F (f_X1_follow_b31 F  n) v1 v2 v3 v4 r21 (1 : Int32) S else f_X1_follow_b70 F (f_X1_follow_b31 F  n) v1 v2 v3 v4 r21 (0 : Int32) S))))
def f_X1_follow_e (F : Int32 → Int32 → gw_S → Option (Int32 × gw_S)) (x1 : Int32) (x2 : Int32) (S : gw_S) : Option (Int32 × gw_S) := (if (4 : Int32) ≤ x1 then some ((0 : Int32), S) else gw_gd (gw_in x1 4) (gw_bd (f_X1_nearestOf (S 18 x1.toNatClampNeg) S) (fun r27 => (if r27 ≤ x2 then gw_let ((S 18 x1.toNatClampNeg) : Int32) (fun y30 => f_X1_follow_b31 F  gw_F x1 x2 y30 (0 : Int32) S) else some ((0 : Int32), S)))))
def f_X1_follow : Nat → Int32 → Int32 → gw_S → Option (Int32 × gw_S)
  | 0, _, _, _ => none
  | n0 + 1, x1, x2, S => f_X1_follow_e (f_X1_follow n0) x1 x2 S
abbrev rm_X1_follow (n0 : Nat) : Room := { frames := n0 + 2, cells := 0, slots := 0, locals := 40 * n0 + 80 }
def f_X1_spreadNearest_b55 (K2 : Int32 → gw_S → Option (gw_S)) (K15 : Int32 → Int32 → gw_S → Option (gw_S)) : Int32 → Int32 → gw_S → Option (gw_S) := fun v1 v2 S => gw_let (v2 + (1 : Int32) : Int32) (fun y1 => K15 v1 y1 S)
def f_X1_spreadNearest_b15 (K2 : Int32 → gw_S → Option (gw_S)) : Nat → Int32 → Int32 → gw_S → Option (gw_S)
  | 0, _, _, _ => none
  | n + 1, v1, v2, S => (if (S 3 6) ≤ v2 then gw_let (v1 + (1 : Int32) : Int32) (fun y4 => K2 y4 S) else gw_bd (f_X1_sourceOf v1 v2 S) (fun r6 => gw_bd (f_X1_nearestOf r6 S) (fun r8 => gw_let ((r8 + (1 : Int32)) : Int32) (fun y10 => gw_bd (f_X1_nearestOf v1 S) (fun r12 => (if r12 ≤ y10 then f_X1_spreadNearest_b55 K2 (f_X1_spreadNearest_b15 K2 n) v1 v2 S else gw_gd (gw_in v1 30) (gw_let (gw_up S 17 v1.toNatClampNeg y10) (fun S16 => f_X1_spreadNearest_b55 K2 (f_X1_spreadNearest_b15 K2 n) v1 v2 S16))))))))
def f_X1_spreadNearest_b2  : Nat → Int32 → gw_S → Option (gw_S)
  | 0, _, _ => none
  | n + 1, v1, S => (if (S 3 7) ≤ v1 then some S else f_X1_spreadNearest_b15 (f_X1_spreadNearest_b2  n) gw_F v1 (0 : Int32) S)
def f_X1_spreadNearest  (S : gw_S) : Option (gw_S) := f_X1_spreadNearest_b2  gw_F (0 : Int32) S
abbrev rm_X1_spreadNearest : Room := { frames := 1, cells := 0, slots := 0, locals := 40 }
def f_X2_bookingAt (x1 : Int32) (S : gw_S) : Option (Int32) := (if x1 < 0 then some (-1 : Int32) else (if (S 3 7) ≤ x1 then some (-1 : Int32) else (if (30 : Int32) ≤ x1 then some (-1 : Int32) else gw_gd (gw_in x1 30) (some (S 13 x1.toNatClampNeg)))))
abbrev rm_X2_bookingAt : Room := { frames := 0, cells := 0, slots := 0, locals := 0 }
def f_X2_pieceAt (x1 : Int32) (S : gw_S) : Option (Int32) := (if x1 < 0 then some (-1 : Int32) else (if (S 3 6) ≤ x1 then some (-1 : Int32) else (if (24 : Int32) ≤ x1 then some (-1 : Int32) else gw_gd (gw_in x1 24) (some (S 12 x1.toNatClampNeg)))))
abbrev rm_X2_pieceAt : Room := { frames := 0, cells := 0, slots := 0, locals := 0 }
def f_X4_isRetired (x0 : Int32) (S : gw_S) : Option (Int32) := gw_gd (x0.toNatClampNeg < gw_np S) ((if (S (2 * x0.toNatClampNeg + 30) 11) = 0 then (if (S (2 * x0.toNatClampNeg + 30) 9) < (S (2 * x0.toNatClampNeg + 30) 6) then some (0 : Int32) else some (1 : Int32)) else some (1 : Int32)))
abbrev rm_X4_isRetired : Room := { frames := 0, cells := 0, slots := 0, locals := 0 }
def f_X4_isTorn (x0 : Int32) (S : gw_S) : Option (Int32) := gw_gd (x0.toNatClampNeg < gw_np S) ((if (S (2 * x0.toNatClampNeg + 30) 10) = (-4 : Int32) then some (0 : Int32) else some (1 : Int32)))
abbrev rm_X4_isTorn : Room := { frames := 0, cells := 0, slots := 0, locals := 0 }
def f_X4_isTornBy (x0 : Int32) (x1 : Int32) (S : gw_S) : Option (Int32) := gw_gd (x0.toNatClampNeg < gw_np S) (gw_bd (f_X4_isTorn x0 S) (fun r2 => (if r2 = 0 then some (0 : Int32) else (if x1 < (S (2 * x0.toNatClampNeg + 30) 10) then some (0 : Int32) else some (1 : Int32)))))
abbrev rm_X4_isTornBy : Room := { frames := 1, cells := 0, slots := 0, locals := 40 }
def f_X4_canBeWornOn (x0 : Int32) (x1 : Int32) (S : gw_S) : Option (Int32) := gw_gd (x0.toNatClampNeg < gw_np S) (gw_bd (f_X4_isRetired x0 S) (fun r2 => (if r2 = 0 then gw_bd (f_X4_isTornBy x0 x1 S) (fun r5 => (if r5 = 0 then some (1 : Int32) else some (0 : Int32))) else some (0 : Int32))))
abbrev rm_X4_canBeWornOn : Room := { frames := 2, cells := 0, slots := 0, locals := 80 }
def f_X4_isWanted (x0 : Int32) (x1 : Int32) (S : gw_S) : Option (Int32) := gw_gd (x0.toNatClampNeg < gw_np S) ((if (S (2 * x0.toNatClampNeg + 30) 0) = x1 then some (1 : Int32) else (if x1 = 0 then (if (S (2 * x0.toNatClampNeg + 30) 0) = (1 : Int32) then some (1 : Int32) else some (0 : Int32)) else some (0 : Int32))))
abbrev rm_X4_isWanted : Room := { frames := 0, cells := 0, slots := 0, locals := 0 }
def f_X3_low (x1 : Int32) (S : gw_S) : Option (Int32) := (if x1 < 0 then some (0 : Int32) else (if (6 : Int32) ≤ x1 then some (0 : Int32) else gw_gd (gw_in x1 6) (some (S 9 x1.toNatClampNeg))))
abbrev rm_X3_low : Room := { frames := 0, cells := 0, slots := 0, locals := 0 }
def f_X3_high (x1 : Int32) (S : gw_S) : Option (Int32) := (if x1 < 0 then some (0 : Int32) else (if (6 : Int32) ≤ x1 then some (0 : Int32) else gw_gd (gw_in x1 6) (some (S 10 x1.toNatClampNeg))))
abbrev rm_X3_high : Room := { frames := 0, cells := 0, slots := 0, locals := 0 }
def f_X2_fitOf_b87 (S : gw_S)  : Int32 → Int32 → Int32 → Option (Int32) := fun v4 v5 v6 => (if v4 < v5 then some (0 : Int32) else (if v6 < (-v4) then some (0 : Int32) else some (1 : Int32)))
def f_X2_fitOf (x1 : Int32) (x2 : Int32) (x3 : Int32) (S : gw_S) : Option (Int32) := gw_gd (¬ x1 = -1) (gw_gd (x1.toNatClampNeg < gw_np S) (gw_bd (f_X4_isWanted x1 x3 S) (fun r5 => (if r5 = 0 then some (0 : Int32) else gw_bd (f_X7_at (4 : Int32) S) (fun r8 => gw_bd (f_X3_low (S (2 * x1.toNatClampNeg + 30) 1) S) (fun r10 => gw_let (((((S (2 * x1.toNatClampNeg + 30) 2) + r10) + (S (2 * x1.toNatClampNeg + 30) 8)) - x2) : Int32) (fun y12 => gw_bd (f_X3_high (S (2 * x1.toNatClampNeg + 30) 1) S) (fun r14 => gw_let (((((S (2 * x1.toNatClampNeg + 30) 2) + r14) + (S (2 * x1.toNatClampNeg + 30) 8)) - x2) : Int32) (fun y16 => (if y12 < (-r8) then f_X2_fitOf_b87 S  r8 y12 y16 else (if r8 < y16 then f_X2_fitOf_b87 S  r8 y12 y16 else some (2 : Int32))))))))))))
abbrev rm_X2_fitOf : Room := { frames := 1, cells := 0, slots := 0, locals := 40 }
def f_X2_surelyFits (x1 : Int32) (x2 : Int32) (S : gw_S) : Option (Int32) := gw_gd (¬ x2 = -1) (gw_gd (x2.toNatClampNeg < gw_nb S) (gw_bd (f_X2_fitOf x1 (S (2 * x2.toNatClampNeg + 31) 1) (S (2 * x2.toNatClampNeg + 31) 2) S) (fun r3 => (if r3 = (2 : Int32) then some (1 : Int32) else some (0 : Int32)))))
abbrev rm_X2_surelyFits : Room := { frames := 2, cells := 0, slots := 0, locals := 80 }
def f_X2_postBetween (x1 : Int32) (x2 : Int32) (S : gw_S) : Option (Int32) := gw_let (((x1 * (9 : Int32)) + x2) : Int32) (fun y1 => (if y1 < 0 then some (0 : Int32) else (if (81 : Int32) ≤ y1 then some (0 : Int32) else gw_gd (gw_in y1 81) (some (S 11 y1.toNatClampNeg)))))
abbrev rm_X2_postBetween : Room := { frames := 0, cells := 0, slots := 0, locals := 0 }
def f_X2_shareDays (x1 : Int32) (x2 : Int32) (x3 : Int32) (S : gw_S) : Option (Int32) := gw_gd (¬ x1 = -1) (gw_gd (x1.toNatClampNeg < gw_np S) (gw_gd (¬ x2 = -1) (gw_gd (x2.toNatClampNeg < gw_nb S) (gw_bd (f_X2_postBetween (S (2 * x1.toNatClampNeg + 30) 4) (S (2 * x2.toNatClampNeg + 31) 4) S) (fun r5 => gw_gd (¬ x3 = -1) (gw_gd (x3.toNatClampNeg < gw_nb S) (gw_bd (f_X2_postBetween (S (2 * x1.toNatClampNeg + 30) 4) (S (2 * x3.toNatClampNeg + 31) 4) S) (fun r9 => gw_let ((r5 + r9) : Int32) (fun y11 => gw_bd (f_X7_at (0 : Int32) S) (fun r13 => gw_bd (f_X7_at (1 : Int32) S) (fun r15 => gw_let (((y11 + r13) + r15) : Int32) (fun y17 => (if y17 < (if 0 ≤ ((S (2 * x2.toNatClampNeg + 31) 3) - (S (2 * x3.toNatClampNeg + 31) 3)) then ((S (2 * x2.toNatClampNeg + 31) 3) - (S (2 * x3.toNatClampNeg + 31) 3)) else 0 - ((S (2 * x2.toNatClampNeg + 31) 3) - (S (2 * x3.toNatClampNeg + 31) 3))) then some (0 : Int32) else some (1 : Int32))))))))))))))
abbrev rm_X2_shareDays : Room := { frames := 2, cells := 0, slots := 0, locals := 80 }
def f_X2_holderInTheWay_b67 (S : gw_S) (K5 : Int32 → Int32 → Int32 → Int32 → Option (Int32)) : Int32 → Int32 → Int32 → Int32 → Option (Int32) := fun v1 v2 v3 v4 => gw_let (v4 + (1 : Int32) : Int32) (fun y1 => K5 v1 v2 v3 y1)
def f_X2_holderInTheWay_b5 (S : gw_S)  : Nat → Int32 → Int32 → Int32 → Int32 → Option (Int32)
  | 0, _, _, _, _ => none
  | n + 1, v1, v2, v3, v4 => (if (S 3 7) ≤ v4 then some v3 else gw_bd (f_X2_bookingAt v4 S) (fun r4 => (if r4 = -1 then f_X2_holderInTheWay_b67 S (f_X2_holderInTheWay_b5 S  n) v1 v2 v3 v4 else gw_gd (gw_ok (gw_nb S) r4) (gw_gd (gw_ok (gw_nb S) v2) ((if r4 = v2 then f_X2_holderInTheWay_b67 S (f_X2_holderInTheWay_b5 S  n) v1 v2 v3 v4 else gw_gd (r4.toNatClampNeg < gw_nb S) (gw_gd (gw_ok (gw_np S) (S (2 * r4.toNatClampNeg + 31) 8)) (gw_gd (gw_ok (gw_np S) v1) ((if (S (2 * r4.toNatClampNeg + 31) 8) = v1 then gw_bd (f_X2_shareDays v1 v2 r4 S) (fun r14 => (if r14 = 0 then f_X2_holderInTheWay_b67 S (f_X2_holderInTheWay_b5 S  n) v1 v2 v3 v4 else (if v3 = (-1 : Int32) then f_X2_holderInTheWay_b67 S (f_X2_holderInTheWay_b5 S  n) v1 v2 v4 v4 else some (-2 : Int32)))) else f_X2_holderInTheWay_b67 S (f_X2_holderInTheWay_b5 S  n) v1 v2 v3 v4))))))))))
def f_X2_holderInTheWay (x1 : Int32) (x2 : Int32) (S : gw_S) : Option (Int32) := f_X2_holderInTheWay_b5 S  gw_F x1 x2 (-1 : Int32) (0 : Int32)
abbrev rm_X2_holderInTheWay : Room := { frames := 3, cells := 0, slots := 0, locals := 120 }
def f_X1_readSources_b163 (K37 : Int32 → Int32 → Int32 → gw_S → Option (gw_S)) : Int32 → Int32 → Int32 → Int32 → gw_S → Option (gw_S) := fun v1 v3 v4 v5 S => gw_gd (¬ v1 = -1) (gw_gd (v1.toNatClampNeg < gw_nb S) (gw_gd (gw_in (((S (2 * v1.toNatClampNeg + 31) 0) * (24 : Int32)) + v4) 720) (gw_let (gw_up S 16 (((S (2 * v1.toNatClampNeg + 31) 0) * (24 : Int32)) + v4).toNatClampNeg v5) (fun S4 => gw_let (v4 + (1 : Int32) : Int32) (fun y6 => K37 v1 v3 y6 S4)))))
def f_X1_readSources_b147 (K37 : Int32 → Int32 → Int32 → gw_S → Option (gw_S)) : Int32 → Int32 → Int32 → Int32 → gw_S → Option (gw_S) := fun v1 v3 v4 v5 S => (if v5 = (-1 : Int32) then gw_gd (¬ v1 = -1) (gw_gd (v1.toNatClampNeg < gw_nb S) (gw_gd (gw_in (S (2 * v1.toNatClampNeg + 31) 0) 30) (gw_let (gw_up S 17 (S (2 * v1.toNatClampNeg + 31) 0).toNatClampNeg (0 : Int32)) (fun S12 => f_X1_readSources_b163 K37 v1 v3 v4 v5 S12)))) else f_X1_readSources_b163 K37 v1 v3 v4 v5 S)
def f_X1_readSources_b119 (K37 : Int32 → Int32 → Int32 → gw_S → Option (gw_S)) : Int32 → Int32 → Int32 → Int32 → gw_S → Option (gw_S) := fun v1 v3 v4 v5 S => gw_bd (f_X2_bookingAt v5 S) (fun r14 => (if r14 = -1 then f_X1_readSources_b147 K37 v1 v3 v4 v5 S else gw_gd (r14.toNatClampNeg < gw_nb S) (gw_bd (f_X0_wentOut r14 S) (fun r18 => (if r18 = 0 then f_X1_readSources_b147 K37 v1 v3 v4 v5 S else f_X1_readSources_b147 K37 v1 v3 v4 (-2 : Int32) S)))))
def f_X1_readSources_b37  : Nat → Int32 → Int32 → Int32 → gw_S → Option (gw_S)
  | 0, _, _, _, _ => none
  | n + 1, v1, v3, v4, S => (if (S 3 6) ≤ v4 then some S else gw_bd (f_X2_pieceAt v4 S) (fun r22 => (if v3 = 0 then f_X1_readSources_b119 (f_X1_readSources_b37  n) v1 v3 v4 (-2 : Int32) S else (if r22 = -1 then f_X1_readSources_b119 (f_X1_readSources_b37  n) v1 v3 v4 (-2 : Int32) S else gw_gd (¬ v1 = -1) (gw_gd (v1.toNatClampNeg < gw_nb S) (gw_gd (gw_ok (gw_np S) r22) (gw_gd (gw_ok (gw_np S) (S (2 * v1.toNatClampNeg + 31) 8)) ((if r22 = (S (2 * v1.toNatClampNeg + 31) 8) then f_X1_readSources_b119 (f_X1_readSources_b37  n) v1 v3 v4 (-2 : Int32) S else gw_gd (r22.toNatClampNeg < gw_np S) (gw_bd (f_X4_canBeWornOn r22 (S (2 * v1.toNatClampNeg + 31) 3) S) (fun r32 => (if r32 = 0 then f_X1_readSources_b119 (f_X1_readSources_b37  n) v1 v3 v4 (-2 : Int32) S else gw_bd (f_X2_surelyFits r22 v1 S) (fun r35 => (if r35 = 0 then f_X1_readSources_b119 (f_X1_readSources_b37  n) v1 v3 v4 (-2 : Int32) S else gw_bd (f_X2_holderInTheWay r22 v1 S) (fun r38 => f_X1_readSources_b119 (f_X1_readSources_b37  n) v1 v3 v4 r38 S)))))))))))))))
def f_X1_readSources_b22  : Int32 → Int32 → gw_S → Option (gw_S) := fun v1 t0_ S => gw_gd (¬ v1 = -1) (gw_gd (v1.toNatClampNeg < gw_nb S) (gw_gd (gw_in (S (2 * v1.toNatClampNeg + 31) 0) 30) (gw_let (gw_up S 17 (S (2 * v1.toNatClampNeg + 31) 0).toNatClampNeg (99 : Int32)) (fun S43 => f_X1_readSources_b37  gw_F v1 t0_ (0 : Int32) S43))))
def f_X1_readSources_b17  : Int32 → gw_S → Option (gw_S) := fun v1 S => f_X1_readSources_b22  v1 (1 : Int32) S
def f_X1_readSources (x1 : Int32) (x2 : Int32) (S : gw_S) : Option (gw_S) := (if x1 = -1 then some S else gw_gd (gw_ok (gw_nb S) x1) (gw_gd (gw_ok (gw_nb S) x2) ((if x1 = x2 then f_X1_readSources_b17  x1 S else gw_gd (x1.toNatClampNeg < gw_nb S) ((if (S (2 * x1.toNatClampNeg + 31) 8) = -1 then f_X1_readSources_b22  x1 (0 : Int32) S else f_X1_readSources_b17  x1 S))))))
abbrev rm_X1_readSources : Room := { frames := 4, cells := 0, slots := 0, locals := 160 }
def f_X1_find_b83  : Nat → Int32 → Int32 → gw_S → Option (Int32 × gw_S)
  | 0, _, _, _ => none
  | n + 1, v2, v3, S => (if v2 < v3 then some ((-4 : Int32), S) else gw_b2 (f_X1_follow 6 (0 : Int32) v3 S) (fun r2 S3 => (if r2 = 0 then gw_let (v3 + (1 : Int32) : Int32) (fun y6 => (f_X1_find_b83  n) v2 y6 S3) else gw_let (gw_up S3 15 5 (v3 + (1 : Int32))) (fun S8 => some ((S8 15 5), S8)))))
def f_X1_find_b56  : Nat → Int32 → Int32 → Int32 → gw_S → Option (Int32 × gw_S)
  | 0, _, _, _, _ => none
  | n + 1, v1, v2, v3, S => (if v2 ≤ v3 then gw_gd (¬ v1 = -1) (gw_gd (v1.toNatClampNeg < gw_nb S) (gw_let (gw_up S 18 (0 : Int32).toNatClampNeg (S (2 * v1.toNatClampNeg + 31) 0)) (fun S13 => f_X1_find_b83  gw_F v2 (0 : Int32) S13))) else gw_bd (f_X1_spreadNearest  S) (fun S15 => gw_let (v3 + (1 : Int32) : Int32) (fun y17 => (f_X1_find_b56  n) v1 v2 y17 S15)))
def f_X1_find_b24  : Nat → Int32 → Int32 → Int32 → gw_S → Option (Int32 × gw_S)
  | 0, _, _, _, _ => none
  | n + 1, v1, v2, v3, S => (if (S 3 7) ≤ v3 then f_X1_find_b56  gw_F v1 v2 (0 : Int32) S else gw_bd (f_X2_bookingAt v3 S) (fun r20 => gw_bd (f_X1_readSources r20 v1 S) (fun S22 => gw_let (v3 + (1 : Int32) : Int32) (fun y24 => (f_X1_find_b24  n) v1 v2 y24 S22))))
def f_X1_find (x1 : Int32) (S : gw_S) : Option (Int32 × gw_S) := gw_bd (f_X7_at (7 : Int32) S) (fun r26 => gw_let ((if (3 : Int32) < r26 then (3 : Int32) else r26) : Int32) (fun y28 => gw_let (gw_up S 15 5 (0 : Int32)) (fun S30 => f_X1_find_b24  gw_F x1 y28 (0 : Int32) S30)))
abbrev rm_X1_find : Room := { frames := 9, cells := 0, slots := 0, locals := 360 }
def f_X1_perform_b49 (K2 : Int32 → gw_S → Option (gw_S)) : Int32 → gw_S → Option (gw_S) := fun v1 S => gw_let (v1 + (1 : Int32) : Int32) (fun y1 => K2 y1 S)
def f_X1_perform_b2  : Nat → Int32 → gw_S → Option (gw_S)
  | 0, _, _ => none
  | n + 1, v1, S => (if (S 15 5) ≤ v1 then some S else gw_bd (f_X1_bookingIn v1 S) (fun r4 => gw_bd (f_X2_bookingAt r4 S) (fun r6 => gw_bd (f_X1_pieceIn v1 S) (fun r8 => gw_bd (f_X2_pieceAt r8 S) (fun r10 => (if r6 = -1 then f_X1_perform_b49 (f_X1_perform_b2  n) v1 S else (if r10 = -1 then f_X1_perform_b49 (f_X1_perform_b2  n) v1 S else gw_gd (r6.toNatClampNeg < gw_nb S) (gw_let (gw_up S (2 * r6.toNatClampNeg + 31) 8 r10) (fun S15 => f_X1_perform_b49 (f_X1_perform_b2  n) v1 S15)))))))))
def f_X1_perform  (S : gw_S) : Option (gw_S) := f_X1_perform_b2  gw_F (0 : Int32) S
abbrev rm_X1_perform : Room := { frames := 1, cells := 0, slots := 0, locals := 40 }
def f_X2_hasRoomForBookings (x1 : Int32) (S : gw_S) : Option (Int32) := (if ((30 : Int32) - (S 3 7)) < x1 then some (0 : Int32) else some (1 : Int32))
abbrev rm_X2_hasRoomForBookings : Room := { frames := 0, cells := 0, slots := 0, locals := 0 }
def f_X8_isIn (x0 : Int32) (x1 : Int32) (x2 : Int32) (S : gw_S) : Option (Int32) := (if x0 < x1 then some (0 : Int32) else (if x2 < x0 then some (0 : Int32) else some (1 : Int32)))
abbrev rm_X8_isIn : Room := { frames := 0, cells := 0, slots := 0, locals := 0 }
def f_X8_isTown (x0 : Int32) (S : gw_S) : Option (Int32) := gw_bd (f_X8_isIn x0 (0 : Int32) (8 : Int32) S) (fun r1 => gw_gd (r1 = 0 ∨ r1 = 1) (some r1))
abbrev rm_X8_isTown : Room := { frames := 1, cells := 0, slots := 0, locals := 40 }
def f_X2_setPost (x1 : Int32) (x2 : Int32) (x3 : Int32) (S : gw_S) : Option (gw_S) := gw_bd (f_X8_isTown x1 S) (fun r1 => (if r1 = 0 then some S else gw_bd (f_X8_isTown x2 S) (fun r4 => (if r4 = 0 then some S else gw_gd (gw_in ((x1 * (9 : Int32)) + x2) 81) (gw_let (gw_up S 11 ((x1 * (9 : Int32)) + x2).toNatClampNeg x3) (fun S8 => gw_gd (gw_in ((x2 * (9 : Int32)) + x1) 81) (gw_let (gw_up S8 11 ((x2 * (9 : Int32)) + x1).toNatClampNeg x3) (fun S11 => some S11))))))))
abbrev rm_X2_setPost : Room := { frames := 2, cells := 0, slots := 0, locals := 80 }
def f_X2_offBy (x1 : Int32) (x2 : Int32) (S : gw_S) : Option (Int32) := gw_gd (¬ x1 = -1) (gw_gd (x1.toNatClampNeg < gw_np S) (gw_bd (f_X3_low (S (2 * x1.toNatClampNeg + 30) 1) S) (fun r3 => gw_gd (¬ x2 = -1) (gw_gd (x2.toNatClampNeg < gw_nb S) (some (if 0 ≤ ((((S (2 * x1.toNatClampNeg + 30) 2) + r3) + (S (2 * x1.toNatClampNeg + 30) 8)) - (S (2 * x2.toNatClampNeg + 31) 1)) then ((((S (2 * x1.toNatClampNeg + 30) 2) + r3) + (S (2 * x1.toNatClampNeg + 30) 8)) - (S (2 * x2.toNatClampNeg + 31) 1)) else 0 - ((((S (2 * x1.toNatClampNeg + 30) 2) + r3) + (S (2 * x1.toNatClampNeg + 30) 8)) - (S (2 * x2.toNatClampNeg + 31) 1))))))))
abbrev rm_X2_offBy : Room := { frames := 2, cells := 0, slots := 0, locals := 80 }
def f_X2_firstAway (x1 : Int32) (x2 : Int32) (S : gw_S) : Option (Int32) := gw_gd (¬ x2 = -1) (gw_gd (x2.toNatClampNeg < gw_nb S) (gw_bd (f_X7_at (0 : Int32) S) (fun r3 => gw_gd (¬ x1 = -1) (gw_gd (x1.toNatClampNeg < gw_np S) (gw_bd (f_X2_postBetween (S (2 * x1.toNatClampNeg + 30) 4) (S (2 * x2.toNatClampNeg + 31) 4) S) (fun r7 => some (((S (2 * x2.toNatClampNeg + 31) 3) - r3) - r7)))))))
abbrev rm_X2_firstAway : Room := { frames := 1, cells := 0, slots := 0, locals := 40 }
def f_X2_lastAway (x1 : Int32) (x2 : Int32) (S : gw_S) : Option (Int32) := gw_gd (¬ x2 = -1) (gw_gd (x2.toNatClampNeg < gw_nb S) (gw_gd (¬ x1 = -1) (gw_gd (x1.toNatClampNeg < gw_np S) (gw_bd (f_X2_postBetween (S (2 * x1.toNatClampNeg + 30) 4) (S (2 * x2.toNatClampNeg + 31) 4) S) (fun r5 => gw_bd (f_X7_at (1 : Int32) S) (fun r7 => some (((S (2 * x2.toNatClampNeg + 31) 3) + r5) + r7)))))))
abbrev rm_X2_lastAway : Room := { frames := 1, cells := 0, slots := 0, locals := 40 }
def f_X2_isFree (x1 : Int32) (x2 : Int32) (S : gw_S) : Option (Int32) := gw_gd (¬ x2 = -1) (gw_gd (x2.toNatClampNeg < gw_nb S) (gw_gd (¬ x1 = -1) (gw_gd (x1.toNatClampNeg < gw_np S) (gw_bd (f_X4_canBeWornOn x1 (S (2 * x2.toNatClampNeg + 31) 3) S) (fun r5 => (if r5 = 0 then some (0 : Int32) else gw_bd (f_X2_holderInTheWay x1 x2 S) (fun r8 => (if r8 = (-1 : Int32) then some (1 : Int32) else some (0 : Int32)))))))))
abbrev rm_X2_isFree : Room := { frames := 4, cells := 0, slots := 0, locals := 160 }
def f_X2_isBetter (x1 : Int32) (x2 : Int32) (x3 : Int32) (S : gw_S) : Option (Int32) := gw_bd (f_X2_offBy x1 x3 S) (fun r1 => gw_bd (f_X2_offBy x2 x3 S) (fun r3 => (if r1 = r3 then gw_gd (¬ x1 = -1) (gw_gd (x1.toNatClampNeg < gw_np S) (gw_gd (¬ x3 = -1) (gw_gd (x3.toNatClampNeg < gw_nb S) (gw_bd (f_X2_postBetween (S (2 * x1.toNatClampNeg + 30) 4) (S (2 * x3.toNatClampNeg + 31) 4) S) (fun r10 => gw_gd (¬ x2 = -1) (gw_gd (x2.toNatClampNeg < gw_np S) (gw_bd (f_X2_postBetween (S (2 * x2.toNatClampNeg + 30) 4) (S (2 * x3.toNatClampNeg + 31) 4) S) (fun r14 => (if r14 ≤ r10 then some (0 : Int32) else some (1 : Int32)))))))))) else (if r3 ≤ r1 then some (0 : Int32) else some (1 : Int32)))))
abbrev rm_X2_isBetter : Room := { frames := 3, cells := 0, slots := 0, locals := 120 }
def f_X2_bestFor_b82 (S : gw_S) (K5 : Int32 → Int32 → Int32 → Int32 → Option (Int32)) : Int32 → Int32 → Int32 → Int32 → Option (Int32) := fun v1 v2 v3 v4 => gw_let (v4 + (1 : Int32) : Int32) (fun y1 => K5 v1 v2 v3 y1)
def f_X2_bestFor_b79 (S : gw_S) (K5 : Int32 → Int32 → Int32 → Int32 → Option (Int32)) : Int32 → Int32 → Int32 → Int32 → Option (Int32) := fun v1 v2 v4 v5 => f_X2_bestFor_b82 S K5 v1 v2 v5 v4
def f_X2_bestFor_b44 (S : gw_S) (K5 : Int32 → Int32 → Int32 → Int32 → Option (Int32)) : Int32 → Int32 → Int32 → Int32 → Int32 → Option (Int32) := fun v1 v2 v3 v4 v5 => gw_bd (f_X2_surelyFits v5 v1 S) (fun r3 => (if r3 = 0 then f_X2_bestFor_b82 S K5 v1 v2 v3 v4 else gw_bd (f_X2_isFree v5 v1 S) (fun r6 => (if r6 = 0 then f_X2_bestFor_b82 S K5 v1 v2 v3 v4 else (if v3 = -1 then f_X2_bestFor_b79 S K5 v1 v2 v4 v5 else gw_bd (f_X2_isBetter v5 v3 v1 S) (fun r10 => (if r10 = 0 then f_X2_bestFor_b82 S K5 v1 v2 v3 v4 else f_X2_bestFor_b79 S K5 v1 v2 v4 v5)))))))
def f_X2_bestFor_b5 (S : gw_S)  : Nat → Int32 → Int32 → Int32 → Int32 → Option (Int32)
  | 0, _, _, _, _ => none
  | n + 1, v1, v2, v3, v4 => (if (S 3 6) ≤ v4 then some v3 else gw_bd (f_X2_pieceAt v4 S) (fun r14 => (if r14 = -1 then f_X2_bestFor_b82 S (f_X2_bestFor_b5 S  n) v1 v2 v3 v4 else (if v2 = (-1 : Int32) then f_X2_bestFor_b44 S (f_X2_bestFor_b5 S  n) v1 v2 v3 v4 r14 else gw_gd (r14.toNatClampNeg < gw_np S) ((if (S (2 * r14.toNatClampNeg + 30) 3) = v2 then f_X2_bestFor_b44 S (f_X2_bestFor_b5 S  n) v1 v2 v3 v4 r14 else f_X2_bestFor_b82 S (f_X2_bestFor_b5 S  n) v1 v2 v3 v4))))))
def f_X2_bestFor (x1 : Int32) (x2 : Int32) (S : gw_S) : Option (Int32) := f_X2_bestFor_b5 S  gw_F x1 x2 (-1 : Int32) (0 : Int32)
abbrev rm_X2_bestFor : Room := { frames := 5, cells := 0, slots := 0, locals := 200 }
def f_X2_takeFromNights_b62 (K5 : Int32 → Int32 → Int32 → Int32 → gw_S → Option (Int32 × gw_S)) : Int32 → Int32 → Int32 → Int32 → gw_S → Option (Int32 × gw_S) := fun v1 v2 v3 v4 S => gw_let (v4 + (1 : Int32) : Int32) (fun y1 => K5 v1 v2 v3 y1 S)
def f_X2_takeFromNights_b5  : Nat → Int32 → Int32 → Int32 → Int32 → gw_S → Option (Int32 × gw_S)
  | 0, _, _, _, _, _ => none
  | n + 1, v1, v2, v3, v4, S => (if (S 3 7) ≤ v4 then some (v3, S) else gw_bd (f_X2_bookingAt v4 S) (fun r4 => (if r4 = -1 then f_X2_takeFromNights_b62 (f_X2_takeFromNights_b5  n) v1 v2 v3 v4 S else gw_gd (r4.toNatClampNeg < gw_nb S) (gw_gd (gw_ok (gw_np S) (S (2 * r4.toNatClampNeg + 31) 8)) (gw_gd (gw_ok (gw_np S) v1) ((if (S (2 * r4.toNatClampNeg + 31) 8) = v1 then (if (S (2 * r4.toNatClampNeg + 31) 3) < v2 then f_X2_takeFromNights_b62 (f_X2_takeFromNights_b5  n) v1 v2 v3 v4 S else gw_bd (f_X0_wentOut r4 S) (fun r12 => (if r12 = 0 then gw_let (gw_up S (2 * r4.toNatClampNeg + 31) 8 (-1 : Int32)) (fun S15 => gw_let (v3 + (1 : Int32) : Int32) (fun y17 => f_X2_takeFromNights_b62 (f_X2_takeFromNights_b5  n) v1 v2 y17 v4 S15)) else f_X2_takeFromNights_b62 (f_X2_takeFromNights_b5  n) v1 v2 v3 v4 S))) else f_X2_takeFromNights_b62 (f_X2_takeFromNights_b5  n) v1 v2 v3 v4 S)))))))
def f_X2_takeFromNights (x1 : Int32) (x2 : Int32) (S : gw_S) : Option (Int32 × gw_S) := f_X2_takeFromNights_b5  gw_F x1 x2 (0 : Int32) (0 : Int32) S
abbrev rm_X2_takeFromNights : Room := { frames := 1, cells := 0, slots := 0, locals := 40 }
def f_X2_isMember (x1 : Int32) (x2 : Int32) (S : gw_S) : Option (Int32) := (if x1 = -1 then some (0 : Int32) else gw_gd (x1.toNatClampNeg < gw_nb S) ((if (S (2 * x1.toNatClampNeg + 31) 6) = x2 then gw_bd (f_X0_isCalledOff x1 S) (fun r4 => (if r4 = 0 then some (1 : Int32) else some (0 : Int32))) else some (0 : Int32))))
abbrev rm_X2_isMember : Room := { frames := 1, cells := 0, slots := 0, locals := 40 }
def f_X2_membersOf_b28 (S : gw_S) (K4 : Int32 → Int32 → Int32 → Option (Int32)) : Int32 → Int32 → Int32 → Option (Int32) := fun v1 v2 v3 => gw_let (v3 + (1 : Int32) : Int32) (fun y1 => K4 v1 v2 y1)
def f_X2_membersOf_b4 (S : gw_S)  : Nat → Int32 → Int32 → Int32 → Option (Int32)
  | 0, _, _, _ => none
  | n + 1, v1, v2, v3 => (if (S 3 7) ≤ v3 then some v2 else gw_bd (f_X2_bookingAt v3 S) (fun r4 => gw_bd (f_X2_isMember r4 v1 S) (fun r6 => (if r6 = 0 then f_X2_membersOf_b28 S (f_X2_membersOf_b4 S  n) v1 v2 v3 else gw_let (v2 + (1 : Int32) : Int32) (fun y9 => f_X2_membersOf_b28 S (f_X2_membersOf_b4 S  n) v1 y9 v3)))))
def f_X2_membersOf (x1 : Int32) (S : gw_S) : Option (Int32) := f_X2_membersOf_b4 S  gw_F x1 (0 : Int32) (0 : Int32)
abbrev rm_X2_membersOf : Room := { frames := 2, cells := 0, slots := 0, locals := 80 }
def f_X2_takeTrialsBack_b41 (K2 : Int32 → gw_S → Option (gw_S)) : Int32 → gw_S → Option (gw_S) := fun v1 S => gw_let (v1 + (1 : Int32) : Int32) (fun y1 => K2 y1 S)
def f_X2_takeTrialsBack_b2  : Nat → Int32 → gw_S → Option (gw_S)
  | 0, _, _ => none
  | n + 1, v1, S => (if (S 3 7) ≤ v1 then some S else gw_bd (f_X2_bookingAt v1 S) (fun r4 => (if r4 = -1 then f_X2_takeTrialsBack_b41 (f_X2_takeTrialsBack_b2  n) v1 S else gw_gd (gw_in v1 30) ((if (S 14 v1.toNatClampNeg) = 0 then f_X2_takeTrialsBack_b41 (f_X2_takeTrialsBack_b2  n) v1 S else gw_gd (r4.toNatClampNeg < gw_nb S) (gw_let (gw_up S (2 * r4.toNatClampNeg + 31) 8 (-1 : Int32)) (fun S10 => gw_let (gw_up S10 14 v1.toNatClampNeg (vp_nar .boolean (0 : Int32))) (fun S12 => f_X2_takeTrialsBack_b41 (f_X2_takeTrialsBack_b2  n) v1 S12))))))))
def f_X2_takeTrialsBack  (S : gw_S) : Option (gw_S) := f_X2_takeTrialsBack_b2  gw_F (0 : Int32) S
abbrev rm_X2_takeTrialsBack : Room := { frames := 1, cells := 0, slots := 0, locals := 40 }
def f_X2_matchedIn_b86 (K5 : Int32 → Int32 → Int32 → Int32 → gw_S → Option (Int32 × gw_S)) : Int32 → Int32 → Int32 → Int32 → gw_S → Option (Int32 × gw_S) := fun v1 v2 v3 v4 S => gw_let (v4 + (1 : Int32) : Int32) (fun y1 => K5 v1 v2 v3 y1 S)
def f_X2_matchedIn_b63 (K5 : Int32 → Int32 → Int32 → Int32 → gw_S → Option (Int32 × gw_S)) : Int32 → Int32 → Int32 → Int32 → Int32 → gw_S → Option (Int32 × gw_S) := fun v1 v2 v3 v4 v5 S => gw_gd (¬ v5 = -1) (gw_gd (v5.toNatClampNeg < gw_nb S) ((if (S (2 * v5.toNatClampNeg + 31) 8) = -1 then f_X2_matchedIn_b86 K5 v1 v2 v3 v4 S else gw_gd ((S (2 * v5.toNatClampNeg + 31) 8).toNatClampNeg < gw_np S) ((if (S (2 * (S (2 * v5.toNatClampNeg + 31) 8).toNatClampNeg + 30) 3) = v2 then gw_let (v3 + (1 : Int32) : Int32) (fun y8 => f_X2_matchedIn_b86 K5 v1 v2 y8 v4 S) else f_X2_matchedIn_b86 K5 v1 v2 v3 v4 S)))))
def f_X2_matchedIn_b5  : Nat → Int32 → Int32 → Int32 → Int32 → gw_S → Option (Int32 × gw_S)
  | 0, _, _, _, _, _ => none
  | n + 1, v1, v2, v3, v4, S => (if (S 3 7) ≤ v4 then gw_bd (f_X2_takeTrialsBack  S) (fun S11 => some (v3, S11)) else gw_bd (f_X2_bookingAt v4 S) (fun r13 => gw_bd (f_X2_isMember r13 v1 S) (fun r15 => (if r15 = 0 then f_X2_matchedIn_b86 (f_X2_matchedIn_b5  n) v1 v2 v3 v4 S else gw_gd (¬ r13 = -1) (gw_gd (r13.toNatClampNeg < gw_nb S) ((if (S (2 * r13.toNatClampNeg + 31) 8) = -1 then gw_bd (f_X2_bestFor r13 v2 S) (fun r21 => gw_let (gw_up S (2 * r13.toNatClampNeg + 31) 8 r21) (fun S23 => gw_gd (gw_in v4 30) (gw_let (gw_up S23 14 v4.toNatClampNeg (vp_nar .boolean (1 : Int32))) (fun S26 => f_X2_matchedIn_b63 (f_X2_matchedIn_b5  n) v1 v2 v3 v4 r13 S26)))) else f_X2_matchedIn_b63 (f_X2_matchedIn_b5  n) v1 v2 v3 v4 r13 S)))))))
def f_X2_matchedIn (x1 : Int32) (x2 : Int32) (S : gw_S) : Option (Int32 × gw_S) := f_X2_matchedIn_b5  gw_F x1 x2 (0 : Int32) (0 : Int32) S
abbrev rm_X2_matchedIn : Room := { frames := 6, cells := 0, slots := 0, locals := 240 }
def f_X2_depositOn (x1 : Int32) (S : gw_S) : Option (Int32) := gw_gd (¬ x1 = -1) (gw_gd (x1.toNatClampNeg < gw_np S) (gw_bd (f_X7_at (3 : Int32) S) (fun r3 => some (((S (2 * x1.toNatClampNeg + 30) 5) * r3) / (100 : Int32)))))
abbrev rm_X2_depositOn : Room := { frames := 1, cells := 0, slots := 0, locals := 40 }
def f_X2_daysLate (x1 : Int32) (S : gw_S) : Option (Int32) := gw_gd (¬ x1 = -1) (gw_gd (x1.toNatClampNeg < gw_nb S) ((if (S (2 * x1.toNatClampNeg + 31) 8) = -1 then some (0 : Int32) else gw_bd (f_X2_lastAway (S (2 * x1.toNatClampNeg + 31) 8) x1 S) (fun r4 => gw_bd (f_X7_at (1 : Int32) S) (fun r6 => gw_let ((r4 - r6) : Int32) (fun y8 => some (if (0 : Int32) < ((S (2 * x1.toNatClampNeg + 31) 13) - y8) then ((S (2 * x1.toNatClampNeg + 31) 13) - y8) else (0 : Int32))))))))
abbrev rm_X2_daysLate : Room := { frames := 2, cells := 0, slots := 0, locals := 80 }
def f_J6_bitCount_0f7a4 (x0 : Int32) (S : gw_S) : Option (Int32) := gw_let ((x0 - (((x0.toUInt32 >>> ((1 : Int32).toUInt32 &&& Int32.toUInt32 31)).toInt32) &&& (1431655765 : Int32))) : Int32) (fun y1 => gw_let (((y1 &&& (858993459 : Int32)) + (((y1.toUInt32 >>> ((2 : Int32).toUInt32 &&& Int32.toUInt32 31)).toInt32) &&& (858993459 : Int32))) : Int32) (fun y3 => gw_let (((y3 + ((y3.toUInt32 >>> ((4 : Int32).toUInt32 &&& Int32.toUInt32 31)).toInt32)) &&& (252645135 : Int32)) : Int32) (fun y5 => gw_let ((y5 + ((y5.toUInt32 >>> ((8 : Int32).toUInt32 &&& Int32.toUInt32 31)).toInt32)) : Int32) (fun y7 => gw_let ((y7 + ((y7.toUInt32 >>> ((16 : Int32).toUInt32 &&& Int32.toUInt32 31)).toInt32)) : Int32) (fun y9 => some (y9 &&& (63 : Int32)))))))
abbrev rm_J6_bitCount_0f7a4 : Room := { frames := 0, cells := 0, slots := 0, locals := 0 }
def f_X2_harmOf (x1 : Int32) (S : gw_S) : Option (Int32) := gw_gd (¬ x1 = -1) (gw_gd (x1.toNatClampNeg < gw_nb S) ((if (S (2 * x1.toNatClampNeg + 31) 12) = (-1 : Int32) then some (-4 : Int32) else gw_let (((S (2 * x1.toNatClampNeg + 31) 12) &&& ((S (2 * x1.toNatClampNeg + 31) 11) ^^^ (-1 : Int32))) : Int32) (fun y4 => gw_bd (f_J6_bitCount_0f7a4 (y4 &&& (255 : Int32)) S) (fun r6 => gw_bd (f_X7_at (5 : Int32) S) (fun r8 => gw_bd (f_J6_bitCount_0f7a4 (y4 >>> ((8 : Int32) &&& 31)) S) (fun r10 => gw_bd (f_X7_at (6 : Int32) S) (fun r12 => some ((r6 * r8) + (r10 * r12))))))))))
abbrev rm_X2_harmOf : Room := { frames := 1, cells := 0, slots := 0, locals := 40 }
def f_X2_owedFor (x1 : Int32) (S : gw_S) : Option (Int32) := gw_bd (f_X2_harmOf x1 S) (fun r1 => gw_bd (f_X7_at (2 : Int32) S) (fun r3 => gw_bd (f_X2_daysLate x1 S) (fun r5 => (if r1 = (-4 : Int32) then some ((r3 * r5) + (0 : Int32)) else some ((r3 * r5) + r1)))))
abbrev rm_X2_owedFor : Room := { frames := 3, cells := 0, slots := 0, locals := 120 }
def f_X2_knownOn_b53 (S : gw_S) (K6 : Int32 → Int32 → Int32 → Int32 → Int32 → Option (Int32)) : Int32 → Int32 → Int32 → Int32 → Int32 → Option (Int32) := fun v1 v2 v3 v4 v5 => gw_let (v5 + (1 : Int32) : Int32) (fun y1 => K6 v1 v2 v3 v4 y1)
def f_X2_knownOn_b6 (S : gw_S)  : Nat → Int32 → Int32 → Int32 → Int32 → Int32 → Option (Int32)
  | 0, _, _, _, _, _ => none
  | n + 1, v1, v2, v3, v4, v5 => (if (S 3 7) ≤ v5 then some v4 else gw_bd (f_X2_bookingAt v5 S) (fun r4 => (if r4 = -1 then f_X2_knownOn_b53 S (f_X2_knownOn_b6 S  n) v1 v2 v3 v4 v5 else gw_gd (r4.toNatClampNeg < gw_nb S) (gw_bd (f_X0_isKnownOn r4 v1 S) (fun r8 => (if r8 = 0 then f_X2_knownOn_b53 S (f_X2_knownOn_b6 S  n) v1 v2 v3 v4 v5 else gw_bd (f_X8_isIn (S (2 * r4.toNatClampNeg + 31) 3) v2 v3 S) (fun r11 => (if r11 = 0 then f_X2_knownOn_b53 S (f_X2_knownOn_b6 S  n) v1 v2 v3 v4 v5 else gw_let (v4 + (1 : Int32) : Int32) (fun y14 => f_X2_knownOn_b53 S (f_X2_knownOn_b6 S  n) v1 v2 v3 y14 v5)))))))))
def f_X2_knownOn (x1 : Int32) (x2 : Int32) (x3 : Int32) (S : gw_S) : Option (Int32) := f_X2_knownOn_b6 S  gw_F x1 x2 x3 (0 : Int32) (0 : Int32)
abbrev rm_X2_knownOn : Room := { frames := 2, cells := 0, slots := 0, locals := 80 }
def f_X4_tally (x0 : Int32) (x1 : Int32) (S : gw_S) : Option (Int32) := (if x1 = 1 then gw_gd (x0.toNatClampNeg < gw_np S) (gw_bd (f_X4_isRetired x0 S) (fun r3 => (if r3 = 0 then some (0 : Int32) else some (1 : Int32)))) else (if x1 = 2 then gw_gd (x0.toNatClampNeg < gw_np S) (gw_bd (f_X4_isTorn x0 S) (fun r8 => (if r8 = 0 then some (0 : Int32) else some (1 : Int32)))) else (if x1 = 7 then gw_gd (x0.toNatClampNeg < gw_np S) (some (S (2 * x0.toNatClampNeg + 30) 9)) else some (0 : Int32))))
abbrev rm_X4_tally : Room := { frames := 1, cells := 0, slots := 0, locals := 40 }
def f_X2_tallyPieces_b33 (S : gw_S) (K4 : Int32 → Int32 → Int32 → Option (Int32)) : Int32 → Int32 → Int32 → Option (Int32) := fun v1 v2 v3 => gw_let (v3 + (1 : Int32) : Int32) (fun y1 => K4 v1 v2 y1)
def f_X2_tallyPieces_b4 (S : gw_S)  : Nat → Int32 → Int32 → Int32 → Option (Int32)
  | 0, _, _, _ => none
  | n + 1, v1, v2, v3 => (if (S 3 6) ≤ v3 then some v2 else gw_bd (f_X2_pieceAt v3 S) (fun r4 => (if r4 = -1 then f_X2_tallyPieces_b33 S (f_X2_tallyPieces_b4 S  n) v1 v2 v3 else gw_gd (r4.toNatClampNeg < gw_np S) (gw_bd (f_X4_tally r4 v1 S) (fun r8 => gw_let ((v2 + r8) : Int32) (fun y10 => f_X2_tallyPieces_b33 S (f_X2_tallyPieces_b4 S  n) v1 y10 v3))))))
def f_X2_tallyPieces (x1 : Int32) (S : gw_S) : Option (Int32) := f_X2_tallyPieces_b4 S  gw_F x1 (0 : Int32) (0 : Int32)
abbrev rm_X2_tallyPieces : Room := { frames := 2, cells := 0, slots := 0, locals := 80 }
def f_X2_tallyBookings_b33 (S : gw_S) (K4 : Int32 → Int32 → Int32 → Option (Int32)) : Int32 → Int32 → Int32 → Option (Int32) := fun v1 v2 v3 => gw_let (v3 + (1 : Int32) : Int32) (fun y1 => K4 v1 v2 y1)
def f_X2_tallyBookings_b4 (S : gw_S)  : Nat → Int32 → Int32 → Int32 → Option (Int32)
  | 0, _, _, _ => none
  | n + 1, v1, v2, v3 => (if (S 3 7) ≤ v3 then some v2 else gw_bd (f_X2_bookingAt v3 S) (fun r4 => (if r4 = -1 then f_X2_tallyBookings_b33 S (f_X2_tallyBookings_b4 S  n) v1 v2 v3 else gw_gd (r4.toNatClampNeg < gw_nb S) (gw_bd (f_X0_tally r4 v1 S) (fun r8 => gw_let ((v2 + r8) : Int32) (fun y10 => f_X2_tallyBookings_b33 S (f_X2_tallyBookings_b4 S  n) v1 y10 v3))))))
def f_X2_tallyBookings (x1 : Int32) (S : gw_S) : Option (Int32) := f_X2_tallyBookings_b4 S  gw_F x1 (0 : Int32) (0 : Int32)
abbrev rm_X2_tallyBookings : Room := { frames := 2, cells := 0, slots := 0, locals := 80 }
def f_X3_tighten (x1 : Int32) (x2 : Int32) (x3 : Int32) (S : gw_S) : Option (gw_S) := gw_let (((x1 * (6 : Int32)) + x2) : Int32) (fun y1 => (if y1 < 0 then some S else (if (36 : Int32) ≤ y1 then some S else gw_gd (gw_in y1 36) ((if (S 8 y1.toNatClampNeg) ≤ x3 then some S else gw_let (gw_up S 8 y1.toNatClampNeg x3) (fun S7 => some S7))))))
abbrev rm_X3_tighten : Room := { frames := 0, cells := 0, slots := 0, locals := 0 }
def f_X3_spanOf (x1 : Int32) (x2 : Int32) (S : gw_S) : Option (Int32) := gw_let (((x1 * (6 : Int32)) + x2) : Int32) (fun y1 => (if y1 < 0 then some (0 : Int32) else (if (36 : Int32) ≤ y1 then some (0 : Int32) else gw_gd (gw_in y1 36) (some (S 8 y1.toNatClampNeg)))))
abbrev rm_X3_spanOf : Room := { frames := 0, cells := 0, slots := 0, locals := 0 }
def f_X3_close_b83 (K63 : Int32 → gw_S → Option (gw_S)) : Int32 → gw_S → Option (gw_S) := fun v1 S => gw_let (v1 + (1 : Int32) : Int32) (fun y1 => K63 y1 S)
def f_X3_close_b63  : Nat → Int32 → gw_S → Option (gw_S)
  | 0, _, _ => none
  | n + 1, v1, S => (if (6 : Int32) ≤ v1 then some S else gw_bd (f_X3_spanOf v1 v1 S) (fun r4 => (if 0 ≤ r4 then f_X3_close_b83 (f_X3_close_b63  n) v1 S else gw_let (gw_up S 7 4 (1 : Int32)) (fun S7 => f_X3_close_b83 (f_X3_close_b63  n) v1 S7))))
def f_X3_close_b18 (K2 : Int32 → gw_S → Option (gw_S)) (K10 : Int32 → Int32 → gw_S → Option (gw_S)) : Nat → Int32 → Int32 → Int32 → gw_S → Option (gw_S)
  | 0, _, _, _, _ => none
  | n + 1, v1, v2, v3, S => (if (6 : Int32) ≤ v3 then gw_let (v2 + (1 : Int32) : Int32) (fun y10 => K10 v1 y10 S) else gw_bd (f_X3_spanOf v2 v1 S) (fun r12 => gw_bd (f_X3_spanOf v1 v3 S) (fun r14 => gw_bd (f_X3_tighten v2 v3 (r12 + r14) S) (fun S16 => gw_let (v3 + (1 : Int32) : Int32) (fun y18 => (f_X3_close_b18 K2 K10 n) v1 v2 y18 S16)))))
def f_X3_close_b10 (K2 : Int32 → gw_S → Option (gw_S)) : Nat → Int32 → Int32 → gw_S → Option (gw_S)
  | 0, _, _, _ => none
  | n + 1, v1, v2, S => (if (6 : Int32) ≤ v2 then gw_let (v1 + (1 : Int32) : Int32) (fun y21 => K2 y21 S) else f_X3_close_b18 K2 (f_X3_close_b10 K2 n) gw_F v1 v2 (0 : Int32) S)
def f_X3_close_b2  : Nat → Int32 → gw_S → Option (gw_S)
  | 0, _, _ => none
  | n + 1, v1, S => (if (6 : Int32) ≤ v1 then f_X3_close_b63  gw_F (0 : Int32) S else f_X3_close_b10 (f_X3_close_b2  n) gw_F v1 (0 : Int32) S)
def f_X3_close  (S : gw_S) : Option (gw_S) := f_X3_close_b2  gw_F (0 : Int32) S
abbrev rm_X3_close : Room := { frames := 1, cells := 0, slots := 0, locals := 40 }
def f_X3_readEnds_b56 (K2 : Int32 → gw_S → Option (gw_S)) : Int32 → Int32 → Int32 → gw_S → Option (gw_S) := fun v1 t0_ t1_ S => gw_gd (gw_in t1_ 6) (gw_let (gw_up S 10 t1_.toNatClampNeg t0_) (fun S2 => gw_let (v1 + (1 : Int32) : Int32) (fun y4 => K2 y4 S2)))
def f_X3_readEnds_b32 (K2 : Int32 → gw_S → Option (gw_S)) : Int32 → Int32 → Int32 → gw_S → Option (gw_S) := fun v1 t0_ t1_ S => gw_gd (gw_in t1_ 6) (gw_let (gw_up S 9 t1_.toNatClampNeg t0_) (fun S7 => (if (S7 7 4) = 0 then gw_bd (f_X3_spanOf (0 : Int32) v1 S7) (fun r10 => f_X3_readEnds_b56 K2 v1 r10 v1 S7) else f_X3_readEnds_b56 K2 v1 (9 : Int32) v1 S7)))
def f_X3_readEnds_b2  : Nat → Int32 → gw_S → Option (gw_S)
  | 0, _, _ => none
  | n + 1, v1, S => (if (6 : Int32) ≤ v1 then some S else (if (S 7 4) = 0 then gw_bd (f_X3_spanOf v1 (0 : Int32) S) (fun r14 => f_X3_readEnds_b32 (f_X3_readEnds_b2  n) v1 (-r14) v1 S) else f_X3_readEnds_b32 (f_X3_readEnds_b2  n) v1 (-9 : Int32) v1 S))
def f_X3_readEnds  (S : gw_S) : Option (gw_S) := f_X3_readEnds_b2  gw_F (1 : Int32) S
abbrev rm_X3_readEnds : Room := { frames := 1, cells := 0, slots := 0, locals := 40 }
def f_X3_learn (x1 : Int32) (x2 : Int32) (x3 : Int32) (x4 : Int32) (S : gw_S) : Option (gw_S) := gw_let (gw_up S 7 3 ((S 7 3) + (1 : Int32))) (fun S1 => (if (S1 7 4) = 0 then gw_bd (f_X3_tighten x1 x3 (((1 : Int32) + x2) - x4) S1) (fun S4 => gw_bd (f_X3_tighten x3 x1 (((1 : Int32) + x4) - x2) S4) (fun S6 => gw_bd (f_X3_close  S6) (fun S8 => gw_bd (f_X3_readEnds  S8) (fun S10 => some S10)))) else some S1))
abbrev rm_X3_learn : Room := { frames := 2, cells := 0, slots := 0, locals := 80 }
def f_X4_worth (x0 : Int32) (S : gw_S) : Option (Int32) := gw_gd (x0.toNatClampNeg < gw_np S) ((if (1 : Int32) ≤ (S (2 * x0.toNatClampNeg + 30) 6) then gw_gd (¬ (S (2 * x0.toNatClampNeg + 30) 6) = 0) (some (((S (2 * x0.toNatClampNeg + 30) 5) * (if (0 : Int32) < ((S (2 * x0.toNatClampNeg + 30) 6) - (S (2 * x0.toNatClampNeg + 30) 9)) then ((S (2 * x0.toNatClampNeg + 30) 6) - (S (2 * x0.toNatClampNeg + 30) 9)) else (0 : Int32))) / (S (2 * x0.toNatClampNeg + 30) 6))) else some (0 : Int32)))
abbrev rm_X4_worth : Room := { frames := 2, cells := 0, slots := 0, locals := 80 }
def f_X4_detail (x0 : Int32) (x1 : Int32) (S : gw_S) : Option (Int32) := (if x1 = 0 then gw_gd (x0.toNatClampNeg < gw_np S) (some (S (2 * x0.toNatClampNeg + 30) 0)) else (if x1 = 1 then gw_gd (x0.toNatClampNeg < gw_np S) (some (S (2 * x0.toNatClampNeg + 30) 1)) else (if x1 = 2 then gw_gd (x0.toNatClampNeg < gw_np S) (some (S (2 * x0.toNatClampNeg + 30) 2)) else (if x1 = 3 then gw_gd (x0.toNatClampNeg < gw_np S) (some (S (2 * x0.toNatClampNeg + 30) 3)) else (if x1 = 4 then gw_gd (x0.toNatClampNeg < gw_np S) (some (S (2 * x0.toNatClampNeg + 30) 4)) else (if x1 = 5 then gw_gd (x0.toNatClampNeg < gw_np S) (some (S (2 * x0.toNatClampNeg + 30) 5)) else (if x1 = 6 then gw_gd (x0.toNatClampNeg < gw_np S) (some (S (2 * x0.toNatClampNeg + 30) 9)) else (if x1 = 7 then gw_gd (x0.toNatClampNeg < gw_np S) (gw_bd (f_X4_worth x0 S) (fun r17 => some r17)) else (if x1 = 8 then gw_gd (x0.toNatClampNeg < gw_np S) (gw_bd (f_X4_isRetired x0 S) (fun r21 => (if r21 = 0 then some (0 : Int32) else some (1 : Int32)))) else (if x1 = 9 then gw_gd (x0.toNatClampNeg < gw_np S) (some (S (2 * x0.toNatClampNeg + 30) 10)) else some (-1 : Int32)))))))))))
abbrev rm_X4_detail : Room := { frames := 3, cells := 0, slots := 0, locals := 120 }
def f_X5_begin_b2  : Nat → Int32 → Int32 → Int32 → Int32 → gw_S → Option (gw_S)
  | 0, _, _, _, _, _ => none
  | n + 1, v0, v1, v2, v3, S => (if (36 : Int32) ≤ v3 then gw_gd (v0.toNatClampNeg < 4) (gw_let (gw_up S (21 + v0.toNatClampNeg) 1 (1 : Int32)) (fun S3 => gw_let (gw_up S3 (21 + v0.toNatClampNeg) 2 v1) (fun S5 => gw_let (gw_up S5 (21 + v0.toNatClampNeg) 3 v2) (fun S7 => some S7)))) else gw_gd (v0.toNatClampNeg < 4) (gw_gd (gw_in v3 36) (gw_let (gw_up S (25 + v0.toNatClampNeg) v3.toNatClampNeg (0 : Int32)) (fun S11 => gw_let (v3 + (1 : Int32) : Int32) (fun y13 => (f_X5_begin_b2  n) v0 v1 v2 y13 S11)))))
def f_X5_begin (x0 : Int32) (x1 : Int32) (x2 : Int32) (S : gw_S) : Option (gw_S) := f_X5_begin_b2  gw_F x0 x1 x2 (0 : Int32) S
abbrev rm_X5_begin : Room := { frames := 0, cells := 0, slots := 0, locals := 0 }
def f_X5_refusalAs (x0 : Int32) (x1 : Int32) (S : gw_S) : Option (Int32) := gw_gd (x0.toNatClampNeg < 4) ((if (S (21 + x0.toNatClampNeg) 1) = 0 then some (-11 : Int32) else (if (S (21 + x0.toNatClampNeg) 2) = x1 then some (0 : Int32) else some (-12 : Int32))))
abbrev rm_X5_refusalAs : Room := { frames := 0, cells := 0, slots := 0, locals := 0 }
def f_X5_hasItems (x0 : Int32) (x1 : Int32) (x2 : Int32) (S : gw_S) : Option (Int32) := (if x1 < 0 then some (0 : Int32) else gw_gd (x0.toNatClampNeg < 4) ((if ((S (21 + x0.toNatClampNeg) 3) - x2) < x1 then some (0 : Int32) else some (1 : Int32))))
abbrev rm_X5_hasItems : Room := { frames := 0, cells := 0, slots := 0, locals := 0 }
def f_X5_get (x0 : Int32) (x1 : Int32) (S : gw_S) : Option (Int32) := (if x1 < 0 then some (0 : Int32) else (if (36 : Int32) ≤ x1 then some (0 : Int32) else gw_gd (x0.toNatClampNeg < 4) (gw_gd (gw_in x1 36) (some (S (25 + x0.toNatClampNeg) x1.toNatClampNeg)))))
abbrev rm_X5_get : Room := { frames := 0, cells := 0, slots := 0, locals := 0 }
def f_X5_put_b41  : Int32 → Int32 → Int32 → gw_S → Option (gw_S) := fun t0_ t1_ t2_ S => gw_gd (t2_.toNatClampNeg < 4) (gw_gd (gw_in t1_ 36) (gw_let (gw_up S (25 + t2_.toNatClampNeg) t1_.toNatClampNeg t0_) (fun S3 => some S3)))
def f_X5_put (x0 : Int32) (x1 : Int32) (x2 : Int32) (S : gw_S) : Option (gw_S) := (if x1 < 0 then some S else (if (36 : Int32) ≤ x1 then some S else gw_gd (x0.toNatClampNeg < 4) ((if (S (21 + x0.toNatClampNeg) 2) = 0 then f_X5_put_b41  (x2.toInt8.toInt32) x1 x0 S else (if (S (21 + x0.toNatClampNeg) 2) = (1 : Int32) then f_X5_put_b41  (x2.toInt16.toInt32) x1 x0 S else f_X5_put_b41  x2 x1 x0 S)))))
abbrev rm_X5_put : Room := { frames := 0, cells := 0, slots := 0, locals := 0 }
def f_X6_hasRoomFor (x1 : Int32) (S : gw_S) : Option (Int32) := (if ((60 : Int32) - (S 1 1)) < x1 then some (0 : Int32) else some (1 : Int32))
abbrev rm_X6_hasRoomFor : Room := { frames := 0, cells := 0, slots := 0, locals := 0 }
def f_X6_append (x1 : Int32) (S : gw_S) : Option (gw_S) := (if (60 : Int32) ≤ (S 1 1) then some S else gw_gd (gw_in (S 1 1) 60) (gw_let (gw_up S 2 (S 1 1).toNatClampNeg (vp_nar .byte (x1.toInt8.toInt32))) (fun S3 => gw_let (gw_up S3 1 1 ((S3 1 1) + (1 : Int32))) (fun S5 => some S5))))
abbrev rm_X6_append : Room := { frames := 0, cells := 0, slots := 0, locals := 0 }
def f_X6_clear  (S : gw_S) : Option (gw_S) := gw_let (gw_up S 1 1 (0 : Int32)) (fun S1 => some S1)
abbrev rm_X6_clear : Room := { frames := 0, cells := 0, slots := 0, locals := 0 }
def f_X6_signAt (x1 : Int32) (S : gw_S) : Option (Int32) := (if x1 < 0 then some (-1 : Int32) else (if (S 1 1) ≤ x1 then some (-1 : Int32) else gw_gd (gw_in x1 60) (some (S 2 x1.toNatClampNeg))))
abbrev rm_X6_signAt : Room := { frames := 0, cells := 0, slots := 0, locals := 0 }
def f_X6_isDigitAt (x1 : Int32) (S : gw_S) : Option (Int32) := gw_bd (f_X6_signAt x1 S) (fun r1 => (if r1 < (48 : Int32) then some (0 : Int32) else (if (57 : Int32) < r1 then some (0 : Int32) else some (1 : Int32))))
abbrev rm_X6_isDigitAt : Room := { frames := 1, cells := 0, slots := 0, locals := 40 }
def f_X6_behindBlanks_b2 (S : gw_S)  : Nat → Int32 → Option (Int32)
  | 0, _ => none
  | n + 1, v2 => (if (S 1 1) ≤ v2 then some v2 else gw_bd (f_X6_signAt v2 S) (fun r2 => (if r2 = (32 : Int32) then gw_let (v2 + (1 : Int32) : Int32) (fun y5 => (f_X6_behindBlanks_b2 S  n) y5) else some v2)))
def f_X6_behindBlanks (x1 : Int32) (S : gw_S) : Option (Int32) := f_X6_behindBlanks_b2 S  gw_F x1
abbrev rm_X6_behindBlanks : Room := { frames := 1, cells := 0, slots := 0, locals := 40 }
def f_X6_behindDigits_b2 (S : gw_S)  : Nat → Int32 → Option (Int32)
  | 0, _ => none
  | n + 1, v2 => (if (S 1 1) ≤ v2 then some v2 else gw_bd (f_X6_isDigitAt v2 S) (fun r2 => (if r2 = 0 then some v2 else gw_let (v2 + (1 : Int32) : Int32) (fun y5 => (f_X6_behindDigits_b2 S  n) y5))))
def f_X6_behindDigits (x1 : Int32) (S : gw_S) : Option (Int32) := f_X6_behindDigits_b2 S  gw_F x1
abbrev rm_X6_behindDigits : Room := { frames := 2, cells := 0, slots := 0, locals := 80 }
def f_X6_numberIn_b6 (S : gw_S)  : Nat → Int32 → Int32 → Int32 → Int32 → Option (Int32)
  | 0, _, _, _, _ => none
  | n + 1, v2, v3, v4, v5 => (if v2 ≤ v5 then some v4 else gw_bd (f_X6_signAt v5 S) (fun r2 => gw_let ((if (((v4 * (10 : Int32)) + r2) - (48 : Int32)) < (v3 + (1 : Int32)) then (((v4 * (10 : Int32)) + r2) - (48 : Int32)) else (v3 + (1 : Int32))) : Int32) (fun y4 => gw_let (v5 + (1 : Int32) : Int32) (fun y6 => (f_X6_numberIn_b6 S  n) v2 v3 y4 y6))))
def f_X6_numberIn (x1 : Int32) (x2 : Int32) (x3 : Int32) (S : gw_S) : Option (Int32) := f_X6_numberIn_b6 S  gw_F x2 x3 (0 : Int32) x1
abbrev rm_X6_numberIn : Room := { frames := 2, cells := 0, slots := 0, locals := 80 }
def f_X7_placeOf_b2 (S : gw_S)  : Nat → Int32 → Int32 → Option (Int32)
  | 0, _, _ => none
  | n + 1, v0, v1 => (if (8 : Int32) ≤ v1 then some (-1 : Int32) else gw_gd (gw_in v1 8) ((if (gw_LET v1.toNatClampNeg) = v0 then some v1 else gw_let (v1 + (1 : Int32) : Int32) (fun y4 => (f_X7_placeOf_b2 S  n) v0 y4))))
def f_X7_placeOf (x0 : Int32) (S : gw_S) : Option (Int32) := f_X7_placeOf_b2 S  gw_F x0 (0 : Int32)
abbrev rm_X7_placeOf : Room := { frames := 0, cells := 0, slots := 0, locals := 0 }
def f_X7_copy_5_6_b2  : Nat → Int32 → gw_S → Option (gw_S)
  | 0, _, _ => none
  | n + 1, v2, S => (if (8 : Int32) ≤ v2 then some S else gw_gd (gw_in v2 8) (gw_let (gw_up S 6 v2.toNatClampNeg (S 5 v2.toNatClampNeg)) (fun S3 => gw_let (v2 + (1 : Int32) : Int32) (fun y5 => (f_X7_copy_5_6_b2  n) y5 S3))))
def f_X7_copy_5_6  (S : gw_S) : Option (gw_S) := f_X7_copy_5_6_b2  gw_F (0 : Int32) S
abbrev rm_X7_copy_5_6 : Room := { frames := 0, cells := 0, slots := 0, locals := 0 }
def f_X7_readClause (x2 : Int32) (S : gw_S) : Option (Int32 × gw_S) := gw_bd (f_X6_behindBlanks x2 S) (fun r1 => gw_bd (f_X6_signAt r1 S) (fun r3 => gw_bd (f_X7_placeOf r3 S) (fun r5 => (if 0 ≤ r5 then gw_bd (f_X6_behindBlanks (r1 + (1 : Int32)) S) (fun r8 => gw_bd (f_X6_behindDigits r8 S) (fun r10 => (if r10 = r8 then some (((-20 : Int32) - r8), S) else gw_gd (gw_in r5 8) (gw_bd (f_X6_numberIn r8 r10 (gw_MST r5.toNatClampNeg) S) (fun r14 => (if r14 ≤ (gw_MST r5.toNatClampNeg) then gw_let (gw_up S 6 r5.toNatClampNeg r14) (fun S17 => gw_bd (f_X6_behindBlanks r10 S17) (fun r19 => some (r19, S17))) else some (((-20 : Int32) - r8), S))))))) else some (((-20 : Int32) - r1), S)))))
abbrev rm_X7_readClause : Room := { frames := 3, cells := 0, slots := 0, locals := 120 }
def f_X7_copy_6_5_b2  : Nat → Int32 → gw_S → Option (gw_S)
  | 0, _, _ => none
  | n + 1, v2, S => (if (8 : Int32) ≤ v2 then some S else gw_gd (gw_in v2 8) (gw_let (gw_up S 5 v2.toNatClampNeg (S 6 v2.toNatClampNeg)) (fun S3 => gw_let (v2 + (1 : Int32) : Int32) (fun y5 => (f_X7_copy_6_5_b2  n) y5 S3))))
def f_X7_copy_6_5  (S : gw_S) : Option (gw_S) := f_X7_copy_6_5_b2  gw_F (0 : Int32) S
abbrev rm_X7_copy_6_5 : Room := { frames := 0, cells := 0, slots := 0, locals := 0 }
def f_X7_read_b15  : Nat → Int32 → Int32 → gw_S → Option (Int32 × gw_S)
  | 0, _, _, _ => none
  | n + 1, v2, v3, S => (if (8 : Int32) < v3 then some (((-20 : Int32) - v2), S) else gw_b2 (f_X7_readClause (v2 + (1 : Int32)) S) (fun r2 S3 => (if 0 ≤ r2 then (if r2 < (S3 1 1) then gw_bd (f_X6_signAt r2 S3) (fun r7 => (if r7 = (59 : Int32) then gw_let (v3 + (1 : Int32) : Int32) (fun y10 => (f_X7_read_b15  n) r2 y10 S3) else some (((-20 : Int32) - r2), S3))) else gw_bd (f_X7_copy_6_5  S3) (fun S12 => some (v3, S12))) else some (r2, S3))))
def f_X7_read  (S : gw_S) : Option (Int32 × gw_S) := gw_bd (f_X7_copy_5_6  S) (fun S14 => f_X7_read_b15  gw_F (-1 : Int32) (1 : Int32) S14)
abbrev rm_X7_read : Room := { frames := 4, cells := 0, slots := 0, locals := 160 }
def f_X8_byteOf (x0 : Int64) (x2 : Int32) (S : gw_S) : Option (Int32) := some ((((x0.toUInt64 >>> (((8 : Int32) * x2).toInt64.toUInt64 &&& Int64.toUInt64 63)).toInt64).toInt32) &&& (255 : Int32))
abbrev rm_X8_byteOf : Room := { frames := 0, cells := 0, slots := 0, locals := 0 }
def f_X8_type_b65  : Nat → Int64 → Int32 → gw_S → Option (Int32 × gw_S)
  | 0, _, _, _ => none
  | n + 1, v1, v4, S => (if v4 < 0 then some ((S 1 1), S) else gw_bd (f_X8_byteOf v1 v4 S) (fun r2 => gw_bd (f_X6_append r2 S) (fun S4 => gw_let (v4 + (-1 : Int32) : Int32) (fun y6 => (f_X8_type_b65  n) v1 y6 S4))))
def f_X8_type_b17  : Nat → Int64 → Int32 → Int32 → gw_S → Option (Int32 × gw_S)
  | 0, _, _, _, _ => none
  | n + 1, v1, v3, v4, S => (if v4 < 0 then gw_bd (f_X6_hasRoomFor v3 S) (fun r9 => (if r9 = 0 then some ((-3 : Int32), S) else gw_let ((v3 - (1 : Int32)) : Int32) (fun y12 => f_X8_type_b65  gw_F v1 y12 S))) else gw_bd (f_X8_byteOf v1 v4 S) (fun r14 => gw_bd (f_X8_isIn r14 (32 : Int32) (126 : Int32) S) (fun r16 => (if r16 = 0 then some ((-1 : Int32), S) else gw_let (v4 + (-1 : Int32) : Int32) (fun y19 => (f_X8_type_b17  n) v1 v3 y19 S)))))
def f_X8_type (x1 : Int64) (x3 : Int32) (S : gw_S) : Option (Int32 × gw_S) := gw_bd (f_X8_isIn x3 (1 : Int32) (8 : Int32) S) (fun r21 => (if r21 = 0 then some ((-1 : Int32), S) else gw_let ((x3 - (1 : Int32)) : Int32) (fun y24 => f_X8_type_b17  gw_F x1 x3 y24 S)))
abbrev rm_X8_type : Room := { frames := 1, cells := 0, slots := 0, locals := 40 }
def f_X8_terms  (S : gw_S) : Option (Int32 × gw_S) := gw_b2 (f_X7_read  S) (fun r1 S2 => gw_bd (f_X6_clear  S2) (fun S4 => some (r1, S4)))
abbrev rm_X8_terms : Room := { frames := 5, cells := 0, slots := 0, locals := 200 }
def f_X8_term (x1 : Int32) (S : gw_S) : Option (Int32) := gw_bd (f_X7_placeOf x1 S) (fun r1 => (if 0 ≤ r1 then gw_bd (f_X7_at r1 S) (fun r4 => some r4) else some (-1 : Int32)))
abbrev rm_X8_term : Room := { frames := 1, cells := 0, slots := 0, locals := 40 }
def f_X8_post (x1 : Int32) (x2 : Int32) (x3 : Int32) (S : gw_S) : Option (Int32 × gw_S) := gw_bd (f_X8_isTown x1 S) (fun r1 => (if r1 = 0 then some ((-1 : Int32), S) else gw_bd (f_X8_isTown x2 S) (fun r4 => (if r4 = 0 then some ((-1 : Int32), S) else (if x1 = x2 then some ((-1 : Int32), S) else gw_bd (f_X8_isIn x3 (0 : Int32) (9 : Int32) S) (fun r8 => (if r8 = 0 then some ((-1 : Int32), S) else gw_bd (f_X2_postBetween x1 x2 S) (fun r11 => gw_bd (f_X2_setPost x1 x2 x3 S) (fun S13 => some (r11, S13))))))))))
abbrev rm_X8_post : Room := { frames := 3, cells := 0, slots := 0, locals := 120 }
def f_X8_isMaker (x0 : Int32) (S : gw_S) : Option (Int32) := gw_bd (f_X8_isIn x0 (0 : Int32) (5 : Int32) S) (fun r1 => gw_gd (r1 = 0 ∨ r1 = 1) (some r1))
abbrev rm_X8_isMaker : Room := { frames := 1, cells := 0, slots := 0, locals := 40 }
def f_X8_isLabel (x0 : Int32) (S : gw_S) : Option (Int32) := gw_bd (f_X8_isIn x0 (1 : Int32) (40 : Int32) S) (fun r1 => gw_gd (r1 = 0 ∨ r1 = 1) (some r1))
abbrev rm_X8_isLabel : Room := { frames := 1, cells := 0, slots := 0, locals := 40 }
def f_X8_hem (x1 : Int32) (x2 : Int32) (S : gw_S) : Option (Int32 × gw_S) := gw_bd (f_X2_pieceAt x1 S) (fun r1 => (if r1 = -1 then some ((-1 : Int32), S) else gw_bd (f_X8_isIn x2 (1 : Int32) (3 : Int32) S) (fun r4 => (if r4 = 0 then some ((-1 : Int32), S) else gw_gd (r1.toNatClampNeg < gw_np S) ((if (S (2 * r1.toNatClampNeg + 30) 0) = (1 : Int32) then (if (S (2 * r1.toNatClampNeg + 30) 8) = 0 then gw_let (gw_up S (2 * r1.toNatClampNeg + 30) 8 x2) (fun S10 => some ((1 : Int32), S10)) else some ((-2 : Int32), S)) else some ((-12 : Int32), S)))))))
abbrev rm_X8_hem : Room := { frames := 1, cells := 0, slots := 0, locals := 40 }
def f_X8_told (x1 : Int32) (x2 : Int32) (S : gw_S) : Option (Int32) := gw_bd (f_X2_pieceAt x1 S) (fun r1 => (if r1 = -1 then some (-1 : Int32) else gw_bd (f_X8_isIn x2 (0 : Int32) (9 : Int32) S) (fun r4 => (if r4 = 0 then some (-1 : Int32) else gw_gd (r1.toNatClampNeg < gw_np S) (gw_bd (f_X4_detail r1 x2 S) (fun r8 => some r8))))))
abbrev rm_X8_told : Room := { frames := 4, cells := 0, slots := 0, locals := 160 }
def f_X8_same (x1 : Int32) (x2 : Int32) (x3 : Int32) (x4 : Int32) (S : gw_S) : Option (Int32 × gw_S) := gw_bd (f_X8_isMaker x1 S) (fun r1 => (if r1 = 0 then some ((-1 : Int32), S) else gw_bd (f_X8_isMaker x3 S) (fun r4 => (if r4 = 0 then some ((-1 : Int32), S) else (if x1 = x3 then some ((-1 : Int32), S) else gw_bd (f_X8_isLabel x2 S) (fun r8 => (if r8 = 0 then some ((-1 : Int32), S) else gw_bd (f_X8_isLabel x4 S) (fun r11 => (if r11 = 0 then some ((-1 : Int32), S) else (if (S 7 3) < (20 : Int32) then gw_bd (f_X3_learn x1 x2 x3 x4 S) (fun S15 => some (((S15 7 3) - (1 : Int32)), S15)) else some ((-3 : Int32), S)))))))))))
abbrev rm_X8_same : Room := { frames := 3, cells := 0, slots := 0, locals := 120 }
def f_X8_lie (x1 : Int32) (x2 : Int32) (S : gw_S) : Option (Int32) := gw_bd (f_X8_isMaker x1 S) (fun r1 => (if r1 = 0 then some (-101 : Int32) else gw_bd (f_X8_isIn x2 (0 : Int32) (1 : Int32) S) (fun r4 => (if r4 = 0 then some (-101 : Int32) else (if x2 = 0 then gw_bd (f_X3_low x1 S) (fun r10 => some r10) else gw_bd (f_X3_high x1 S) (fun r8 => some r8))))))
abbrev rm_X8_lie : Room := { frames := 2, cells := 0, slots := 0, locals := 80 }
def f_X8_quarrel  (S : gw_S) : Option (Int32) := (if (S 7 4) = 0 then some (0 : Int32) else some (1 : Int32))
abbrev rm_X8_quarrel : Room := { frames := 0, cells := 0, slots := 0, locals := 0 }
def f_X8_fits (x1 : Int32) (x2 : Int32) (x3 : Int32) (S : gw_S) : Option (Int32) := gw_bd (f_X2_pieceAt x1 S) (fun r1 => (if r1 = -1 then some (-1 : Int32) else gw_bd (f_X8_isLabel x2 S) (fun r4 => (if r4 = 0 then some (-1 : Int32) else gw_bd (f_X8_isIn x3 (0 : Int32) (2 : Int32) S) (fun r7 => (if r7 = 0 then some (-1 : Int32) else gw_bd (f_X2_fitOf r1 x2 x3 S) (fun r10 => some r10)))))))
abbrev rm_X8_fits : Room := { frames := 2, cells := 0, slots := 0, locals := 80 }
def f_X8_isDay (x0 : Int32) (S : gw_S) : Option (Int32) := gw_bd (f_X8_isIn x0 (0 : Int32) (399 : Int32) S) (fun r1 => gw_gd (r1 = 0 ∨ r1 = 1) (some r1))
abbrev rm_X8_isDay : Room := { frames := 1, cells := 0, slots := 0, locals := 40 }
def f_X8_isBookingAsTold (x0 : Int32) (x1 : Int32) (x2 : Int32) (x3 : Int32) (x4 : Int32) (x5 : Int32) (S : gw_S) : Option (Int32) := gw_bd (f_X8_isLabel x0 S) (fun r1 => (if r1 = 0 then some (0 : Int32) else gw_bd (f_X8_isIn x1 (0 : Int32) (2 : Int32) S) (fun r4 => (if r4 = 0 then some (0 : Int32) else gw_bd (f_X8_isIn x2 (20 : Int32) (380 : Int32) S) (fun r7 => (if r7 = 0 then some (0 : Int32) else gw_bd (f_X8_isTown x3 S) (fun r10 => (if r10 = 0 then some (0 : Int32) else gw_bd (f_X8_isDay x4 S) (fun r13 => (if r13 = 0 then some (0 : Int32) else gw_bd (f_X8_isIn x5 (-1 : Int32) (4 : Int32) S) (fun r16 => (if r16 = 0 then some (0 : Int32) else some (1 : Int32)))))))))))))
abbrev rm_X8_isBookingAsTold : Room := { frames := 2, cells := 0, slots := 0, locals := 80 }
def f_X8_off (x1 : Int32) (x2 : Int32) (S : gw_S) : Option (Int32 × gw_S) := gw_bd (f_X2_bookingAt x1 S) (fun r1 => (if r1 = -1 then some ((-1 : Int32), S) else gw_bd (f_X8_isDay x2 S) (fun r4 => (if r4 = 0 then some ((-1 : Int32), S) else gw_gd (r1.toNatClampNeg < gw_nb S) ((if (S (2 * r1.toNatClampNeg + 31) 5) ≤ x2 then gw_bd (f_X0_isCalledOff r1 S) (fun r9 => (if r9 = 0 then gw_bd (f_X0_wentOut r1 S) (fun r12 => (if r12 = 0 then gw_let (gw_up S (2 * r1.toNatClampNeg + 31) 7 x2) (fun S15 => gw_gd (r1.toNatClampNeg < gw_nb S15) (gw_let (gw_up S15 (2 * r1.toNatClampNeg + 31) 8 (-1 : Int32)) (fun S18 => some ((1 : Int32), S18)))) else some ((-2 : Int32), S))) else some ((-2 : Int32), S))) else some ((-1 : Int32), S)))))))
abbrev rm_X8_off : Room := { frames := 2, cells := 0, slots := 0, locals := 80 }
def f_X8_give (x1 : Int32) (S : gw_S) : Option (Int32 × gw_S) := gw_bd (f_X2_bookingAt x1 S) (fun r1 => (if r1 = -1 then some ((-1 : Int32), S) else gw_gd (r1.toNatClampNeg < gw_nb S) (gw_bd (f_X0_waits r1 S) (fun r5 => (if r5 = 0 then some ((-2 : Int32), S) else gw_bd (f_X2_bestFor r1 (-1 : Int32) S) (fun r8 => gw_let (gw_up S (2 * r1.toNatClampNeg + 31) 8 r8) (fun S10 => gw_gd (r1.toNatClampNeg < gw_nb S10) (gw_bd (f_X0_pieceNumber r1 S10) (fun r13 => some (r13, S10))))))))))
abbrev rm_X8_give : Room := { frames := 6, cells := 0, slots := 0, locals := 240 }
def f_X8_has (x1 : Int32) (S : gw_S) : Option (Int32) := gw_bd (f_X2_bookingAt x1 S) (fun r1 => (if r1 = -1 then some (-1 : Int32) else gw_gd (r1.toNatClampNeg < gw_nb S) (gw_bd (f_X0_pieceNumber r1 S) (fun r5 => some r5))))
abbrev rm_X8_has : Room := { frames := 1, cells := 0, slots := 0, locals := 40 }
def f_X8_free (x1 : Int32) (x2 : Int32) (S : gw_S) : Option (Int32) := gw_bd (f_X2_pieceAt x1 S) (fun r1 => gw_bd (f_X2_bookingAt x2 S) (fun r3 => (if r1 = -1 then some (-1 : Int32) else (if r3 = -1 then some (-1 : Int32) else gw_bd (f_X2_isFree r1 r3 S) (fun r7 => (if r7 = 0 then some (0 : Int32) else some (1 : Int32)))))))
abbrev rm_X8_free : Room := { frames := 5, cells := 0, slots := 0, locals := 200 }
def f_X8_away (x1 : Int32) (x2 : Int32) (x3 : Int32) (S : gw_S) : Option (Int32) := gw_bd (f_X2_pieceAt x1 S) (fun r1 => gw_bd (f_X2_bookingAt x2 S) (fun r3 => (if r1 = -1 then some (-1 : Int32) else (if r3 = -1 then some (-1 : Int32) else gw_bd (f_X8_isIn x3 (0 : Int32) (1 : Int32) S) (fun r7 => (if r7 = 0 then some (-1 : Int32) else (if x3 = 0 then gw_bd (f_X2_firstAway r1 r3 S) (fun r13 => some r13) else gw_bd (f_X2_lastAway r1 r3 S) (fun r11 => some r11))))))))
abbrev rm_X8_away : Room := { frames := 2, cells := 0, slots := 0, locals := 80 }
def f_X8_tear (x1 : Int32) (x2 : Int32) (S : gw_S) : Option (Int32 × gw_S) := gw_bd (f_X2_pieceAt x1 S) (fun r1 => (if r1 = -1 then some ((-1 : Int32), S) else gw_bd (f_X8_isDay x2 S) (fun r4 => (if r4 = 0 then some ((-1 : Int32), S) else gw_gd (r1.toNatClampNeg < gw_np S) (gw_bd (f_X4_isTornBy r1 x2 S) (fun r8 => (if r8 = 0 then gw_let (gw_up S (2 * r1.toNatClampNeg + 30) 10 x2) (fun S11 => gw_b2 (f_X2_takeFromNights r1 x2 S11) (fun r13 S14 => some (r13, S14))) else some ((-2 : Int32), S))))))))
abbrev rm_X8_tear : Room := { frames := 2, cells := 0, slots := 0, locals := 80 }
def f_X8_mend (x1 : Int32) (S : gw_S) : Option (Int32 × gw_S) := gw_bd (f_X2_pieceAt x1 S) (fun r1 => (if r1 = -1 then some ((-1 : Int32), S) else gw_gd (r1.toNatClampNeg < gw_np S) (gw_bd (f_X4_isTorn r1 S) (fun r5 => (if r5 = 0 then some ((-2 : Int32), S) else gw_let (gw_up S (2 * r1.toNatClampNeg + 30) 10 (-4 : Int32)) (fun S8 => some ((1 : Int32), S8)))))))
abbrev rm_X8_mend : Room := { frames := 1, cells := 0, slots := 0, locals := 40 }
def f_X8_chain (x1 : Int32) (S : gw_S) : Option (Int32 × gw_S) := gw_bd (f_X2_bookingAt x1 S) (fun r1 => (if r1 = -1 then some ((-1 : Int32), S) else gw_gd (r1.toNatClampNeg < gw_nb S) (gw_bd (f_X0_waits r1 S) (fun r5 => (if r5 = 0 then some ((-2 : Int32), S) else gw_b2 (f_X1_find r1 S) (fun r8 S9 => some (r8, S9)))))))
abbrev rm_X8_chain : Room := { frames := 10, cells := 0, slots := 0, locals := 400 }
def f_X8_link (x1 : Int32) (x2 : Int32) (x3 : Int32) (S : gw_S) : Option (Int32 × gw_S) := (if x2 < 0 then some ((-1 : Int32), S) else gw_bd (f_X8_isIn x3 (0 : Int32) (1 : Int32) S) (fun r2 => (if r2 = 0 then some ((-1 : Int32), S) else gw_b2 (f_X8_chain x1 S) (fun r5 S6 => (if 0 ≤ r5 then (if x2 < r5 then (if x3 = 0 then gw_bd (f_X1_bookingIn x2 S6) (fun r13 => some (r13, S6)) else gw_bd (f_X1_pieceIn x2 S6) (fun r11 => some (r11, S6))) else some ((-1 : Int32), S6)) else some (r5, S6))))))
abbrev rm_X8_link : Room := { frames := 11, cells := 0, slots := 0, locals := 440 }
def f_X8_swap (x1 : Int32) (S : gw_S) : Option (Int32 × gw_S) := gw_b2 (f_X8_chain x1 S) (fun r1 S2 => (if r1 ≤ 0 then some (r1, S2) else gw_bd (f_X1_perform  S2) (fun S5 => some (r1, S5))))
abbrev rm_X8_swap : Room := { frames := 11, cells := 0, slots := 0, locals := 440 }
def f_X8_match_b86 (K52 : Int32 → Int32 → Int32 → Int32 → Int32 → gw_S → Option (Int32 × gw_S)) : Int32 → Int32 → Int32 → Int32 → Int32 → gw_S → Option (Int32 × gw_S) := fun v1 v2 v4 v5 v6 S => gw_let (v6 + (1 : Int32) : Int32) (fun y1 => K52 v1 v2 v4 v5 y1 S)
def f_X8_match_b52  : Nat → Int32 → Int32 → Int32 → Int32 → Int32 → gw_S → Option (Int32 × gw_S)
  | 0, _, _, _, _, _, _ => none
  | n + 1, v1, v2, v4, v5, v6, S => (if (9 : Int32) < v6 then (if v2 = 0 then some (v4, S) else some (v5, S)) else gw_b2 (f_X2_matchedIn v1 v6 S) (fun r5 S6 => (if r5 ≤ v5 then f_X8_match_b86 (f_X8_match_b52  n) v1 v2 v4 v5 v6 S6 else f_X8_match_b86 (f_X8_match_b52  n) v1 v2 v6 r5 v6 S6)))
def f_X8_match (x1 : Int32) (x2 : Int32) (S : gw_S) : Option (Int32 × gw_S) := gw_bd (f_X8_isIn x1 (0 : Int32) (4 : Int32) S) (fun r9 => (if r9 = 0 then some ((-1 : Int32), S) else gw_bd (f_X8_isIn x2 (0 : Int32) (2 : Int32) S) (fun r12 => (if r12 = 0 then some ((-1 : Int32), S) else gw_bd (f_X2_membersOf x1 S) (fun r15 => (if r15 = 0 then some ((-4 : Int32), S) else (if x2 = (2 : Int32) then some (r15, S) else f_X8_match_b52  gw_F x1 x2 (0 : Int32) (-1 : Int32) (0 : Int32) S)))))))
abbrev rm_X8_match : Room := { frames := 7, cells := 0, slots := 0, locals := 280 }
def f_X8_asOf (x1 : Int32) (x2 : Int32) (x3 : Int32) (x4 : Int32) (S : gw_S) : Option (Int32) := gw_bd (f_X8_isDay x1 S) (fun r1 => (if r1 = 0 then some (-1 : Int32) else gw_bd (f_X8_isIn x2 (0 : Int32) (1 : Int32) S) (fun r4 => (if r4 = 0 then some (-1 : Int32) else (if x2 = 0 then gw_bd (f_X2_knownOn x1 (20 : Int32) (380 : Int32) S) (fun r10 => some r10) else gw_bd (f_X2_knownOn x1 x3 x4 S) (fun r8 => some r8))))))
abbrev rm_X8_asOf : Room := { frames := 3, cells := 0, slots := 0, locals := 120 }
def f_X8_out (x1 : Int32) (x2 : Int32) (S : gw_S) : Option (Int32 × gw_S) := gw_bd (f_X2_bookingAt x1 S) (fun r1 => (if r1 = -1 then some ((-1 : Int32), S) else gw_bd (f_X8_isIn x2 (0 : Int32) (4095 : Int32) S) (fun r4 => (if r4 = 0 then some ((-1 : Int32), S) else gw_gd (r1.toNatClampNeg < gw_nb S) ((if (S (2 * r1.toNatClampNeg + 31) 8) = -1 then some ((-2 : Int32), S) else gw_bd (f_X0_wentOut r1 S) (fun r9 => (if r9 = 0 then gw_bd (f_X2_depositOn (S (2 * r1.toNatClampNeg + 31) 8) S) (fun r12 => gw_bd (f_X0_goOut r1 x2 r12 S) (fun S14 => gw_gd (r1.toNatClampNeg < gw_nb S14) (some ((S14 (2 * r1.toNatClampNeg + 31) 10), S14)))) else some ((-2 : Int32), S)))))))))
abbrev rm_X8_out : Room := { frames := 2, cells := 0, slots := 0, locals := 80 }
def f_X8_home (x1 : Int32) (x2 : Int32) (x3 : Int32) (S : gw_S) : Option (Int32 × gw_S) := gw_bd (f_X2_bookingAt x1 S) (fun r1 => (if r1 = -1 then some ((-1000001 : Int32), S) else gw_bd (f_X8_isDay x2 S) (fun r4 => (if r4 = 0 then some ((-1000001 : Int32), S) else gw_bd (f_X8_isIn x3 (-1 : Int32) (4095 : Int32) S) (fun r7 => (if r7 = 0 then some ((-1000001 : Int32), S) else gw_gd (r1.toNatClampNeg < gw_nb S) (gw_let ((S (2 * r1.toNatClampNeg + 31) 8) : Int32) (fun y11 => (if y11 = -1 then some ((-1000002 : Int32), S) else gw_bd (f_X2_firstAway y11 r1 S) (fun r14 => (if r14 ≤ x2 then (if (S (2 * r1.toNatClampNeg + 31) 9) = (1 : Int32) then gw_bd (f_X0_comeHome r1 x2 x3 S) (fun S18 => gw_gd (y11.toNatClampNeg < gw_np S18) (gw_let (gw_up S18 (2 * y11.toNatClampNeg + 30) 9 ((S18 (2 * y11.toNatClampNeg + 30) 9) + (1 : Int32))) (fun S21 => gw_bd (f_X2_owedFor r1 S21) (fun r23 => gw_gd (r1.toNatClampNeg < gw_nb S21) (some ((r23 - (S21 (2 * r1.toNatClampNeg + 31) 10)), S21)))))) else some ((-1000002 : Int32), S)) else some ((-1000001 : Int32), S))))))))))))
abbrev rm_X8_home : Room := { frames := 4, cells := 0, slots := 0, locals := 160 }
def f_X8_about_b51 (S : gw_S)  : Int32 → Int32 → Option (Int32) := fun v2 v3 => (if v2 = 0 then gw_gd (¬ v3 = -1) (gw_gd (v3.toNatClampNeg < gw_nb S) (some (S (2 * v3.toNatClampNeg + 31) 9))) else (if v2 = 1 then gw_gd (¬ v3 = -1) (gw_gd (v3.toNatClampNeg < gw_nb S) (some (S (2 * v3.toNatClampNeg + 31) 10))) else (if v2 = 2 then gw_bd (f_X2_daysLate v3 S) (fun r8 => some r8) else (if v2 = 3 then gw_bd (f_X2_harmOf v3 S) (fun r11 => some r11) else gw_bd (f_X2_owedFor v3 S) (fun r13 => some r13)))))
def f_X8_about_b36 (S : gw_S)  : Int32 → Int32 → Option (Int32) := fun v2 v3 => (if v2 < (2 : Int32) then f_X8_about_b51 S  v2 v3 else gw_gd (¬ v3 = -1) (gw_gd (v3.toNatClampNeg < gw_nb S) ((if (S (2 * v3.toNatClampNeg + 31) 9) = (2 : Int32) then f_X8_about_b51 S  v2 v3 else some (-1 : Int32)))))
def f_X8_about (x1 : Int32) (x2 : Int32) (S : gw_S) : Option (Int32) := gw_bd (f_X2_bookingAt x1 S) (fun r19 => (if r19 = -1 then some (-1 : Int32) else gw_bd (f_X8_isIn x2 (0 : Int32) (4 : Int32) S) (fun r22 => (if r22 = 0 then some (-1 : Int32) else (if x2 < (1 : Int32) then f_X8_about_b36 S  x2 r19 else gw_gd (r19.toNatClampNeg < gw_nb S) (gw_bd (f_X0_wentOut r19 S) (fun r27 => (if r27 = 0 then some (-1 : Int32) else f_X8_about_b36 S  x2 r19))))))))
abbrev rm_X8_about : Room := { frames := 4, cells := 0, slots := 0, locals := 160 }
def f_X8_retire (x1 : Int32) (S : gw_S) : Option (Int32 × gw_S) := gw_bd (f_X2_pieceAt x1 S) (fun r1 => (if r1 = -1 then some ((-1 : Int32), S) else gw_gd (r1.toNatClampNeg < gw_np S) (gw_bd (f_X4_isRetired r1 S) (fun r5 => (if r5 = 0 then gw_let (gw_up S (2 * r1.toNatClampNeg + 30) 11 (1 : Int32)) (fun S8 => gw_gd (r1.toNatClampNeg < gw_np S8) (gw_bd (f_X4_worth r1 S8) (fun r11 => some (r11, S8)))) else some ((-2 : Int32), S))))))
abbrev rm_X8_retire : Room := { frames := 3, cells := 0, slots := 0, locals := 120 }
def f_X8_count_b84 (S : gw_S)  : Int32 → Option (Int32) := fun v1 => gw_bd (f_X2_tallyBookings v1 S) (fun r1 => some r1)
def f_X8_count_b56 (S : gw_S)  : Int32 → Option (Int32) := fun v1 => gw_bd (f_X2_tallyPieces v1 S) (fun r3 => some r3)
def f_X8_count (x1 : Int32) (S : gw_S) : Option (Int32) := (if x1 = 0 then some (S 3 6) else (if x1 = 1 then f_X8_count_b56 S  x1 else (if x1 = 2 then f_X8_count_b56 S  x1 else (if x1 = 3 then some (S 7 3) else (if x1 = 4 then some (S 3 7) else (if x1 = 5 then f_X8_count_b84 S  x1 else (if x1 = 6 then f_X8_count_b84 S  x1 else (if x1 = 7 then f_X8_count_b56 S  x1 else some (-1 : Int32)))))))))
abbrev rm_X8_count : Room := { frames := 3, cells := 0, slots := 0, locals := 120 }
def f_X8_isSheet (x0 : Int32) (S : gw_S) : Option (Int32) := gw_bd (f_X8_isIn x0 (0 : Int32) (3 : Int32) S) (fun r1 => gw_gd (r1 = 0 ∨ r1 = 1) (some r1))
abbrev rm_X8_isSheet : Room := { frames := 1, cells := 0, slots := 0, locals := 40 }
def f_X8_isLane (x0 : Int32) (S : gw_S) : Option (Int32) := gw_bd (f_X8_isIn x0 (0 : Int32) (2 : Int32) S) (fun r1 => gw_gd (r1 = 0 ∨ r1 = 1) (some r1))
abbrev rm_X8_isLane : Room := { frames := 1, cells := 0, slots := 0, locals := 40 }
def f_X8_sheet (x1 : Int32) (x2 : Int32) (x3 : Int32) (S : gw_S) : Option (Int32 × gw_S) := gw_bd (f_X8_isSheet x1 S) (fun r1 => (if r1 = 0 then some ((-1 : Int32), S) else gw_bd (f_X8_isLane x2 S) (fun r4 => (if r4 = 0 then some ((-1 : Int32), S) else (if x3 ≤ (36 : Int32) then (if 0 ≤ x3 then gw_gd (gw_in x1 4) (gw_gd (x1.toNatClampNeg < 4) (gw_bd (f_X5_begin x1 x2 x3 S) (fun S11 => some (x3, S11)))) else some ((-14 : Int32), S)) else some ((-1 : Int32), S))))))
abbrev rm_X8_sheet : Room := { frames := 2, cells := 0, slots := 0, locals := 80 }
def f_X8_drop (x1 : Int32) (S : gw_S) : Option (Int32 × gw_S) := gw_bd (f_X8_isSheet x1 S) (fun r1 => (if r1 = 0 then some ((-1 : Int32), S) else gw_gd (gw_in x1 4) (gw_gd (x1.toNatClampNeg < 4) ((if (S (21 + x1.toNatClampNeg) 1) = 0 then some ((-11 : Int32), S) else gw_let (gw_up S (21 + x1.toNatClampNeg) 1 (0 : Int32)) (fun S7 => some ((S7 (21 + x1.toNatClampNeg) 3), S7)))))))
abbrev rm_X8_drop : Room := { frames := 2, cells := 0, slots := 0, locals := 80 }
def f_X8_item (x1 : Int32) (x2 : Int32) (x3 : Int32) (x4 : Int32) (S : gw_S) : Option (Int32 × gw_S) := gw_bd (f_X8_isSheet x1 S) (fun r1 => (if r1 = 0 then some ((-1 : Int32), S) else gw_bd (f_X8_isLane x2 S) (fun r4 => (if r4 = 0 then some ((-1 : Int32), S) else gw_gd (gw_in x1 4) (gw_gd (x1.toNatClampNeg < 4) (gw_bd (f_X5_refusalAs x1 x2 S) (fun r9 => (if r9 = 0 then gw_bd (f_X5_hasItems x1 x3 (1 : Int32) S) (fun r12 => (if r12 = 0 then some ((-13 : Int32), S) else gw_bd (f_X5_put x1 x3 x4 S) (fun S15 => some ((1 : Int32), S15)))) else some (r9, S)))))))))
abbrev rm_X8_item : Room := { frames := 2, cells := 0, slots := 0, locals := 80 }
def f_X8_isBookingOnSheet (x0 : Int32) (x1 : Int32) (S : gw_S) : Option (Int32) := gw_gd (x0.toNatClampNeg < 4) (gw_bd (f_X5_get x0 x1 S) (fun r2 => gw_bd (f_X5_get x0 (x1 + (1 : Int32)) S) (fun r4 => gw_bd (f_X5_get x0 (x1 + (2 : Int32)) S) (fun r6 => gw_bd (f_X5_get x0 (x1 + (3 : Int32)) S) (fun r8 => gw_bd (f_X5_get x0 (x1 + (4 : Int32)) S) (fun r10 => gw_bd (f_X5_get x0 (x1 + (5 : Int32)) S) (fun r12 => gw_bd (f_X8_isBookingAsTold r2 r4 r6 r8 r10 r12 S) (fun r14 => gw_gd (r14 = 0 ∨ r14 = 1) (some r14)))))))))
abbrev rm_X8_isBookingOnSheet : Room := { frames := 3, cells := 0, slots := 0, locals := 120 }
def f_X9_in (x0 : Int64) (x2 : Int64) (x4 : Int64) (S : gw_S) : Option (Int32) := (if (lg_cmp x0 x2) < 0 then some (0 : Int32) else (if 0 < (lg_cmp x0 x4) then some (0 : Int32) else some (1 : Int32)))
abbrev rm_X9_in : Room := { frames := 0, cells := 0, slots := 0, locals := 0 }
def f_X9_type_b74  : Nat → Int64 → Int32 → gw_S → Option (Int32 × gw_S)
  | 0, _, _, _ => none
  | n + 1, v1, v4, S => (if v4 < 0 then some ((S 0 5), S) else gw_gd (gw_in (S 0 5) 60) (gw_let (gw_up S 5 (S 0 5).toNatClampNeg (((v1 >>> (((8 : Int32) * v4).toInt64 &&& 63)) &&& (255 : Int64)).toInt32)) (fun S3 => gw_let (gw_up S3 0 5 ((S3 0 5) + (1 : Int32))) (fun S5 => gw_let (v4 + (-1 : Int32) : Int32) (fun y7 => (f_X9_type_b74  n) v1 y7 S5)))))
def f_X9_type_b19  : Nat → Int64 → Int32 → Int32 → gw_S → Option (Int32 × gw_S)
  | 0, _, _, _, _ => none
  | n + 1, v1, v3, v4, S => (if v4 < 0 then (if ((S 0 5) + v3) ≤ (60 : Int32) then gw_let ((v3 - (1 : Int32)) : Int32) (fun y11 => f_X9_type_b74  gw_F v1 y11 S) else some ((-3 : Int32), S)) else gw_bd (f_X9_in ((v1 >>> (((8 : Int32) * v4).toInt64 &&& 63)) &&& (255 : Int64)) (32 : Int64) (126 : Int64) S) (fun r13 => (if r13 = 0 then some ((-1 : Int32), S) else gw_let (v4 + (-1 : Int32) : Int32) (fun y16 => (f_X9_type_b19  n) v1 v3 y16 S))))
def f_X9_type (x1 : Int64) (x3 : Int32) (S : gw_S) : Option (Int32 × gw_S) := gw_bd (f_X9_in (x3.toInt64) (1 : Int64) (8 : Int64) S) (fun r18 => (if r18 = 0 then some ((-1 : Int32), S) else gw_let ((x3 - (1 : Int32)) : Int32) (fun y21 => f_X9_type_b19  gw_F x1 x3 y21 S)))
abbrev rm_X9_type : Room := { frames := 1, cells := 0, slots := 0, locals := 40 }
def f_X9_next_b38  : gw_S → Option (Int32 × gw_S) := fun S => (if (S 0 5) ≤ (S 0 6) then some ((-1 : Int32), S) else gw_gd (gw_in (S 0 6) 60) (some ((S 5 (S 0 6).toNatClampNeg), S)))
def f_X9_next_b0  : Nat → gw_S → Option (Int32 × gw_S)
  | 0, _ => none
  | n + 1, S => (if (S 0 5) ≤ (S 0 6) then f_X9_next_b38   S else gw_gd (gw_in (S 0 6) 60) ((if (S 5 (S 0 6).toNatClampNeg) = (32 : Int32) then gw_let (gw_up S 0 6 ((S 0 6) + (1 : Int32))) (fun S6 => (f_X9_next_b0  n)  S6) else f_X9_next_b38   S)))
def f_X9_next  (S : gw_S) : Option (Int32 × gw_S) := f_X9_next_b0  gw_F  S
abbrev rm_X9_next : Room := { frames := 0, cells := 0, slots := 0, locals := 0 }
def f_X9_termOf_b2 (S : gw_S)  : Nat → Int32 → Int32 → Option (Int32)
  | 0, _, _ => none
  | n + 1, v1, v2 => (if (8 : Int32) ≤ v2 then some (-1 : Int32) else gw_gd (gw_in v2 8) ((if (S 1 v2.toNatClampNeg) = v1 then some v2 else gw_let (v2 + (1 : Int32) : Int32) (fun y4 => (f_X9_termOf_b2 S  n) v1 y4))))
def f_X9_termOf (x1 : Int32) (S : gw_S) : Option (Int32) := f_X9_termOf_b2 S  gw_F x1 (0 : Int32)
abbrev rm_X9_termOf : Room := { frames := 0, cells := 0, slots := 0, locals := 0 }
def f_X9_number_b108  : Int32 → gw_S → Option (Int32 × gw_S) := fun v3 S => gw_let (gw_up S 0 6 v3) (fun S1 => some ((-1 : Int32), S1))
def f_X9_number_b90  : Int32 → Int32 → Int32 → Int32 → gw_S → Option (Int32 × gw_S) := fun v1 v2 v3 v4 S => (if v2 < 0 then f_X9_number_b108  v3 S else (if (S 0 6) = v3 then f_X9_number_b108  v3 S else (if v4 ≤ v1 then some (v4, S) else f_X9_number_b108  v3 S)))
def f_X9_number_b75 (K13 : Int32 → Int32 → Int32 → Int32 → gw_S → Option (Int32 × gw_S)) : Int32 → Int32 → Int32 → Int32 → gw_S → Option (Int32 × gw_S) := fun v1 v2 v3 t0_ S => gw_let (gw_up S 0 6 ((S 0 6) + (1 : Int32))) (fun S6 => K13 v1 v2 v3 t0_ S6)
def f_X9_number_b13  : Nat → Int32 → Int32 → Int32 → Int32 → gw_S → Option (Int32 × gw_S)
  | 0, _, _, _, _, _ => none
  | n + 1, v1, v2, v3, v4, S => (if (S 0 5) ≤ (S 0 6) then f_X9_number_b90  v1 v2 v3 v4 S else gw_gd (gw_in (S 0 6) 60) (gw_bd (f_X9_in ((S 5 (S 0 6).toNatClampNeg).toInt64) (48 : Int64) (57 : Int64) S) (fun r10 => (if r10 = 0 then f_X9_number_b90  v1 v2 v3 v4 S else (if v4 ≤ v1 then f_X9_number_b75 (f_X9_number_b13  n) v1 v2 v3 ((((10 : Int32) * v4) + (S 5 (S 0 6).toNatClampNeg)) - (48 : Int32)) S else f_X9_number_b75 (f_X9_number_b13  n) v1 v2 v3 v4 S)))))
def f_X9_number (x1 : Int32) (S : gw_S) : Option (Int32 × gw_S) := gw_b2 (f_X9_next  S) (fun r14 S15 => gw_let ((S15 0 6) : Int32) (fun y17 => f_X9_number_b13  gw_F x1 r14 y17 (0 : Int32) S15))
abbrev rm_X9_number : Room := { frames := 1, cells := 0, slots := 0, locals := 40 }
def f_X9_readAll_b145 (K35 : Int32 → Int32 → gw_S → Option (Int32 × gw_S)) : Int32 → Int32 → Int32 → Int32 → gw_S → Option (Int32 × gw_S) := fun v1 v2 t0_ t1_ S => gw_let (gw_up S 0 6 (t1_ + t0_)) (fun S1 => K35 v1 v2 S1)
def f_X9_readAll_b130 (K35 : Int32 → Int32 → gw_S → Option (Int32 × gw_S)) : Int32 → Int32 → gw_S → Option (Int32 × gw_S) := fun v1 t0_ S => (if t0_ = 0 then f_X9_readAll_b145 K35 v1 t0_ (0 : Int32) (S 0 6) S else f_X9_readAll_b145 K35 v1 t0_ (1 : Int32) (S 0 6) S)
def f_X9_readAll_b120 (K35 : Int32 → Int32 → gw_S → Option (Int32 × gw_S)) : Int32 → Int32 → gw_S → Option (Int32 × gw_S) := fun v1 v5 S => (if v5 < 0 then f_X9_readAll_b130 K35 v1 (0 : Int32) S else f_X9_readAll_b130 K35 v1 (1 : Int32) S)
def f_X9_readAll_b35  : Nat → Int32 → Int32 → gw_S → Option (Int32 × gw_S)
  | 0, _, _, _ => none
  | n + 1, v1, v2, S => (if v2 = 0 then some (v1, S) else gw_b2 (f_X9_next  S) (fun r6 S7 => gw_bd (f_X9_termOf r6 S7) (fun r9 => (if 0 ≤ r9 then gw_let (gw_up S7 0 6 ((S7 0 6) + (1 : Int32))) (fun S12 => gw_gd (gw_in r9 8) (gw_b2 (f_X9_number (S12 2 r9.toNatClampNeg) S12) (fun r15 S16 => (if 0 ≤ r15 then gw_let (gw_up S16 4 r9.toNatClampNeg r15) (fun S19 => gw_let (v1 + (1 : Int32) : Int32) (fun y21 => gw_b2 (f_X9_next  S19) (fun r23 S24 => (if r23 < 0 then f_X9_readAll_b120 (f_X9_readAll_b35  n) y21 r23 S24 else (if r23 = (59 : Int32) then (if y21 = (8 : Int32) then some ((-1 : Int32), S24) else f_X9_readAll_b120 (f_X9_readAll_b35  n) y21 r23 S24) else some ((-1 : Int32), S24)))))) else some ((-1 : Int32), S16))))) else some ((-1 : Int32), S7)))))
def f_X9_readAll_b9  : Nat → Int32 → Int32 → gw_S → Option (Int32 × gw_S)
  | 0, _, _, _ => none
  | n + 1, v1, v2, S => (if (8 : Int32) ≤ v2 then f_X9_readAll_b35  gw_F v1 (1 : Int32) S else gw_gd (gw_in v2 8) (gw_let (gw_up S 4 v2.toNatClampNeg (S 3 v2.toNatClampNeg)) (fun S31 => gw_let (v2 + (1 : Int32) : Int32) (fun y33 => (f_X9_readAll_b9  n) v1 y33 S31))))
def f_X9_readAll  (S : gw_S) : Option (Int32 × gw_S) := gw_let (gw_up S 0 6 (0 : Int32)) (fun S35 => f_X9_readAll_b9  gw_F (0 : Int32) (0 : Int32) S35)
abbrev rm_X9_readAll : Room := { frames := 2, cells := 0, slots := 0, locals := 80 }
def f_X9_terms_b24  : Nat → Int32 → Int32 → gw_S → Option (Int32 × gw_S)
  | 0, _, _, _ => none
  | n + 1, v1, v2, S => (if (8 : Int32) ≤ v2 then some (v1, S) else gw_gd (gw_in v2 8) (gw_let (gw_up S 3 v2.toNatClampNeg (S 4 v2.toNatClampNeg)) (fun S3 => gw_let (v2 + (1 : Int32) : Int32) (fun y5 => (f_X9_terms_b24  n) v1 y5 S3))))
def f_X9_terms  (S : gw_S) : Option (Int32 × gw_S) := gw_b2 (f_X9_readAll  S) (fun r7 S8 => gw_let (gw_up S8 0 5 (0 : Int32)) (fun S10 => (if 0 ≤ r7 then f_X9_terms_b24  gw_F r7 (0 : Int32) S10 else some (((-20 : Int32) - (S10 0 6)), S10))))
abbrev rm_X9_terms : Room := { frames := 3, cells := 0, slots := 0, locals := 120 }
def f_X9_term (x1 : Int32) (S : gw_S) : Option (Int32) := gw_bd (f_X9_termOf x1 S) (fun r1 => (if 0 ≤ r1 then gw_gd (gw_in r1 8) (some (S 3 r1.toNatClampNeg)) else some (-1 : Int32)))
abbrev rm_X9_term : Room := { frames := 1, cells := 0, slots := 0, locals := 40 }
def f_X9_isTown (x0 : Int32) (S : gw_S) : Option (Int32) := gw_bd (f_X9_in (x0.toInt64) (0 : Int64) (8 : Int64) S) (fun r1 => gw_gd (r1 = 0 ∨ r1 = 1) (some r1))
abbrev rm_X9_isTown : Room := { frames := 1, cells := 0, slots := 0, locals := 40 }
def f_X9_post (x1 : Int32) (x2 : Int32) (x3 : Int32) (S : gw_S) : Option (Int32 × gw_S) := gw_bd (f_X9_isTown x1 S) (fun r1 => (if r1 = 0 then some ((-1 : Int32), S) else gw_bd (f_X9_isTown x2 S) (fun r4 => (if r4 = 0 then some ((-1 : Int32), S) else (if x1 = x2 then some ((-1 : Int32), S) else gw_bd (f_X9_in (x3.toInt64) (0 : Int64) (9 : Int64) S) (fun r8 => (if r8 = 0 then some ((-1 : Int32), S) else gw_gd (gw_in (((9 : Int32) * x1) + x2) 81) (gw_let ((S 6 (((9 : Int32) * x1) + x2).toNatClampNeg) : Int32) (fun y12 => gw_let (gw_up S 6 (((9 : Int32) * x1) + x2).toNatClampNeg x3) (fun S14 => gw_gd (gw_in (((9 : Int32) * x2) + x1) 81) (gw_let (gw_up S14 6 (((9 : Int32) * x2) + x1).toNatClampNeg x3) (fun S17 => some (y12, S17)))))))))))))
abbrev rm_X9_post : Room := { frames := 2, cells := 0, slots := 0, locals := 80 }
def f_X9_isMaker (x0 : Int32) (S : gw_S) : Option (Int32) := gw_bd (f_X9_in (x0.toInt64) (0 : Int64) (5 : Int64) S) (fun r1 => gw_gd (r1 = 0 ∨ r1 = 1) (some r1))
abbrev rm_X9_isMaker : Room := { frames := 1, cells := 0, slots := 0, locals := 40 }
def f_X9_isLabel (x0 : Int32) (S : gw_S) : Option (Int32) := gw_bd (f_X9_in (x0.toInt64) (1 : Int64) (40 : Int64) S) (fun r1 => gw_gd (r1 = 0 ∨ r1 = 1) (some r1))
abbrev rm_X9_isLabel : Room := { frames := 1, cells := 0, slots := 0, locals := 40 }
def f_X9_add (x1 : Int32) (x2 : Int32) (x3 : Int32) (x4 : Int32) (x5 : Int32) (x6 : Int32) (x7 : Int32) (S : gw_S) : Option (Int32 × gw_S) := gw_bd (f_X9_isMaker x2 S) (fun r1 => (if r1 = 0 then some ((-1 : Int32), S) else gw_bd (f_X9_isLabel x3 S) (fun r4 => (if r4 = 0 then some ((-1 : Int32), S) else gw_bd (f_X9_in (x4.toInt64) (0 : Int64) (9 : Int64) S) (fun r7 => (if r7 = 0 then some ((-1 : Int32), S) else gw_bd (f_X9_isTown x5 S) (fun r10 => (if r10 = 0 then some ((-1 : Int32), S) else gw_bd (f_X9_in (x6.toInt64) (1 : Int64) (9999 : Int64) S) (fun r13 => (if r13 = 0 then some ((-1 : Int32), S) else gw_bd (f_X9_in (x7.toInt64) (1 : Int64) (99 : Int64) S) (fun r16 => (if r16 = 0 then some ((-1 : Int32), S) else (if (S 0 8) = (24 : Int32) then some ((-3 : Int32), S) else gw_gd (gw_in (S 0 8) 24) (gw_let (gw_up S 7 (S 0 8).toNatClampNeg x1) (fun S21 => gw_gd (gw_in (S21 0 8) 24) (gw_let (gw_up S21 8 (S21 0 8).toNatClampNeg x2) (fun S24 => gw_gd (gw_in (S24 0 8) 24) (gw_let (gw_up S24 9 (S24 0 8).toNatClampNeg x3) (fun S27 => gw_gd (gw_in (S27 0 8) 24) (gw_let (gw_up S27 10 (S27 0 8).toNatClampNeg x4) (fun S30 => gw_gd (gw_in (S30 0 8) 24) (gw_let (gw_up S30 11 (S30 0 8).toNatClampNeg x5) (fun S33 => gw_gd (gw_in (S33 0 8) 24) (gw_let (gw_up S33 12 (S33 0 8).toNatClampNeg x6) (fun S36 => gw_gd (gw_in (S36 0 8) 24) (gw_let (gw_up S36 13 (S36 0 8).toNatClampNeg x7) (fun S39 => gw_let (gw_up S39 0 8 ((S39 0 8) + (1 : Int32))) (fun S41 => some (((S41 0 8) - (1 : Int32)), S41)))))))))))))))))))))))))))))
abbrev rm_X9_add : Room := { frames := 2, cells := 0, slots := 0, locals := 80 }
def f_X9_gown (x1 : Int32) (x2 : Int32) (x3 : Int32) (x4 : Int32) (x5 : Int32) (x6 : Int32) (S : gw_S) : Option (Int32 × gw_S) := gw_b2 (f_X9_add (0 : Int32) x1 x2 x3 x4 x5 x6 S) (fun r1 S2 => some (r1, S2))
abbrev rm_X9_gown : Room := { frames := 3, cells := 0, slots := 0, locals := 120 }
def f_X9_longGown (x1 : Int32) (x2 : Int32) (x3 : Int32) (x4 : Int32) (x5 : Int32) (x6 : Int32) (S : gw_S) : Option (Int32 × gw_S) := gw_b2 (f_X9_add (1 : Int32) x1 x2 x3 x4 x5 x6 S) (fun r1 S2 => some (r1, S2))
abbrev rm_X9_longGown : Room := { frames := 3, cells := 0, slots := 0, locals := 120 }
def f_X9_suit (x1 : Int32) (x2 : Int32) (x3 : Int32) (x4 : Int32) (x5 : Int32) (x6 : Int32) (S : gw_S) : Option (Int32 × gw_S) := gw_b2 (f_X9_add (2 : Int32) x1 x2 x3 x4 x5 x6 S) (fun r1 S2 => some (r1, S2))
abbrev rm_X9_suit : Room := { frames := 3, cells := 0, slots := 0, locals := 120 }
def f_X9_isPiece (x1 : Int32) (S : gw_S) : Option (Int32) := gw_bd (f_X9_in (x1.toInt64) (0 : Int64) (((S 0 8) - (1 : Int32)).toInt64) S) (fun r1 => gw_gd (r1 = 0 ∨ r1 = 1) (some r1))
abbrev rm_X9_isPiece : Room := { frames := 1, cells := 0, slots := 0, locals := 40 }
def f_X9_hem (x1 : Int32) (x2 : Int32) (S : gw_S) : Option (Int32 × gw_S) := gw_bd (f_X9_isPiece x1 S) (fun r1 => (if r1 = 0 then some ((-1 : Int32), S) else gw_bd (f_X9_in (x2.toInt64) (1 : Int64) (3 : Int64) S) (fun r4 => (if r4 = 0 then some ((-1 : Int32), S) else gw_gd (gw_in x1 24) ((if (S 7 x1.toNatClampNeg) = (1 : Int32) then (if (S 14 x1.toNatClampNeg) ≤ 0 then gw_let (gw_up S 14 x1.toNatClampNeg x2) (fun S10 => some ((1 : Int32), S10)) else some ((-2 : Int32), S)) else some ((-12 : Int32), S)))))))
abbrev rm_X9_hem : Room := { frames := 2, cells := 0, slots := 0, locals := 80 }
def f_X9_isRetired (x1 : Int32) (S : gw_S) : Option (Int32) := gw_gd (gw_in x1 24) ((if (S 16 x1.toNatClampNeg) = 0 then (if (S 15 x1.toNatClampNeg) < (S 13 x1.toNatClampNeg) then some (0 : Int32) else some (1 : Int32)) else some (1 : Int32)))
abbrev rm_X9_isRetired : Room := { frames := 0, cells := 0, slots := 0, locals := 0 }
def f_X9_worthOf_b32 (S : gw_S)  : Int32 → Int32 → Option (Int32) := fun v1 t0_ => gw_gd (gw_in v1 24) (gw_gd (¬ (S 13 v1.toNatClampNeg) = 0) (some (((S 12 v1.toNatClampNeg) * t0_) / (S 13 v1.toNatClampNeg))))
def f_X9_worthOf (x1 : Int32) (S : gw_S) : Option (Int32) := gw_gd (gw_in x1 24) ((if (S 13 x1.toNatClampNeg) ≤ (S 15 x1.toNatClampNeg) then f_X9_worthOf_b32 S  x1 (0 : Int32) else f_X9_worthOf_b32 S  x1 ((S 13 x1.toNatClampNeg) - (S 15 x1.toNatClampNeg))))
abbrev rm_X9_worthOf : Room := { frames := 0, cells := 0, slots := 0, locals := 0 }
def f_X9_told (x1 : Int32) (x2 : Int32) (S : gw_S) : Option (Int32) := gw_bd (f_X9_isPiece x1 S) (fun r1 => (if r1 = 0 then some (-1 : Int32) else (if x2 = 0 then gw_gd (gw_in x1 24) (some (S 7 x1.toNatClampNeg)) else (if x2 = 1 then gw_gd (gw_in x1 24) (some (S 8 x1.toNatClampNeg)) else (if x2 = 2 then gw_gd (gw_in x1 24) (some (S 9 x1.toNatClampNeg)) else (if x2 = 3 then gw_gd (gw_in x1 24) (some (S 10 x1.toNatClampNeg)) else (if x2 = 4 then gw_gd (gw_in x1 24) (some (S 11 x1.toNatClampNeg)) else (if x2 = 5 then gw_gd (gw_in x1 24) (some (S 12 x1.toNatClampNeg)) else (if x2 = 6 then gw_gd (gw_in x1 24) (some (S 15 x1.toNatClampNeg)) else (if x2 = 7 then gw_bd (f_X9_worthOf x1 S) (fun r19 => some r19) else (if x2 = 8 then gw_bd (f_X9_isRetired x1 S) (fun r22 => (if r22 = 0 then some (0 : Int32) else some (1 : Int32))) else (if x2 = 9 then gw_gd (gw_in x1 24) ((if (S 17 x1.toNatClampNeg) = 0 then some (-4 : Int32) else some (S 18 x1.toNatClampNeg))) else some (-1 : Int32)))))))))))))
abbrev rm_X9_told : Room := { frames := 2, cells := 0, slots := 0, locals := 80 }
def f_X9_same (x1 : Int32) (x2 : Int32) (x3 : Int32) (x4 : Int32) (S : gw_S) : Option (Int32 × gw_S) := gw_bd (f_X9_isMaker x1 S) (fun r1 => (if r1 = 0 then some ((-1 : Int32), S) else gw_bd (f_X9_isLabel x2 S) (fun r4 => (if r4 = 0 then some ((-1 : Int32), S) else gw_bd (f_X9_isMaker x3 S) (fun r7 => (if r7 = 0 then some ((-1 : Int32), S) else gw_bd (f_X9_isLabel x4 S) (fun r10 => (if r10 = 0 then some ((-1 : Int32), S) else (if x1 = x3 then some ((-1 : Int32), S) else (if (S 0 21) = (20 : Int32) then some ((-3 : Int32), S) else gw_gd (gw_in (S 0 21) 20) (gw_let (gw_up S 19 (S 0 21).toNatClampNeg x1) (fun S16 => gw_gd (gw_in (S16 0 21) 20) (gw_let (gw_up S16 20 (S16 0 21).toNatClampNeg x2) (fun S19 => gw_gd (gw_in (S19 0 21) 20) (gw_let (gw_up S19 21 (S19 0 21).toNatClampNeg x3) (fun S22 => gw_gd (gw_in (S22 0 21) 20) (gw_let (gw_up S22 22 (S22 0 21).toNatClampNeg x4) (fun S25 => gw_let (gw_up S25 0 21 ((S25 0 21) + (1 : Int32))) (fun S27 => some (((S27 0 21) - (1 : Int32)), S27))))))))))))))))))))
abbrev rm_X9_same : Room := { frames := 2, cells := 0, slots := 0, locals := 80 }
def f_X9_clearLies_b39 (K2 : Int32 → gw_S → Option (gw_S)) : Int32 → Int32 → Int32 → gw_S → Option (gw_S) := fun v1 t0_ t1_ S => gw_gd (gw_in t1_ 6) (gw_let (gw_up S 24 t1_.toNatClampNeg t0_) (fun S2 => gw_let (v1 + (1 : Int32) : Int32) (fun y4 => K2 y4 S2)))
def f_X9_clearLies_b23 (K2 : Int32 → gw_S → Option (gw_S)) : Int32 → Int32 → Int32 → gw_S → Option (gw_S) := fun v1 t0_ t1_ S => gw_gd (gw_in t1_ 6) (gw_let (gw_up S 23 t1_.toNatClampNeg t0_) (fun S7 => (if v1 = 0 then f_X9_clearLies_b39 K2 v1 (0 : Int32) v1 S7 else f_X9_clearLies_b39 K2 v1 (9 : Int32) v1 S7)))
def f_X9_clearLies_b2  : Nat → Int32 → gw_S → Option (gw_S)
  | 0, _, _ => none
  | n + 1, v1, S => (if (6 : Int32) ≤ v1 then some S else (if v1 = 0 then f_X9_clearLies_b23 (f_X9_clearLies_b2  n) v1 (0 : Int32) v1 S else f_X9_clearLies_b23 (f_X9_clearLies_b2  n) v1 (-9 : Int32) v1 S))
def f_X9_clearLies  (S : gw_S) : Option (gw_S) := f_X9_clearLies_b2  gw_F (0 : Int32) S
abbrev rm_X9_clearLies : Room := { frames := 0, cells := 0, slots := 0, locals := 0 }
def f_X9_bind_b41  : Int32 → Int32 → Int32 → Int32 → gw_S → Option (Int32 × gw_S) := fun v1 v2 v3 v4 S => gw_gd (gw_in v2 6) (gw_gd (gw_in v1 6) ((if (S 24 v1.toNatClampNeg) ≤ (((S 24 v2.toNatClampNeg) + v3) + (1 : Int32)) then gw_gd (v4 = 0 ∨ v4 = 1) (some (v4, S)) else gw_let (gw_up S 24 v1.toNatClampNeg (((S 24 v2.toNatClampNeg) + v3) + (1 : Int32))) (fun S5 => some ((1 : Int32), S5)))))
def f_X9_bind (x1 : Int32) (x2 : Int32) (x3 : Int32) (S : gw_S) : Option (Int32 × gw_S) := gw_gd (gw_in x2 6) (gw_gd (gw_in x1 6) ((if (((S 23 x2.toNatClampNeg) + x3) - (1 : Int32)) ≤ (S 23 x1.toNatClampNeg) then f_X9_bind_b41  x1 x2 x3 (0 : Int32) S else gw_let (gw_up S 23 x1.toNatClampNeg (((S 23 x2.toNatClampNeg) + x3) - (1 : Int32))) (fun S10 => f_X9_bind_b41  x1 x2 x3 (1 : Int32) S10))))
abbrev rm_X9_bind : Room := { frames := 0, cells := 0, slots := 0, locals := 0 }
def f_X9_findLies_b161  : gw_S → Option (gw_S) := fun S => (if (S 0 28) = 0 then some S else gw_bd (f_X9_clearLies  S) (fun S2 => some S2))
def f_X9_findLies_b149 (K11 : Int32 → gw_S → Option (gw_S)) (K115 : Int32 → Int32 → gw_S → Option (gw_S)) : Int32 → Int32 → Int32 → gw_S → Option (gw_S) := fun v1 v2 t0_ S => gw_gd (t0_ = 0 ∨ t0_ = 1) (gw_let (gw_up S 0 28 t0_) (fun S5 => gw_let (v2 + (1 : Int32) : Int32) (fun y7 => K115 v1 y7 S5)))
def f_X9_findLies_b144 (K11 : Int32 → gw_S → Option (gw_S)) (K115 : Int32 → Int32 → gw_S → Option (gw_S)) : Int32 → Int32 → gw_S → Option (gw_S) := fun v1 v2 S => f_X9_findLies_b149 K11 K115 v1 v2 (1 : Int32) S
def f_X9_findLies_b115 (K11 : Int32 → gw_S → Option (gw_S)) : Nat → Int32 → Int32 → gw_S → Option (gw_S)
  | 0, _, _, _ => none
  | n + 1, v1, v2, S => (if (6 : Int32) ≤ v2 then K11 v1 S else (if (S 0 28) = 0 then gw_gd (gw_in v2 6) ((if (S 23 v2.toNatClampNeg) ≤ (S 24 v2.toNatClampNeg) then f_X9_findLies_b149 K11 (f_X9_findLies_b115 K11 n) v1 v2 (0 : Int32) S else f_X9_findLies_b144 K11 (f_X9_findLies_b115 K11 n) v1 v2 S)) else f_X9_findLies_b144 K11 (f_X9_findLies_b115 K11 n) v1 v2 S))
def f_X9_findLies_b106 (K11 : Int32 → gw_S → Option (gw_S)) (K26 : Int32 → Int32 → gw_S → Option (gw_S)) : Int32 → Int32 → gw_S → Option (gw_S) := fun v2 t0_ S => gw_let (v2 + (1 : Int32) : Int32) (fun y13 => K26 t0_ y13 S)
def f_X9_findLies_b101 (K11 : Int32 → gw_S → Option (gw_S)) (K26 : Int32 → Int32 → gw_S → Option (gw_S)) : Int32 → gw_S → Option (gw_S) := fun v2 S => f_X9_findLies_b106 K11 K26 v2 (1 : Int32) S
def f_X9_findLies_b26 (K11 : Int32 → gw_S → Option (gw_S)) : Nat → Int32 → Int32 → gw_S → Option (gw_S)
  | 0, _, _, _ => none
  | n + 1, v1, v2, S => (if (S 0 21) ≤ v2 then f_X9_findLies_b115 K11 gw_F v1 (0 : Int32) S else gw_gd (gw_in v2 20) (gw_let (((S 22 v2.toNatClampNeg) - (S 20 v2.toNatClampNeg)) : Int32) (fun y17 => gw_b2 (f_X9_bind (S 19 v2.toNatClampNeg) (S 21 v2.toNatClampNeg) y17 S) (fun r19 S20 => gw_b2 (f_X9_bind (S20 21 v2.toNatClampNeg) (S20 19 v2.toNatClampNeg) (-y17) S20) (fun r22 S23 => (if v1 = 0 then (if r19 = 0 then (if r22 = 0 then f_X9_findLies_b106 K11 (f_X9_findLies_b26 K11 n) v2 (0 : Int32) S23 else f_X9_findLies_b101 K11 (f_X9_findLies_b26 K11 n) v2 S23) else f_X9_findLies_b101 K11 (f_X9_findLies_b26 K11 n) v2 S23) else f_X9_findLies_b101 K11 (f_X9_findLies_b26 K11 n) v2 S23))))))
def f_X9_findLies_b11  : Nat → Int32 → gw_S → Option (gw_S)
  | 0, _, _ => none
  | n + 1, v1, S => (if v1 = 0 then f_X9_findLies_b161   S else (if (S 0 28) = 0 then f_X9_findLies_b26 (f_X9_findLies_b11  n) gw_F (0 : Int32) (0 : Int32) S else f_X9_findLies_b161   S))
def f_X9_findLies  (S : gw_S) : Option (gw_S) := gw_bd (f_X9_clearLies  S) (fun S30 => gw_let (gw_up S30 0 28 (0 : Int32)) (fun S32 => f_X9_findLies_b11  gw_F (1 : Int32) S32))
abbrev rm_X9_findLies : Room := { frames := 1, cells := 0, slots := 0, locals := 40 }
def f_X9_lie (x1 : Int32) (x2 : Int32) (S : gw_S) : Option (Int32 × gw_S) := gw_bd (f_X9_isMaker x1 S) (fun r1 => (if r1 = 0 then some ((-101 : Int32), S) else gw_bd (f_X9_in (x2.toInt64) (0 : Int64) (1 : Int64) S) (fun r4 => (if r4 = 0 then some ((-101 : Int32), S) else gw_bd (f_X9_findLies  S) (fun S7 => (if x2 = 0 then gw_gd (gw_in x1 6) (some ((S7 23 x1.toNatClampNeg), S7)) else gw_gd (gw_in x1 6) (some ((S7 24 x1.toNatClampNeg), S7))))))))
abbrev rm_X9_lie : Room := { frames := 2, cells := 0, slots := 0, locals := 80 }
def f_X9_quarrel  (S : gw_S) : Option (Int32 × gw_S) := gw_bd (f_X9_findLies  S) (fun S1 => (if (S1 0 28) = 0 then some ((0 : Int32), S1) else some ((1 : Int32), S1)))
abbrev rm_X9_quarrel : Room := { frames := 2, cells := 0, slots := 0, locals := 80 }
def f_X9_size (x0 : Int32) (S : gw_S) : Option (Int32) := (if 0 ≤ x0 then some x0 else some (-x0))
abbrev rm_X9_size : Room := { frames := 0, cells := 0, slots := 0, locals := 0 }
def f_X9_fitOf_b115 (S : gw_S) (K66 : Int32 → Int32 → Int32 → Int32 → Int32 → Option (Int32)) : Int32 → Int32 → Int32 → Int32 → Int32 → Int32 → Option (Int32) := fun v1 v2 v5 v7 t0_ t1_ => gw_let ((t1_ + t0_) : Int32) (fun y1 => gw_let (v7 + (1 : Int32) : Int32) (fun y3 => K66 v1 v2 v5 y1 y3))
def f_X9_fitOf_b66 (S : gw_S)  : Nat → Int32 → Int32 → Int32 → Int32 → Int32 → Option (Int32)
  | 0, _, _, _, _, _ => none
  | n + 1, v1, v2, v5, v6, v7 => gw_gd (gw_in v5 6) ((if (S 24 v5.toNatClampNeg) < v7 then (if v6 = (((S 24 v5.toNatClampNeg) - (S 23 v5.toNatClampNeg)) + (1 : Int32)) then some (2 : Int32) else (if v6 ≤ 0 then some (0 : Int32) else some (1 : Int32))) else gw_gd (gw_in v1 24) (gw_bd (f_X9_size ((((S 9 v1.toNatClampNeg) + v7) + (S 14 v1.toNatClampNeg)) - v2) S) (fun r10 => (if (S 3 (4 : Int32).toNatClampNeg) < r10 then f_X9_fitOf_b115 S (f_X9_fitOf_b66 S  n) v1 v2 v5 v7 (0 : Int32) v6 else f_X9_fitOf_b115 S (f_X9_fitOf_b66 S  n) v1 v2 v5 v7 (1 : Int32) v6)))))
def f_X9_fitOf_b37 (S : gw_S)  : Int32 → Int32 → Int32 → Option (Int32) := fun v1 v2 t0_ => (if t0_ = 0 then some (0 : Int32) else gw_gd (gw_in v1 24) (gw_let ((S 8 v1.toNatClampNeg) : Int32) (fun y15 => gw_gd (gw_in y15 6) (gw_let ((S 23 y15.toNatClampNeg) : Int32) (fun y18 => f_X9_fitOf_b66 S  gw_F v1 v2 y15 (0 : Int32) y18)))))
def f_X9_fitOf (x1 : Int32) (x2 : Int32) (x3 : Int32) (S : gw_S) : Option (Int32) := (if x3 = 0 then gw_gd (gw_in x1 24) ((if (2 : Int32) ≤ (S 7 x1.toNatClampNeg) then f_X9_fitOf_b37 S  x1 x2 (0 : Int32) else f_X9_fitOf_b37 S  x1 x2 (1 : Int32))) else gw_gd (gw_in x1 24) ((if (S 7 x1.toNatClampNeg) = x3 then f_X9_fitOf_b37 S  x1 x2 (1 : Int32) else f_X9_fitOf_b37 S  x1 x2 (0 : Int32))))
abbrev rm_X9_fitOf : Room := { frames := 1, cells := 0, slots := 0, locals := 40 }
def f_X9_fits (x1 : Int32) (x2 : Int32) (x3 : Int32) (S : gw_S) : Option (Int32 × gw_S) := gw_bd (f_X9_isPiece x1 S) (fun r1 => (if r1 = 0 then some ((-1 : Int32), S) else gw_bd (f_X9_in (x2.toInt64) (1 : Int64) (40 : Int64) S) (fun r4 => (if r4 = 0 then some ((-1 : Int32), S) else gw_bd (f_X9_in (x3.toInt64) (0 : Int64) (2 : Int64) S) (fun r7 => (if r7 = 0 then some ((-1 : Int32), S) else gw_bd (f_X9_findLies  S) (fun S10 => gw_bd (f_X9_fitOf x1 x2 x3 S10) (fun r12 => some (r12, S10)))))))))
abbrev rm_X9_fits : Room := { frames := 2, cells := 0, slots := 0, locals := 80 }
def f_X9_isBooking (x0 : Int32) (x1 : Int32) (x2 : Int32) (x3 : Int32) (x4 : Int32) (x5 : Int32) (S : gw_S) : Option (Int32) := gw_bd (f_X9_in (x0.toInt64) (1 : Int64) (40 : Int64) S) (fun r1 => (if r1 = 0 then some (0 : Int32) else gw_bd (f_X9_in (x1.toInt64) (0 : Int64) (2 : Int64) S) (fun r4 => (if r4 = 0 then some (0 : Int32) else gw_bd (f_X9_in (x2.toInt64) (20 : Int64) (380 : Int64) S) (fun r7 => (if r7 = 0 then some (0 : Int32) else gw_bd (f_X9_isTown x3 S) (fun r10 => (if r10 = 0 then some (0 : Int32) else gw_bd (f_X9_in (x4.toInt64) (0 : Int64) (399 : Int64) S) (fun r13 => (if r13 = 0 then some (0 : Int32) else gw_bd (f_X9_in (x5.toInt64) (-1 : Int64) (4 : Int64) S) (fun r16 => (if r16 = 0 then some (0 : Int32) else some (1 : Int32)))))))))))))
abbrev rm_X9_isBooking : Room := { frames := 2, cells := 0, slots := 0, locals := 80 }
def f_X9_addBooking (x1 : Int32) (x2 : Int32) (x3 : Int32) (x4 : Int32) (x5 : Int32) (x6 : Int32) (S : gw_S) : Option (gw_S) := gw_gd (gw_in (S 0 29) 30) (gw_let (gw_up S 25 (S 0 29).toNatClampNeg x1) (fun S2 => gw_gd (gw_in (S2 0 29) 30) (gw_let (gw_up S2 26 (S2 0 29).toNatClampNeg x2) (fun S5 => gw_gd (gw_in (S5 0 29) 30) (gw_let (gw_up S5 27 (S5 0 29).toNatClampNeg x3) (fun S8 => gw_gd (gw_in (S8 0 29) 30) (gw_let (gw_up S8 28 (S8 0 29).toNatClampNeg x4) (fun S11 => gw_gd (gw_in (S11 0 29) 30) (gw_let (gw_up S11 29 (S11 0 29).toNatClampNeg x5) (fun S14 => gw_gd (gw_in (S14 0 29) 30) (gw_let (gw_up S14 30 (S14 0 29).toNatClampNeg x6) (fun S17 => gw_gd (gw_in (S17 0 29) 30) (gw_let (gw_up S17 31 (S17 0 29).toNatClampNeg (-1 : Int32)) (fun S20 => gw_gd (gw_in (S20 0 29) 30) (gw_let (gw_up S20 32 (S20 0 29).toNatClampNeg (-1 : Int32)) (fun S23 => gw_let (gw_up S23 0 29 ((S23 0 29) + (1 : Int32))) (fun S25 => some S25)))))))))))))))))
abbrev rm_X9_addBooking : Room := { frames := 0, cells := 0, slots := 0, locals := 0 }
def f_X9_book (x1 : Int32) (x2 : Int32) (x3 : Int32) (x4 : Int32) (x5 : Int32) (x6 : Int32) (S : gw_S) : Option (Int32 × gw_S) := gw_bd (f_X9_isBooking x1 x2 x3 x4 x5 x6 S) (fun r1 => (if r1 = 0 then some ((-1 : Int32), S) else (if (S 0 29) = (30 : Int32) then some ((-3 : Int32), S) else gw_bd (f_X9_addBooking x1 x2 x3 x4 x5 x6 S) (fun S5 => some (((S5 0 29) - (1 : Int32)), S5)))))
abbrev rm_X9_book : Room := { frames := 3, cells := 0, slots := 0, locals := 120 }
def f_X9_isThere (x1 : Int32) (S : gw_S) : Option (Int32) := gw_bd (f_X9_in (x1.toInt64) (0 : Int64) (((S 0 29) - (1 : Int32)).toInt64) S) (fun r1 => gw_gd (r1 = 0 ∨ r1 = 1) (some r1))
abbrev rm_X9_isThere : Room := { frames := 1, cells := 0, slots := 0, locals := 40 }
def f_X9_off (x1 : Int32) (x2 : Int32) (S : gw_S) : Option (Int32 × gw_S) := gw_bd (f_X9_isThere x1 S) (fun r1 => (if r1 = 0 then some ((-1 : Int32), S) else gw_gd (gw_in x1 30) (gw_bd (f_X9_in (x2.toInt64) ((S 29 x1.toNatClampNeg).toInt64) (399 : Int64) S) (fun r5 => (if r5 = 0 then some ((-1 : Int32), S) else (if 0 ≤ (S 31 x1.toNatClampNeg) then some ((-2 : Int32), S) else (if (S 33 x1.toNatClampNeg) ≤ 0 then gw_let (gw_up S 31 x1.toNatClampNeg x2) (fun S10 => gw_let (gw_up S10 32 x1.toNatClampNeg (-1 : Int32)) (fun S12 => some ((1 : Int32), S12))) else some ((-2 : Int32), S))))))))
abbrev rm_X9_off : Room := { frames := 2, cells := 0, slots := 0, locals := 80 }
def f_X9_postOf (x1 : Int32) (x2 : Int32) (S : gw_S) : Option (Int32) := gw_gd (gw_in x1 24) (gw_gd (gw_in x2 30) (gw_gd (gw_in (((9 : Int32) * (S 11 x1.toNatClampNeg)) + (S 28 x2.toNatClampNeg)) 81) (some (S 6 (((9 : Int32) * (S 11 x1.toNatClampNeg)) + (S 28 x2.toNatClampNeg)).toNatClampNeg))))
abbrev rm_X9_postOf : Room := { frames := 0, cells := 0, slots := 0, locals := 0 }
def f_X9_firstAway (x1 : Int32) (x2 : Int32) (S : gw_S) : Option (Int32) := gw_gd (gw_in x2 30) (gw_bd (f_X9_postOf x1 x2 S) (fun r2 => some (((S 27 x2.toNatClampNeg) - (S 3 (0 : Int32).toNatClampNeg)) - r2)))
abbrev rm_X9_firstAway : Room := { frames := 1, cells := 0, slots := 0, locals := 40 }
def f_X9_lastAway (x1 : Int32) (x2 : Int32) (S : gw_S) : Option (Int32) := gw_gd (gw_in x2 30) (gw_bd (f_X9_postOf x1 x2 S) (fun r2 => some (((S 27 x2.toNatClampNeg) + r2) + (S 3 (1 : Int32).toNatClampNeg))))
abbrev rm_X9_lastAway : Room := { frames := 1, cells := 0, slots := 0, locals := 40 }
def f_X9_meet (x1 : Int32) (x2 : Int32) (x3 : Int32) (S : gw_S) : Option (Int32) := gw_bd (f_X9_firstAway x1 x2 S) (fun r1 => gw_bd (f_X9_lastAway x1 x3 S) (fun r3 => (if r3 < r1 then some (0 : Int32) else gw_bd (f_X9_firstAway x1 x3 S) (fun r6 => gw_bd (f_X9_lastAway x1 x2 S) (fun r8 => (if r8 < r6 then some (0 : Int32) else some (1 : Int32)))))))
abbrev rm_X9_meet : Room := { frames := 2, cells := 0, slots := 0, locals := 80 }
def f_X9_isWell (x1 : Int32) (x2 : Int32) (S : gw_S) : Option (Int32) := gw_bd (f_X9_isRetired x1 S) (fun r1 => (if r1 = 0 then gw_gd (gw_in x1 24) ((if (S 17 x1.toNatClampNeg) = 0 then some (1 : Int32) else gw_gd (gw_in x2 30) ((if (S 18 x1.toNatClampNeg) ≤ (S 27 x2.toNatClampNeg) then some (0 : Int32) else some (1 : Int32))))) else some (0 : Int32)))
abbrev rm_X9_isWell : Room := { frames := 1, cells := 0, slots := 0, locals := 40 }
def f_X9_holderOf_b55 (S : gw_S) (K5 : Int32 → Int32 → Int32 → Int32 → Option (Int32)) : Int32 → Int32 → Int32 → Int32 → Option (Int32) := fun v1 v2 v3 v4 => gw_let (v4 + (1 : Int32) : Int32) (fun y1 => K5 v1 v2 v3 y1)
def f_X9_holderOf_b54 (S : gw_S) (K5 : Int32 → Int32 → Int32 → Int32 → Option (Int32)) : Int32 → Int32 → Int32 → Int32 → Option (Int32) := fun v1 v2 v4 t0_ => f_X9_holderOf_b55 S K5 v1 v2 t0_ v4
def f_X9_holderOf_b5 (S : gw_S)  : Nat → Int32 → Int32 → Int32 → Int32 → Option (Int32)
  | 0, _, _, _, _ => none
  | n + 1, v1, v2, v3, v4 => (if (S 0 29) ≤ v4 then some v3 else (if v4 = v2 then f_X9_holderOf_b55 S (f_X9_holderOf_b5 S  n) v1 v2 v3 v4 else gw_gd (gw_in v4 30) ((if (S 32 v4.toNatClampNeg) = v1 then gw_bd (f_X9_meet v1 v2 v4 S) (fun r7 => (if r7 = 0 then f_X9_holderOf_b55 S (f_X9_holderOf_b5 S  n) v1 v2 v3 v4 else (if v3 = (-1 : Int32) then f_X9_holderOf_b54 S (f_X9_holderOf_b5 S  n) v1 v2 v4 v4 else f_X9_holderOf_b54 S (f_X9_holderOf_b5 S  n) v1 v2 v4 (-2 : Int32)))) else f_X9_holderOf_b55 S (f_X9_holderOf_b5 S  n) v1 v2 v3 v4))))
def f_X9_holderOf (x1 : Int32) (x2 : Int32) (S : gw_S) : Option (Int32) := f_X9_holderOf_b5 S  gw_F x1 x2 (-1 : Int32) (0 : Int32)
abbrev rm_X9_holderOf : Room := { frames := 3, cells := 0, slots := 0, locals := 120 }
def f_X9_isFree (x1 : Int32) (x2 : Int32) (S : gw_S) : Option (Int32) := gw_bd (f_X9_isWell x1 x2 S) (fun r1 => (if r1 = 0 then some (0 : Int32) else gw_bd (f_X9_holderOf x1 x2 S) (fun r4 => (if r4 = (-1 : Int32) then some (1 : Int32) else some (0 : Int32)))))
abbrev rm_X9_isFree : Room := { frames := 4, cells := 0, slots := 0, locals := 160 }
def f_X9_givenOf_b134 (S : gw_S) (K9 : Int32 → Int32 → Int32 → Int32 → Int32 → Option (Int32)) : Int32 → Int32 → Int32 → Int32 → Int32 → Option (Int32) := fun v1 v2 v3 v4 v5 => gw_let (v5 + (1 : Int32) : Int32) (fun y1 => K9 v1 v2 v3 v4 y1)
def f_X9_givenOf_b127 (S : gw_S) (K9 : Int32 → Int32 → Int32 → Int32 → Int32 → Option (Int32)) : Int32 → Int32 → Int32 → Int32 → Option (Int32) := fun v1 v2 v5 v6 => f_X9_givenOf_b134 S K9 v1 v2 v5 v6 v5
def f_X9_givenOf_b33 (S : gw_S) (K9 : Int32 → Int32 → Int32 → Int32 → Int32 → Option (Int32)) : Int32 → Int32 → Int32 → Int32 → Int32 → Option (Int32) := fun v1 v2 v3 v4 v5 => gw_gd (gw_in v1 30) (gw_bd (f_X9_fitOf v5 (S 25 v1.toNatClampNeg) (S 26 v1.toNatClampNeg) S) (fun r4 => (if r4 = (2 : Int32) then gw_bd (f_X9_isFree v5 v1 S) (fun r7 => (if r7 = 0 then f_X9_givenOf_b134 S K9 v1 v2 v3 v4 v5 else gw_gd (gw_in v5 24) (gw_gd (gw_in (S 8 v5.toNatClampNeg) 6) (gw_bd (f_X9_size ((((S 9 v5.toNatClampNeg) + (S 23 (S 8 v5.toNatClampNeg).toNatClampNeg)) + (S 14 v5.toNatClampNeg)) - (S 25 v1.toNatClampNeg)) S) (fun r12 => gw_bd (f_X9_postOf v5 v1 S) (fun r14 => gw_let ((((16 : Int32) * r12) + r14) : Int32) (fun y16 => (if v3 < 0 then f_X9_givenOf_b127 S K9 v1 v2 v5 y16 else (if v4 ≤ y16 then f_X9_givenOf_b134 S K9 v1 v2 v3 v4 v5 else f_X9_givenOf_b127 S K9 v1 v2 v5 y16))))))))) else f_X9_givenOf_b134 S K9 v1 v2 v3 v4 v5)))
def f_X9_givenOf_b9 (S : gw_S)  : Nat → Int32 → Int32 → Int32 → Int32 → Int32 → Option (Int32)
  | 0, _, _, _, _, _ => none
  | n + 1, v1, v2, v3, v4, v5 => (if (S 0 8) ≤ v5 then some v3 else (if v2 < 0 then f_X9_givenOf_b33 S (f_X9_givenOf_b9 S  n) v1 v2 v3 v4 v5 else gw_gd (gw_in v5 24) ((if (S 10 v5.toNatClampNeg) = v2 then f_X9_givenOf_b33 S (f_X9_givenOf_b9 S  n) v1 v2 v3 v4 v5 else f_X9_givenOf_b134 S (f_X9_givenOf_b9 S  n) v1 v2 v3 v4 v5))))
def f_X9_givenOf (x1 : Int32) (x2 : Int32) (S : gw_S) : Option (Int32) := f_X9_givenOf_b9 S  gw_F x1 x2 (-4 : Int32) (0 : Int32) (0 : Int32)
abbrev rm_X9_givenOf : Room := { frames := 5, cells := 0, slots := 0, locals := 200 }
def f_X9_isOpen (x1 : Int32) (S : gw_S) : Option (Int32) := gw_gd (gw_in x1 30) ((if 0 ≤ (S 32 x1.toNatClampNeg) then some (0 : Int32) else (if 0 ≤ (S 31 x1.toNatClampNeg) then some (0 : Int32) else some (1 : Int32))))
abbrev rm_X9_isOpen : Room := { frames := 0, cells := 0, slots := 0, locals := 0 }
def f_X9_give_b46  : Int32 → Int32 → Int32 → gw_S → Option (Int32 × gw_S) := fun v2 t0_ t1_ S => gw_gd (gw_in t1_ 30) (gw_let (gw_up S 32 t1_.toNatClampNeg t0_) (fun S2 => some (v2, S2)))
def f_X9_give (x1 : Int32) (S : gw_S) : Option (Int32 × gw_S) := gw_bd (f_X9_isThere x1 S) (fun r4 => (if r4 = 0 then some ((-1 : Int32), S) else gw_bd (f_X9_isOpen x1 S) (fun r7 => (if r7 = 0 then some ((-2 : Int32), S) else gw_bd (f_X9_findLies  S) (fun S10 => gw_bd (f_X9_givenOf x1 (-1 : Int32) S10) (fun r12 => (if 0 ≤ r12 then f_X9_give_b46  r12 r12 x1 S10 else f_X9_give_b46  r12 (-1 : Int32) x1 S10)))))))
abbrev rm_X9_give : Room := { frames := 6, cells := 0, slots := 0, locals := 240 }
def f_X9_has (x1 : Int32) (S : gw_S) : Option (Int32) := gw_bd (f_X9_isThere x1 S) (fun r1 => (if r1 = 0 then some (-1 : Int32) else gw_gd (gw_in x1 30) ((if 0 ≤ (S 32 x1.toNatClampNeg) then some (S 32 x1.toNatClampNeg) else some (-4 : Int32)))))
abbrev rm_X9_has : Room := { frames := 2, cells := 0, slots := 0, locals := 80 }
def f_X9_free (x1 : Int32) (x2 : Int32) (S : gw_S) : Option (Int32) := gw_bd (f_X9_isPiece x1 S) (fun r1 => (if r1 = 0 then some (-1 : Int32) else gw_bd (f_X9_isThere x2 S) (fun r4 => (if r4 = 0 then some (-1 : Int32) else gw_bd (f_X9_isFree x1 x2 S) (fun r7 => (if r7 = 0 then some (0 : Int32) else some (1 : Int32)))))))
abbrev rm_X9_free : Room := { frames := 5, cells := 0, slots := 0, locals := 200 }
def f_X9_away (x1 : Int32) (x2 : Int32) (x3 : Int32) (S : gw_S) : Option (Int32) := gw_bd (f_X9_isPiece x1 S) (fun r1 => (if r1 = 0 then some (-1 : Int32) else gw_bd (f_X9_isThere x2 S) (fun r4 => (if r4 = 0 then some (-1 : Int32) else gw_bd (f_X9_in (x3.toInt64) (0 : Int64) (1 : Int64) S) (fun r7 => (if r7 = 0 then some (-1 : Int32) else (if x3 = 0 then gw_bd (f_X9_firstAway x1 x2 S) (fun r13 => some r13) else gw_bd (f_X9_lastAway x1 x2 S) (fun r11 => some r11))))))))
abbrev rm_X9_away : Room := { frames := 2, cells := 0, slots := 0, locals := 80 }
def f_X9_tear_b115 (K63 : Int32 → Int32 → Int32 → Int32 → gw_S → Option (Int32 × gw_S)) : Int32 → Int32 → Int32 → Int32 → gw_S → Option (Int32 × gw_S) := fun v1 v2 v3 v4 S => gw_let (v4 + (1 : Int32) : Int32) (fun y1 => K63 v1 v2 v3 y1 S)
def f_X9_tear_b63  : Nat → Int32 → Int32 → Int32 → Int32 → gw_S → Option (Int32 × gw_S)
  | 0, _, _, _, _, _ => none
  | n + 1, v1, v2, v3, v4, S => (if (S 0 29) ≤ v4 then some (v3, S) else gw_gd (gw_in v4 30) ((if (S 32 v4.toNatClampNeg) = v1 then (if (S 27 v4.toNatClampNeg) < v2 then f_X9_tear_b115 (f_X9_tear_b63  n) v1 v2 v3 v4 S else (if (S 33 v4.toNatClampNeg) = 0 then gw_let (gw_up S 32 v4.toNatClampNeg (-1 : Int32)) (fun S8 => gw_let (v3 + (1 : Int32) : Int32) (fun y10 => f_X9_tear_b115 (f_X9_tear_b63  n) v1 v2 y10 v4 S8)) else f_X9_tear_b115 (f_X9_tear_b63  n) v1 v2 v3 v4 S)) else f_X9_tear_b115 (f_X9_tear_b63  n) v1 v2 v3 v4 S)))
def f_X9_tear_b44  : Int32 → Int32 → gw_S → Option (Int32 × gw_S) := fun v1 v2 S => gw_gd (gw_in v1 24) (gw_let (gw_up S 17 v1.toNatClampNeg (vp_nar .boolean (1 : Int32))) (fun S13 => gw_let (gw_up S13 18 v1.toNatClampNeg v2) (fun S15 => f_X9_tear_b63  gw_F v1 v2 (0 : Int32) (0 : Int32) S15)))
def f_X9_tear (x1 : Int32) (x2 : Int32) (S : gw_S) : Option (Int32 × gw_S) := gw_bd (f_X9_isPiece x1 S) (fun r17 => (if r17 = 0 then some ((-1 : Int32), S) else gw_bd (f_X9_in (x2.toInt64) (0 : Int64) (399 : Int64) S) (fun r20 => (if r20 = 0 then some ((-1 : Int32), S) else gw_gd (gw_in x1 24) ((if (S 17 x1.toNatClampNeg) = 0 then f_X9_tear_b44  x1 x2 S else (if x2 < (S 18 x1.toNatClampNeg) then f_X9_tear_b44  x1 x2 S else some ((-2 : Int32), S))))))))
abbrev rm_X9_tear : Room := { frames := 2, cells := 0, slots := 0, locals := 80 }
def f_X9_mend (x1 : Int32) (S : gw_S) : Option (Int32 × gw_S) := gw_bd (f_X9_isPiece x1 S) (fun r1 => (if r1 = 0 then some ((-1 : Int32), S) else gw_gd (gw_in x1 24) ((if (S 17 x1.toNatClampNeg) = 0 then some ((-2 : Int32), S) else gw_let (gw_up S 17 x1.toNatClampNeg (vp_nar .boolean (0 : Int32))) (fun S6 => some ((1 : Int32), S6))))))
abbrev rm_X9_mend : Room := { frames := 2, cells := 0, slots := 0, locals := 80 }
def f_X9_fromWhom (x1 : Int32) (x2 : Int32) (S : gw_S) : Option (Int32) := gw_gd (gw_in x2 30) (gw_bd (f_X9_fitOf x1 (S 25 x2.toNatClampNeg) (S 26 x2.toNatClampNeg) S) (fun r2 => (if r2 = (2 : Int32) then gw_bd (f_X9_isWell x1 x2 S) (fun r5 => (if r5 = 0 then some (-1 : Int32) else gw_bd (f_X9_holderOf x1 x2 S) (fun r8 => (if r8 < 0 then some (-1 : Int32) else gw_gd (gw_in r8 30) ((if (S 33 r8.toNatClampNeg) = 0 then some r8 else some (-1 : Int32))))))) else some (-1 : Int32))))
abbrev rm_X9_fromWhom : Room := { frames := 4, cells := 0, slots := 0, locals := 160 }
def f_X9_findFar_b128 (K40 : Int32 → gw_S → Option (gw_S)) (K48 : Int32 → Int32 → gw_S → Option (gw_S)) (K58 : Int32 → Int32 → Int32 → gw_S → Option (gw_S)) : Int32 → Int32 → Int32 → gw_S → Option (gw_S) := fun v1 v2 v3 S => gw_let (v3 + (1 : Int32) : Int32) (fun y1 => K58 v1 v2 y1 S)
def f_X9_findFar_b86 (K40 : Int32 → gw_S → Option (gw_S)) (K48 : Int32 → Int32 → gw_S → Option (gw_S)) (K58 : Int32 → Int32 → Int32 → gw_S → Option (gw_S)) : Int32 → Int32 → Int32 → Int32 → gw_S → Option (gw_S) := fun v1 v2 v3 t0_ S => (if t0_ < 0 then f_X9_findFar_b128 K40 K48 K58 v1 v2 v3 S else gw_gd (gw_in t0_ 30) (gw_gd (gw_in v2 30) ((if (S 39 v2.toNatClampNeg) ≤ ((S 39 t0_.toNatClampNeg) + (1 : Int32)) then f_X9_findFar_b128 K40 K48 K58 v1 v2 v3 S else gw_let (gw_up S 39 v2.toNatClampNeg ((S 39 t0_.toNatClampNeg) + (1 : Int32))) (fun S7 => f_X9_findFar_b128 K40 K48 K58 (1 : Int32) v2 v3 S7)))))
def f_X9_findFar_b58 (K40 : Int32 → gw_S → Option (gw_S)) (K48 : Int32 → Int32 → gw_S → Option (gw_S)) : Nat → Int32 → Int32 → Int32 → gw_S → Option (gw_S)
  | 0, _, _, _, _ => none
  | n + 1, v1, v2, v3, S => (if (S 0 8) ≤ v3 then gw_let (v2 + (1 : Int32) : Int32) (fun y10 => K48 v1 y10 S) else gw_gd (gw_in v2 30) ((if (S 39 v2.toNatClampNeg) ≤ (1 : Int32) then f_X9_findFar_b86 K40 K48 (f_X9_findFar_b58 K40 K48 n) v1 v2 v3 (-1 : Int32) S else gw_bd (f_X9_fromWhom v3 v2 S) (fun r14 => f_X9_findFar_b86 K40 K48 (f_X9_findFar_b58 K40 K48 n) v1 v2 v3 r14 S))))
def f_X9_findFar_b48 (K40 : Int32 → gw_S → Option (gw_S)) : Nat → Int32 → Int32 → gw_S → Option (gw_S)
  | 0, _, _, _ => none
  | n + 1, v1, v2, S => (if (S 0 29) ≤ v2 then K40 v1 S else f_X9_findFar_b58 K40 (f_X9_findFar_b48 K40 n) gw_F v1 v2 (0 : Int32) S)
def f_X9_findFar_b40  : Nat → Int32 → gw_S → Option (gw_S)
  | 0, _, _ => none
  | n + 1, v1, S => (if v1 = 0 then some S else f_X9_findFar_b48 (f_X9_findFar_b40  n) gw_F (0 : Int32) (0 : Int32) S)
def f_X9_findFar_b31 (K2 : Int32 → gw_S → Option (gw_S)) : Int32 → Int32 → Int32 → gw_S → Option (gw_S) := fun v1 t0_ t1_ S => gw_gd (gw_in t1_ 30) (gw_let (gw_up S 39 t1_.toNatClampNeg t0_) (fun S19 => gw_let (v1 + (1 : Int32) : Int32) (fun y21 => K2 y21 S19)))
def f_X9_findFar_b2  : Nat → Int32 → gw_S → Option (gw_S)
  | 0, _, _ => none
  | n + 1, v1, S => (if (S 0 29) ≤ v1 then f_X9_findFar_b40  gw_F (1 : Int32) S else gw_bd (f_X9_givenOf v1 (-1 : Int32) S) (fun r24 => (if r24 < 0 then f_X9_findFar_b31 (f_X9_findFar_b2  n) v1 (1000 : Int32) v1 S else f_X9_findFar_b31 (f_X9_findFar_b2  n) v1 (1 : Int32) v1 S)))
def f_X9_findFar  (S : gw_S) : Option (gw_S) := f_X9_findFar_b2  gw_F (0 : Int32) S
abbrev rm_X9_findFar : Room := { frames := 6, cells := 0, slots := 0, locals := 240 }
def f_X9_isInChain_b31 (S : gw_S) (K5 : Int32 → Int32 → Int32 → Int32 → Option (Int32)) : Int32 → Int32 → Int32 → Int32 → Option (Int32) := fun v1 v2 v4 t0_ => gw_let (v4 + (1 : Int32) : Int32) (fun y1 => K5 v1 v2 t0_ y1)
def f_X9_isInChain_b26 (S : gw_S) (K5 : Int32 → Int32 → Int32 → Int32 → Option (Int32)) : Int32 → Int32 → Int32 → Option (Int32) := fun v1 v2 v4 => f_X9_isInChain_b31 S K5 v1 v2 v4 (1 : Int32)
def f_X9_isInChain_b5 (S : gw_S)  : Nat → Int32 → Int32 → Int32 → Int32 → Option (Int32)
  | 0, _, _, _, _ => none
  | n + 1, v1, v2, v3, v4 => (if v2 < v4 then gw_gd (v3 = 0 ∨ v3 = 1) (some v3) else (if v3 = 0 then gw_gd (gw_in v4 8) ((if (S 40 v4.toNatClampNeg) = v1 then f_X9_isInChain_b26 S (f_X9_isInChain_b5 S  n) v1 v2 v4 else f_X9_isInChain_b31 S (f_X9_isInChain_b5 S  n) v1 v2 v4 (0 : Int32))) else f_X9_isInChain_b26 S (f_X9_isInChain_b5 S  n) v1 v2 v4))
def f_X9_isInChain (x1 : Int32) (x2 : Int32) (S : gw_S) : Option (Int32) := f_X9_isInChain_b5 S  gw_F x1 x2 (0 : Int32) (0 : Int32)
abbrev rm_X9_isInChain : Room := { frames := 0, cells := 0, slots := 0, locals := 0 }
def f_X9_isTakenBy_b31 (S : gw_S) (K5 : Int32 → Int32 → Int32 → Int32 → Option (Int32)) : Int32 → Int32 → Int32 → Int32 → Option (Int32) := fun v1 v2 v4 t0_ => gw_let (v4 + (1 : Int32) : Int32) (fun y1 => K5 v1 v2 t0_ y1)
def f_X9_isTakenBy_b26 (S : gw_S) (K5 : Int32 → Int32 → Int32 → Int32 → Option (Int32)) : Int32 → Int32 → Int32 → Option (Int32) := fun v1 v2 v4 => f_X9_isTakenBy_b31 S K5 v1 v2 v4 (1 : Int32)
def f_X9_isTakenBy_b5 (S : gw_S)  : Nat → Int32 → Int32 → Int32 → Int32 → Option (Int32)
  | 0, _, _, _, _ => none
  | n + 1, v1, v2, v3, v4 => (if v2 ≤ v4 then gw_gd (v3 = 0 ∨ v3 = 1) (some v3) else (if v3 = 0 then gw_gd (gw_in v4 8) ((if (S 41 v4.toNatClampNeg) = v1 then f_X9_isTakenBy_b26 S (f_X9_isTakenBy_b5 S  n) v1 v2 v4 else f_X9_isTakenBy_b31 S (f_X9_isTakenBy_b5 S  n) v1 v2 v4 (0 : Int32))) else f_X9_isTakenBy_b26 S (f_X9_isTakenBy_b5 S  n) v1 v2 v4))
def f_X9_isTakenBy (x1 : Int32) (x2 : Int32) (S : gw_S) : Option (Int32) := f_X9_isTakenBy_b5 S  gw_F x1 x2 (0 : Int32) (0 : Int32)
abbrev rm_X9_isTakenBy : Room := { frames := 0, cells := 0, slots := 0, locals := 0 }
def f_X9_canTake (x1 : Int32) (x2 : Int32) (x3 : Int32) (S : gw_S) : Option (Int32) := gw_gd (gw_in x2 8) (gw_let ((S 40 x2.toNatClampNeg) : Int32) (fun y2 => gw_bd (f_X9_isTakenBy x1 x2 S) (fun r4 => (if r4 = 0 then (if x2 = (x3 - (1 : Int32)) then gw_gd (gw_in y2 30) (gw_bd (f_X9_fitOf x1 (S 25 y2.toNatClampNeg) (S 26 y2.toNatClampNeg) S) (fun r17 => (if r17 = (2 : Int32) then gw_bd (f_X9_isFree x1 y2 S) (fun r20 => (if r20 = 0 then some (0 : Int32) else some (1 : Int32))) else some (0 : Int32)))) else gw_bd (f_X9_fromWhom x1 y2 S) (fun r8 => (if r8 < 0 then some (0 : Int32) else gw_bd (f_X9_isInChain r8 x2 S) (fun r11 => (if r11 = 0 then gw_gd (gw_in r8 30) ((if ((x3 - (1 : Int32)) - x2) < (S 39 r8.toNatClampNeg) then some (0 : Int32) else some (1 : Int32))) else some (0 : Int32)))))) else some (0 : Int32)))))
abbrev rm_X9_canTake : Room := { frames := 5, cells := 0, slots := 0, locals := 200 }
def f_X9_findChainOf_b126  : Int32 → Int32 → gw_S → Option (Int32 × gw_S) := fun v2 v3 S => (if v3 = v2 then some ((1 : Int32), S) else some ((0 : Int32), S))
def f_X9_findChainOf_b123 (K12 : Int32 → Int32 → Int32 → gw_S → Option (Int32 × gw_S)) : Int32 → Int32 → Int32 → gw_S → Option (Int32 × gw_S) := fun v2 v3 v4 S => K12 v2 v3 v4 S
def f_X9_findChainOf_b121 (K12 : Int32 → Int32 → Int32 → gw_S → Option (Int32 × gw_S)) : Int32 → Int32 → Int32 → gw_S → Option (Int32 × gw_S) := fun v2 v3 t0_ S => f_X9_findChainOf_b123 K12 v2 v3 t0_ S
def f_X9_findChainOf_b96 (K12 : Int32 → Int32 → Int32 → gw_S → Option (Int32 × gw_S)) : Int32 → Int32 → gw_S → Option (Int32 × gw_S) := fun v2 v3 S => f_X9_findChainOf_b123 K12 v2 v3 (0 : Int32) S
def f_X9_findChainOf_b51 (K12 : Int32 → Int32 → Int32 → gw_S → Option (Int32 × gw_S)) : Int32 → Int32 → Int32 → gw_S → Option (Int32 × gw_S) := fun v2 v3 v5 S => (if (S 0 8) ≤ v5 then gw_let (v3 + (-1 : Int32) : Int32) (fun y3 => (if y3 < 0 then f_X9_findChainOf_b121 K12 v2 y3 (0 : Int32) S else gw_gd (gw_in y3 8) (f_X9_findChainOf_b121 K12 v2 y3 ((S 41 y3.toNatClampNeg) + (1 : Int32)) S))) else gw_gd (gw_in v3 8) (gw_let (gw_up S 41 v3.toNatClampNeg v5) (fun S8 => gw_let (v3 + (1 : Int32) : Int32) (fun y10 => (if v2 ≤ y10 then f_X9_findChainOf_b96 K12 v2 y10 S8 else gw_gd (gw_in (y10 - (1 : Int32)) 8) (gw_bd (f_X9_fromWhom v5 (S8 40 (y10 - (1 : Int32)).toNatClampNeg) S8) (fun r14 => gw_gd (gw_in y10 8) (gw_let (gw_up S8 40 y10.toNatClampNeg r14) (fun S17 => f_X9_findChainOf_b96 K12 v2 y10 S17)))))))))
def f_X9_findChainOf_b25 (K12 : Int32 → Int32 → Int32 → gw_S → Option (Int32 × gw_S)) : Nat → Int32 → Int32 → Int32 → gw_S → Option (Int32 × gw_S)
  | 0, _, _, _, _ => none
  | n + 1, v2, v3, v5, S => (if (S 0 8) ≤ v5 then f_X9_findChainOf_b51 K12 v2 v3 v5 S else gw_bd (f_X9_canTake v5 v3 v2 S) (fun r20 => (if r20 = 0 then gw_let (v5 + (1 : Int32) : Int32) (fun y23 => (f_X9_findChainOf_b25 K12 n) v2 v3 y23 S) else f_X9_findChainOf_b51 K12 v2 v3 v5 S)))
def f_X9_findChainOf_b12  : Nat → Int32 → Int32 → Int32 → gw_S → Option (Int32 × gw_S)
  | 0, _, _, _, _ => none
  | n + 1, v2, v3, v4, S => (if v3 < 0 then f_X9_findChainOf_b126  v2 v3 S else (if v2 ≤ v3 then f_X9_findChainOf_b126  v2 v3 S else f_X9_findChainOf_b25 (f_X9_findChainOf_b12  n) gw_F v2 v3 v4 S))
def f_X9_findChainOf (x1 : Int32) (x2 : Int32) (S : gw_S) : Option (Int32 × gw_S) := gw_let (gw_up S 40 (0 : Int32).toNatClampNeg x1) (fun S27 => f_X9_findChainOf_b12  gw_F x2 (0 : Int32) (0 : Int32) S27)
abbrev rm_X9_findChainOf : Room := { frames := 6, cells := 0, slots := 0, locals := 240 }
def f_X9_findChain_b44 (K10 : Int32 → Int32 → gw_S → Option (Int32 × gw_S)) : Int32 → Int32 → gw_S → Option (Int32 × gw_S) := fun v1 v2 S => gw_let (v2 + (1 : Int32) : Int32) (fun y1 => K10 v1 y1 S)
def f_X9_findChain_b10  : Nat → Int32 → Int32 → gw_S → Option (Int32 × gw_S)
  | 0, _, _, _ => none
  | n + 1, v1, v2, S => (if ((S 3 (7 : Int32).toNatClampNeg) + (1 : Int32)) < v2 then some ((-4 : Int32), S) else gw_gd (gw_in v1 30) ((if v2 < (S 39 v1.toNatClampNeg) then f_X9_findChain_b44 (f_X9_findChain_b10  n) v1 v2 S else gw_b2 (f_X9_findChainOf v1 v2 S) (fun r6 S7 => (if r6 = 0 then f_X9_findChain_b44 (f_X9_findChain_b10  n) v1 v2 S7 else some (v2, S7))))))
def f_X9_findChain (x1 : Int32) (S : gw_S) : Option (Int32 × gw_S) := gw_bd (f_X9_findLies  S) (fun S10 => gw_bd (f_X9_findFar  S10) (fun S12 => f_X9_findChain_b10  gw_F x1 (1 : Int32) S12))
abbrev rm_X9_findChain : Room := { frames := 7, cells := 0, slots := 0, locals := 280 }
def f_X9_chain (x1 : Int32) (S : gw_S) : Option (Int32 × gw_S) := gw_bd (f_X9_isThere x1 S) (fun r1 => (if r1 = 0 then some ((-1 : Int32), S) else gw_bd (f_X9_isOpen x1 S) (fun r4 => (if r4 = 0 then some ((-2 : Int32), S) else gw_b2 (f_X9_findChain x1 S) (fun r7 S8 => some (r7, S8))))))
abbrev rm_X9_chain : Room := { frames := 8, cells := 0, slots := 0, locals := 320 }
def f_X9_link (x1 : Int32) (x2 : Int32) (x3 : Int32) (S : gw_S) : Option (Int32 × gw_S) := gw_bd (f_X9_isThere x1 S) (fun r1 => (if r1 = 0 then some ((-1 : Int32), S) else (if x2 < 0 then some ((-1 : Int32), S) else gw_bd (f_X9_in (x3.toInt64) (0 : Int64) (1 : Int64) S) (fun r5 => (if r5 = 0 then some ((-1 : Int32), S) else gw_bd (f_X9_isOpen x1 S) (fun r8 => (if r8 = 0 then some ((-2 : Int32), S) else gw_b2 (f_X9_findChain x1 S) (fun r11 S12 => (if 0 ≤ r11 then (if x2 < r11 then (if x3 = 0 then gw_gd (gw_in x2 8) (some ((S12 40 x2.toNatClampNeg), S12)) else gw_gd (gw_in x2 8) (some ((S12 41 x2.toNatClampNeg), S12))) else some ((-1 : Int32), S12)) else some ((-4 : Int32), S12))))))))))
abbrev rm_X9_link : Room := { frames := 8, cells := 0, slots := 0, locals := 320 }
def f_X9_swap_b29  : Nat → Int32 → Int32 → gw_S → Option (Int32 × gw_S)
  | 0, _, _, _ => none
  | n + 1, v2, v3, S => (if v2 ≤ v3 then some (v2, S) else gw_gd (gw_in v3 8) (gw_gd (gw_in (S 40 v3.toNatClampNeg) 30) (gw_let (gw_up S 32 (S 40 v3.toNatClampNeg).toNatClampNeg (S 41 v3.toNatClampNeg)) (fun S4 => gw_let (v3 + (1 : Int32) : Int32) (fun y6 => (f_X9_swap_b29  n) v2 y6 S4)))))
def f_X9_swap (x1 : Int32) (S : gw_S) : Option (Int32 × gw_S) := gw_bd (f_X9_isThere x1 S) (fun r8 => (if r8 = 0 then some ((-1 : Int32), S) else gw_bd (f_X9_isOpen x1 S) (fun r11 => (if r11 = 0 then some ((-2 : Int32), S) else gw_b2 (f_X9_findChain x1 S) (fun r14 S15 => f_X9_swap_b29  gw_F r14 (0 : Int32) S15)))))
abbrev rm_X9_swap : Room := { frames := 8, cells := 0, slots := 0, locals := 320 }
def f_X9_matchOf_b143  : Nat → Int32 → Int32 → gw_S → Option (Int32 × gw_S)
  | 0, _, _, _ => none
  | n + 1, v3, v4, S => (if (S 0 29) ≤ v4 then some (v3, S) else gw_gd (gw_in v4 30) (gw_let (gw_up S 32 v4.toNatClampNeg (S 42 v4.toNatClampNeg)) (fun S3 => gw_let (v4 + (1 : Int32) : Int32) (fun y5 => (f_X9_matchOf_b143  n) v3 y5 S3))))
def f_X9_matchOf_b134 (K33 : Int32 → Int32 → Int32 → Int32 → gw_S → Option (Int32 × gw_S)) : Int32 → Int32 → Int32 → Int32 → gw_S → Option (Int32 × gw_S) := fun v1 v2 v3 v4 S => gw_let (v4 + (1 : Int32) : Int32) (fun y7 => K33 v1 v2 v3 y7 S)
def f_X9_matchOf_b132 (K33 : Int32 → Int32 → Int32 → Int32 → gw_S → Option (Int32 × gw_S)) : Int32 → Int32 → Int32 → Int32 → Int32 → gw_S → Option (Int32 × gw_S) := fun v1 v2 v4 t0_ t1_ S => gw_let ((t1_ + t0_) : Int32) (fun y9 => f_X9_matchOf_b134 K33 v1 v2 y9 v4 S)
def f_X9_matchOf_b131 (K33 : Int32 → Int32 → Int32 → Int32 → gw_S → Option (Int32 × gw_S)) : Int32 → Int32 → Int32 → Int32 → gw_S → Option (Int32 × gw_S) := fun v1 v2 v4 t0_ S => f_X9_matchOf_b132 K33 v1 v2 v4 (0 : Int32) t0_ S
def f_X9_matchOf_b100 (K33 : Int32 → Int32 → Int32 → Int32 → gw_S → Option (Int32 × gw_S)) : Int32 → Int32 → Int32 → Int32 → gw_S → Option (Int32 × gw_S) := fun v1 v2 v3 v4 S => gw_gd (gw_in v4 30) ((if (S 32 v4.toNatClampNeg) < 0 then f_X9_matchOf_b131 K33 v1 v2 v4 v3 S else gw_gd (gw_in (S 32 v4.toNatClampNeg) 24) ((if (S 10 (S 32 v4.toNatClampNeg).toNatClampNeg) = v2 then f_X9_matchOf_b132 K33 v1 v2 v4 (1 : Int32) v3 S else f_X9_matchOf_b131 K33 v1 v2 v4 v3 S))))
def f_X9_matchOf_b99 (K33 : Int32 → Int32 → Int32 → Int32 → gw_S → Option (Int32 × gw_S)) : Int32 → Int32 → Int32 → Int32 → Int32 → Int32 → gw_S → Option (Int32 × gw_S) := fun v1 v2 v3 v4 t0_ t1_ S => gw_gd (gw_in t1_ 30) (gw_let (gw_up S 32 t1_.toNatClampNeg t0_) (fun S16 => f_X9_matchOf_b100 K33 v1 v2 v3 v4 S16))
def f_X9_matchOf_b33  : Nat → Int32 → Int32 → Int32 → Int32 → gw_S → Option (Int32 × gw_S)
  | 0, _, _, _, _, _ => none
  | n + 1, v1, v2, v3, v4, S => (if (S 0 29) ≤ v4 then f_X9_matchOf_b143  gw_F v3 (0 : Int32) S else gw_gd (gw_in v4 30) ((if (S 30 v4.toNatClampNeg) = v1 then (if 0 ≤ (S 31 v4.toNatClampNeg) then f_X9_matchOf_b134 (f_X9_matchOf_b33  n) v1 v2 v3 v4 S else (if 0 ≤ (S 32 v4.toNatClampNeg) then f_X9_matchOf_b100 (f_X9_matchOf_b33  n) v1 v2 v3 v4 S else gw_bd (f_X9_givenOf v4 v2 S) (fun r23 => (if 0 ≤ r23 then f_X9_matchOf_b99 (f_X9_matchOf_b33  n) v1 v2 v3 v4 r23 v4 S else f_X9_matchOf_b99 (f_X9_matchOf_b33  n) v1 v2 v3 v4 (-1 : Int32) v4 S)))) else f_X9_matchOf_b134 (f_X9_matchOf_b33  n) v1 v2 v3 v4 S)))
def f_X9_matchOf_b2  : Nat → Int32 → Int32 → Int32 → gw_S → Option (Int32 × gw_S)
  | 0, _, _, _, _ => none
  | n + 1, v1, v2, v3, S => (if (S 0 29) ≤ v3 then f_X9_matchOf_b33  gw_F v1 v2 (0 : Int32) (0 : Int32) S else gw_gd (gw_in v3 30) (gw_let (gw_up S 42 v3.toNatClampNeg (S 32 v3.toNatClampNeg)) (fun S28 => gw_let (v3 + (1 : Int32) : Int32) (fun y30 => (f_X9_matchOf_b2  n) v1 v2 y30 S28))))
def f_X9_matchOf (x1 : Int32) (x2 : Int32) (S : gw_S) : Option (Int32 × gw_S) := f_X9_matchOf_b2  gw_F x1 x2 (0 : Int32) S
abbrev rm_X9_matchOf : Room := { frames := 6, cells := 0, slots := 0, locals := 240 }
def f_X9_match_b126 (K95 : Int32 → Int32 → Int32 → Int32 → Int32 → Int32 → gw_S → Option (Int32 × gw_S)) : Int32 → Int32 → Int32 → Int32 → Int32 → Int32 → gw_S → Option (Int32 × gw_S) := fun v1 v2 v3 v4 v5 v6 S => gw_let (v6 + (1 : Int32) : Int32) (fun y1 => K95 v1 v2 v3 v4 v5 y1 S)
def f_X9_match_b95  : Nat → Int32 → Int32 → Int32 → Int32 → Int32 → Int32 → gw_S → Option (Int32 × gw_S)
  | 0, _, _, _, _, _, _, _ => none
  | n + 1, v1, v2, v3, v4, v5, v6, S => (if (10 : Int32) ≤ v6 then (if v2 = 0 then some (v4, S) else (if v2 = (1 : Int32) then some (v5, S) else some (v3, S))) else gw_b2 (f_X9_matchOf v1 v6 S) (fun r6 S7 => (if r6 ≤ v5 then f_X9_match_b126 (f_X9_match_b95  n) v1 v2 v3 v4 v5 v6 S7 else f_X9_match_b126 (f_X9_match_b95  n) v1 v2 v3 v6 r6 v6 S7)))
def f_X9_match_b67 (K31 : Int32 → Int32 → Int32 → Int32 → gw_S → Option (Int32 × gw_S)) : Int32 → Int32 → Int32 → Int32 → Int32 → gw_S → Option (Int32 × gw_S) := fun v1 v2 v4 t0_ t1_ S => gw_let ((t1_ + t0_) : Int32) (fun y10 => gw_let (v4 + (1 : Int32) : Int32) (fun y12 => K31 v1 v2 y10 y12 S))
def f_X9_match_b66 (K31 : Int32 → Int32 → Int32 → Int32 → gw_S → Option (Int32 × gw_S)) : Int32 → Int32 → Int32 → Int32 → gw_S → Option (Int32 × gw_S) := fun v1 v2 v4 t0_ S => f_X9_match_b67 K31 v1 v2 v4 (0 : Int32) t0_ S
def f_X9_match_b31  : Nat → Int32 → Int32 → Int32 → Int32 → gw_S → Option (Int32 × gw_S)
  | 0, _, _, _, _, _ => none
  | n + 1, v1, v2, v3, v4, S => (if (S 0 29) ≤ v4 then (if v3 = 0 then some ((-4 : Int32), S) else gw_bd (f_X9_findLies  S) (fun S16 => f_X9_match_b95  gw_F v1 v2 v3 (0 : Int32) (-1 : Int32) (0 : Int32) S16)) else gw_gd (gw_in v4 30) ((if (S 30 v4.toNatClampNeg) = v1 then (if 0 ≤ (S 31 v4.toNatClampNeg) then f_X9_match_b66 (f_X9_match_b31  n) v1 v2 v4 v3 S else f_X9_match_b67 (f_X9_match_b31  n) v1 v2 v4 (1 : Int32) v3 S) else f_X9_match_b66 (f_X9_match_b31  n) v1 v2 v4 v3 S)))
def f_X9_match (x1 : Int32) (x2 : Int32) (S : gw_S) : Option (Int32 × gw_S) := gw_bd (f_X9_in (x1.toInt64) (0 : Int64) (4 : Int64) S) (fun r21 => (if r21 = 0 then some ((-1 : Int32), S) else gw_bd (f_X9_in (x2.toInt64) (0 : Int64) (2 : Int64) S) (fun r24 => (if r24 = 0 then some ((-1 : Int32), S) else f_X9_match_b31  gw_F x1 x2 (0 : Int32) (0 : Int32) S))))
abbrev rm_X9_match : Room := { frames := 7, cells := 0, slots := 0, locals := 280 }
def f_X9_asOf_b113 (S : gw_S) (K30 : Int32 → Int32 → Int32 → Int32 → Int32 → Int32 → Option (Int32)) : Int32 → Int32 → Int32 → Int32 → Int32 → Int32 → Int32 → Option (Int32) := fun v1 v2 v3 v4 v6 t0_ t1_ => gw_let ((t1_ + t0_) : Int32) (fun y1 => gw_let (v6 + (1 : Int32) : Int32) (fun y3 => K30 v1 v2 v3 v4 y1 y3))
def f_X9_asOf_b112 (S : gw_S) (K30 : Int32 → Int32 → Int32 → Int32 → Int32 → Int32 → Option (Int32)) : Int32 → Int32 → Int32 → Int32 → Int32 → Int32 → Option (Int32) := fun v1 v2 v3 v4 v6 t0_ => f_X9_asOf_b113 S K30 v1 v2 v3 v4 v6 (0 : Int32) t0_
def f_X9_asOf_b108 (S : gw_S) (K30 : Int32 → Int32 → Int32 → Int32 → Int32 → Int32 → Option (Int32)) : Int32 → Int32 → Int32 → Int32 → Int32 → Int32 → Option (Int32) := fun v1 v2 v3 v4 v6 t0_ => f_X9_asOf_b113 S K30 v1 v2 v3 v4 v6 (1 : Int32) t0_
def f_X9_asOf_b76 (S : gw_S) (K30 : Int32 → Int32 → Int32 → Int32 → Int32 → Int32 → Option (Int32)) : Int32 → Int32 → Int32 → Int32 → Int32 → Int32 → Int32 → Option (Int32) := fun v1 v2 v3 v4 v5 v6 t0_ => (if t0_ = 0 then f_X9_asOf_b112 S K30 v1 v2 v3 v4 v6 v5 else (if v2 = 0 then f_X9_asOf_b108 S K30 v1 v2 v3 v4 v6 v5 else gw_gd (gw_in v6 30) (gw_bd (f_X9_in ((S 27 v6.toNatClampNeg).toInt64) (v3.toInt64) (v4.toInt64) S) (fun r8 => (if r8 = 0 then f_X9_asOf_b112 S K30 v1 v2 v3 v4 v6 v5 else f_X9_asOf_b108 S K30 v1 v2 v3 v4 v6 v5)))))
def f_X9_asOf_b75 (S : gw_S) (K30 : Int32 → Int32 → Int32 → Int32 → Int32 → Int32 → Option (Int32)) : Int32 → Int32 → Int32 → Int32 → Int32 → Int32 → Option (Int32) := fun v1 v2 v3 v4 v5 v6 => f_X9_asOf_b76 S K30 v1 v2 v3 v4 v5 v6 (0 : Int32)
def f_X9_asOf_b71 (S : gw_S) (K30 : Int32 → Int32 → Int32 → Int32 → Int32 → Int32 → Option (Int32)) : Int32 → Int32 → Int32 → Int32 → Int32 → Int32 → Option (Int32) := fun v1 v2 v3 v4 v5 v6 => f_X9_asOf_b76 S K30 v1 v2 v3 v4 v5 v6 (1 : Int32)
def f_X9_asOf_b30 (S : gw_S)  : Nat → Int32 → Int32 → Int32 → Int32 → Int32 → Int32 → Option (Int32)
  | 0, _, _, _, _, _, _ => none
  | n + 1, v1, v2, v3, v4, v5, v6 => (if (S 0 29) ≤ v6 then some v5 else gw_gd (gw_in v6 30) ((if v1 < (S 29 v6.toNatClampNeg) then f_X9_asOf_b75 S (f_X9_asOf_b30 S  n) v1 v2 v3 v4 v5 v6 else (if (S 31 v6.toNatClampNeg) < 0 then f_X9_asOf_b71 S (f_X9_asOf_b30 S  n) v1 v2 v3 v4 v5 v6 else (if (S 31 v6.toNatClampNeg) ≤ v1 then f_X9_asOf_b75 S (f_X9_asOf_b30 S  n) v1 v2 v3 v4 v5 v6 else f_X9_asOf_b71 S (f_X9_asOf_b30 S  n) v1 v2 v3 v4 v5 v6)))))
def f_X9_asOf (x1 : Int32) (x2 : Int32) (x3 : Int32) (x4 : Int32) (S : gw_S) : Option (Int32) := gw_bd (f_X9_in (x1.toInt64) (0 : Int64) (399 : Int64) S) (fun r16 => (if r16 = 0 then some (-1 : Int32) else gw_bd (f_X9_in (x2.toInt64) (0 : Int64) (1 : Int64) S) (fun r19 => (if r19 = 0 then some (-1 : Int32) else f_X9_asOf_b30 S  gw_F x1 x2 x3 x4 (0 : Int32) (0 : Int32)))))
abbrev rm_X9_asOf : Room := { frames := 1, cells := 0, slots := 0, locals := 40 }
def f_X9_ones_b4 (S : gw_S)  : Nat → Int32 → Int32 → Option (Int32)
  | 0, _, _ => none
  | n + 1, v1, v2 => (if v2 = 0 then some v1 else gw_let (v1 + (1 : Int32) : Int32) (fun y2 => gw_let ((v2 &&& (v2 - (1 : Int32))) : Int32) (fun y4 => (f_X9_ones_b4 S  n) y2 y4)))
def f_X9_ones (x0 : Int32) (S : gw_S) : Option (Int32) := f_X9_ones_b4 S  gw_F (0 : Int32) x0
abbrev rm_X9_ones : Room := { frames := 0, cells := 0, slots := 0, locals := 0 }
def f_X9_out (x1 : Int32) (x2 : Int32) (S : gw_S) : Option (Int32 × gw_S) := gw_bd (f_X9_isThere x1 S) (fun r1 => (if r1 = 0 then some ((-1 : Int32), S) else gw_bd (f_X9_in (x2.toInt64) (0 : Int64) (4095 : Int64) S) (fun r4 => (if r4 = 0 then some ((-1 : Int32), S) else gw_gd (gw_in x1 30) ((if (S 32 x1.toNatClampNeg) < 0 then some ((-2 : Int32), S) else (if (S 33 x1.toNatClampNeg) ≤ 0 then gw_let (gw_up S 33 x1.toNatClampNeg (1 : Int32)) (fun S10 => gw_let (gw_up S10 34 x1.toNatClampNeg x2) (fun S12 => gw_gd (gw_in (S12 32 x1.toNatClampNeg) 24) (gw_let (gw_up S12 35 x1.toNatClampNeg (((S12 12 (S12 32 x1.toNatClampNeg).toNatClampNeg) * (S12 3 (3 : Int32).toNatClampNeg)) / (100 : Int32))) (fun S15 => some ((S15 35 x1.toNatClampNeg), S15))))) else some ((-2 : Int32), S))))))))
abbrev rm_X9_out : Room := { frames := 2, cells := 0, slots := 0, locals := 80 }
def f_X9_home_b234  : Int32 → Int32 → Int32 → Int32 → gw_S → Option (Int32 × gw_S) := fun v1 t0_ t1_ t2_ S => gw_gd (gw_in t2_ 30) (gw_let (gw_up S 38 t2_.toNatClampNeg (t1_ + t0_)) (fun S2 => gw_gd (gw_in v1 30) (some (((S2 38 v1.toNatClampNeg) - (S2 35 v1.toNatClampNeg)), S2))))
def f_X9_home_b201  : Int32 → Int32 → Int32 → Int32 → gw_S → Option (Int32 × gw_S) := fun v1 v3 t0_ t1_ S => gw_gd (gw_in t1_ 30) (gw_let (gw_up S 37 t1_.toNatClampNeg t0_) (fun S6 => gw_gd (gw_in v1 30) ((if 0 ≤ v3 then f_X9_home_b234  v1 (S6 37 v1.toNatClampNeg) ((S6 3 (2 : Int32).toNatClampNeg) * (S6 36 v1.toNatClampNeg)) v1 S6 else f_X9_home_b234  v1 (0 : Int32) ((S6 3 (2 : Int32).toNatClampNeg) * (S6 36 v1.toNatClampNeg)) v1 S6))))
def f_X9_home_b152  : Int32 → Int32 → Int32 → gw_S → Option (Int32 × gw_S) := fun v1 v3 t0_ S => (if 0 ≤ v3 then gw_bd (f_X9_ones (t0_ &&& (255 : Int32)) S) (fun r11 => gw_bd (f_X9_ones (t0_ >>> ((8 : Int32) &&& 31)) S) (fun r13 => f_X9_home_b201  v1 v3 ((r11 * (S 3 (5 : Int32).toNatClampNeg)) + (r13 * (S 3 (6 : Int32).toNatClampNeg))) v1 S)) else f_X9_home_b201  v1 v3 (-4 : Int32) v1 S)
def f_X9_home_b133  : Int32 → Int32 → Int32 → Int32 → gw_S → Option (Int32 × gw_S) := fun v1 v3 t0_ t1_ S => gw_gd (gw_in t1_ 30) (gw_let (gw_up S 36 t1_.toNatClampNeg t0_) (fun S16 => (if 0 ≤ v3 then gw_gd (gw_in v1 30) (f_X9_home_b152  v1 v3 (v3 &&& ((S16 34 v1.toNatClampNeg) ^^^ (-1 : Int32))) S16) else f_X9_home_b152  v1 v3 (0 : Int32) S16)))
def f_X9_home_b66  : Int32 → Int32 → Int32 → Int32 → gw_S → Option (Int32 × gw_S) := fun v1 v2 v3 v4 S => gw_gd (gw_in v1 30) ((if (S 33 v1.toNatClampNeg) = (1 : Int32) then gw_let (gw_up S 33 v1.toNatClampNeg (2 : Int32)) (fun S22 => gw_gd (gw_in v4 24) (gw_let (gw_up S22 15 v4.toNatClampNeg ((S22 15 v4.toNatClampNeg) + (1 : Int32))) (fun S25 => gw_bd (f_X9_postOf v4 v1 S25) (fun r27 => gw_let (((S25 27 v1.toNatClampNeg) + r27) : Int32) (fun y29 => (if v2 ≤ y29 then f_X9_home_b133  v1 v3 (0 : Int32) v1 S25 else f_X9_home_b133  v1 v3 (v2 - y29) v1 S25)))))) else some ((-1000002 : Int32), S)))
def f_X9_home (x1 : Int32) (x2 : Int32) (x3 : Int32) (S : gw_S) : Option (Int32 × gw_S) := gw_bd (f_X9_isThere x1 S) (fun r32 => (if r32 = 0 then some ((-1000001 : Int32), S) else gw_bd (f_X9_in (x2.toInt64) (0 : Int64) (399 : Int64) S) (fun r35 => (if r35 = 0 then some ((-1000001 : Int32), S) else gw_bd (f_X9_in (x3.toInt64) (-1 : Int64) (4095 : Int64) S) (fun r38 => (if r38 = 0 then some ((-1000001 : Int32), S) else gw_gd (gw_in x1 30) (gw_let ((S 32 x1.toNatClampNeg) : Int32) (fun y42 => (if y42 < 0 then f_X9_home_b66  x1 x2 x3 y42 S else gw_bd (f_X9_firstAway y42 x1 S) (fun r45 => (if r45 ≤ x2 then f_X9_home_b66  x1 x2 x3 y42 S else some ((-1000001 : Int32), S))))))))))))
abbrev rm_X9_home : Room := { frames := 2, cells := 0, slots := 0, locals := 80 }
def f_X9_about_b50 (S : gw_S)  : Int32 → Int32 → Option (Int32) := fun v1 v2 => (if v2 = 0 then gw_gd (gw_in v1 30) (some (S 33 v1.toNatClampNeg)) else (if v2 = (1 : Int32) then gw_gd (gw_in v1 30) (some (S 35 v1.toNatClampNeg)) else (if v2 = (2 : Int32) then gw_gd (gw_in v1 30) (some (S 36 v1.toNatClampNeg)) else (if v2 = (3 : Int32) then gw_gd (gw_in v1 30) (some (S 37 v1.toNatClampNeg)) else gw_gd (gw_in v1 30) (some (S 38 v1.toNatClampNeg))))))
def f_X9_about_b33 (S : gw_S)  : Int32 → Int32 → Option (Int32) := fun v1 v2 => (if v2 ≤ (1 : Int32) then f_X9_about_b50 S  v1 v2 else gw_gd (gw_in v1 30) ((if (2 : Int32) ≤ (S 33 v1.toNatClampNeg) then f_X9_about_b50 S  v1 v2 else some (-1 : Int32))))
def f_X9_about (x1 : Int32) (x2 : Int32) (S : gw_S) : Option (Int32) := gw_bd (f_X9_isThere x1 S) (fun r13 => (if r13 = 0 then some (-1 : Int32) else gw_bd (f_X9_in (x2.toInt64) (0 : Int64) (4 : Int64) S) (fun r16 => (if r16 = 0 then some (-1 : Int32) else (if x2 ≤ 0 then f_X9_about_b33 S  x1 x2 else gw_gd (gw_in x1 30) ((if (S 33 x1.toNatClampNeg) = 0 then some (-1 : Int32) else f_X9_about_b33 S  x1 x2)))))))
abbrev rm_X9_about : Room := { frames := 2, cells := 0, slots := 0, locals := 80 }
def f_X9_retire (x1 : Int32) (S : gw_S) : Option (Int32 × gw_S) := gw_bd (f_X9_isPiece x1 S) (fun r1 => (if r1 = 0 then some ((-1 : Int32), S) else gw_bd (f_X9_isRetired x1 S) (fun r4 => (if r4 = 0 then gw_gd (gw_in x1 24) (gw_let (gw_up S 16 x1.toNatClampNeg (vp_nar .boolean (1 : Int32))) (fun S8 => gw_bd (f_X9_worthOf x1 S8) (fun r10 => some (r10, S8)))) else some ((-2 : Int32), S)))))
abbrev rm_X9_retire : Room := { frames := 2, cells := 0, slots := 0, locals := 80 }
def f_X9_count_b171 (S : gw_S) (K131 : Int32 → Int32 → Int32 → Option (Int32)) : Int32 → Int32 → Int32 → Int32 → Option (Int32) := fun v1 v3 t0_ t1_ => gw_let ((t1_ + t0_) : Int32) (fun y1 => gw_let (v3 + (1 : Int32) : Int32) (fun y3 => K131 v1 y1 y3))
def f_X9_count_b170 (S : gw_S) (K131 : Int32 → Int32 → Int32 → Option (Int32)) : Int32 → Int32 → Int32 → Option (Int32) := fun v1 v3 t0_ => f_X9_count_b171 S K131 v1 v3 (0 : Int32) t0_
def f_X9_count_b166 (S : gw_S) (K131 : Int32 → Int32 → Int32 → Option (Int32)) : Int32 → Int32 → Int32 → Option (Int32) := fun v1 v3 t0_ => f_X9_count_b171 S K131 v1 v3 (1 : Int32) t0_
def f_X9_count_b131 (S : gw_S)  : Nat → Int32 → Int32 → Int32 → Option (Int32)
  | 0, _, _, _ => none
  | n + 1, v1, v2, v3 => (if (S 0 29) ≤ v3 then some v2 else (if v1 = (5 : Int32) then gw_gd (gw_in v3 30) ((if (S 31 v3.toNatClampNeg) < 0 then f_X9_count_b170 S (f_X9_count_b131 S  n) v1 v3 v2 else f_X9_count_b166 S (f_X9_count_b131 S  n) v1 v3 v2)) else gw_gd (gw_in v3 30) ((if (S 32 v3.toNatClampNeg) < 0 then f_X9_count_b170 S (f_X9_count_b131 S  n) v1 v3 v2 else f_X9_count_b166 S (f_X9_count_b131 S  n) v1 v3 v2))))
def f_X9_count_b129 (S : gw_S)  : Int32 → Int32 → Option (Int32) := fun v1 v2 => f_X9_count_b131 S  gw_F v1 v2 (0 : Int32)
def f_X9_count_b109 (S : gw_S) (K55 : Int32 → Int32 → Int32 → Option (Int32)) : Int32 → Int32 → Int32 → Int32 → Option (Int32) := fun v1 v3 t0_ t1_ => gw_let ((t1_ + t0_) : Int32) (fun y11 => gw_let (v3 + (1 : Int32) : Int32) (fun y13 => K55 v1 y11 y13))
def f_X9_count_b108 (S : gw_S) (K55 : Int32 → Int32 → Int32 → Option (Int32)) : Int32 → Int32 → Int32 → Option (Int32) := fun v1 v3 t0_ => f_X9_count_b109 S K55 v1 v3 (0 : Int32) t0_
def f_X9_count_b104 (S : gw_S) (K55 : Int32 → Int32 → Int32 → Option (Int32)) : Int32 → Int32 → Int32 → Option (Int32) := fun v1 v3 t0_ => f_X9_count_b109 S K55 v1 v3 (1 : Int32) t0_
def f_X9_count_b55 (S : gw_S)  : Nat → Int32 → Int32 → Int32 → Option (Int32)
  | 0, _, _, _ => none
  | n + 1, v1, v2, v3 => (if (S 0 8) ≤ v3 then some v2 else (if v1 = (7 : Int32) then gw_gd (gw_in v3 24) (f_X9_count_b109 S (f_X9_count_b55 S  n) v1 v3 (S 15 v3.toNatClampNeg) v2) else (if v1 = (1 : Int32) then gw_bd (f_X9_isRetired v3 S) (fun r20 => (if r20 = 0 then f_X9_count_b108 S (f_X9_count_b55 S  n) v1 v3 v2 else f_X9_count_b104 S (f_X9_count_b55 S  n) v1 v3 v2)) else gw_gd (gw_in v3 24) ((if (S 17 v3.toNatClampNeg) = 0 then f_X9_count_b108 S (f_X9_count_b55 S  n) v1 v3 v2 else f_X9_count_b104 S (f_X9_count_b55 S  n) v1 v3 v2)))))
def f_X9_count_b53 (S : gw_S)  : Int32 → Int32 → Option (Int32) := fun v1 v2 => f_X9_count_b55 S  gw_F v1 v2 (0 : Int32)
def f_X9_count (x1 : Int32) (S : gw_S) : Option (Int32) := (if x1 = 0 then some (S 0 8) else (if x1 = 1 then f_X9_count_b53 S  x1 (0 : Int32) else (if x1 = 2 then f_X9_count_b53 S  x1 (0 : Int32) else (if x1 = 3 then some (S 0 21) else (if x1 = 4 then some (S 0 29) else (if x1 = 5 then f_X9_count_b129 S  x1 (0 : Int32) else (if x1 = 6 then f_X9_count_b129 S  x1 (0 : Int32) else (if x1 = 7 then f_X9_count_b53 S  x1 (0 : Int32) else some (-1 : Int32)))))))))
abbrev rm_X9_count : Room := { frames := 1, cells := 0, slots := 0, locals := 40 }
def f_X9_isSheet (x0 : Int32) (x1 : Int32) (S : gw_S) : Option (Int32) := gw_bd (f_X9_in (x0.toInt64) (0 : Int64) (3 : Int64) S) (fun r1 => (if r1 = 0 then some (0 : Int32) else gw_bd (f_X9_in (x1.toInt64) (0 : Int64) (2 : Int64) S) (fun r4 => (if r4 = 0 then some (0 : Int32) else some (1 : Int32)))))
abbrev rm_X9_isSheet : Room := { frames := 1, cells := 0, slots := 0, locals := 40 }
def f_X9_sheet_b40  : Nat → Int32 → Int32 → Int32 → gw_S → Option (Int32 × gw_S)
  | 0, _, _, _, _ => none
  | n + 1, v1, v3, v4, S => (if (36 : Int32) ≤ v4 then some (v3, S) else gw_gd (gw_in (((36 : Int32) * v1) + v4) 144) (gw_let (gw_up S 45 (((36 : Int32) * v1) + v4).toNatClampNeg (0 : Int32)) (fun S3 => gw_let (v4 + (1 : Int32) : Int32) (fun y5 => (f_X9_sheet_b40  n) v1 v3 y5 S3))))
def f_X9_sheet (x1 : Int32) (x2 : Int32) (x3 : Int32) (S : gw_S) : Option (Int32 × gw_S) := gw_bd (f_X9_isSheet x1 x2 S) (fun r7 => (if r7 = 0 then some ((-1 : Int32), S) else (if x3 ≤ (36 : Int32) then (if 0 ≤ x3 then gw_gd (gw_in x1 4) (gw_let (gw_up S 43 x1.toNatClampNeg x2) (fun S13 => gw_let (gw_up S13 44 x1.toNatClampNeg x3) (fun S15 => f_X9_sheet_b40  gw_F x1 x3 (0 : Int32) S15))) else some ((-14 : Int32), S)) else some ((-1 : Int32), S))))
abbrev rm_X9_sheet : Room := { frames := 2, cells := 0, slots := 0, locals := 80 }
def f_X9_drop (x1 : Int32) (S : gw_S) : Option (Int32 × gw_S) := gw_bd (f_X9_in (x1.toInt64) (0 : Int64) (3 : Int64) S) (fun r1 => (if r1 = 0 then some ((-1 : Int32), S) else gw_gd (gw_in x1 4) ((if 0 ≤ (S 43 x1.toNatClampNeg) then gw_let (gw_up S 43 x1.toNatClampNeg (-1 : Int32)) (fun S6 => some ((S6 44 x1.toNatClampNeg), S6)) else some ((-11 : Int32), S)))))
abbrev rm_X9_drop : Room := { frames := 1, cells := 0, slots := 0, locals := 40 }
def f_X9_against (x1 : Int32) (x2 : Int32) (x3 : Int32) (x4 : Int32) (S : gw_S) : Option (Int32) := gw_gd (gw_in x1 4) ((if (S 43 x1.toNatClampNeg) = x2 then gw_bd (f_X9_in (x3.toInt64) (0 : Int64) (((S 44 x1.toNatClampNeg) - x4).toInt64) S) (fun r3 => (if r3 = 0 then some (-13 : Int32) else some (0 : Int32))) else (if 0 ≤ (S 43 x1.toNatClampNeg) then some (-12 : Int32) else some (-11 : Int32))))
abbrev rm_X9_against : Room := { frames := 1, cells := 0, slots := 0, locals := 40 }
def f_X9_item_b71  : Int32 → Int32 → gw_S → Option (Int32 × gw_S) := fun t0_ t1_ S => gw_gd (gw_in t1_ 144) (gw_let (gw_up S 45 t1_.toNatClampNeg t0_) (fun S2 => some ((1 : Int32), S2)))
def f_X9_item (x1 : Int32) (x2 : Int32) (x3 : Int32) (x4 : Int32) (S : gw_S) : Option (Int32 × gw_S) := gw_bd (f_X9_isSheet x1 x2 S) (fun r4 => (if r4 = 0 then some ((-1 : Int32), S) else gw_bd (f_X9_against x1 x2 x3 (1 : Int32) S) (fun r7 => (if 0 ≤ r7 then (if x2 = 0 then f_X9_item_b71  ((x4 <<< ((24 : Int32) &&& 31)) >>> ((24 : Int32) &&& 31)) (((36 : Int32) * x1) + x3) S else (if x2 = (1 : Int32) then f_X9_item_b71  ((x4 <<< ((16 : Int32) &&& 31)) >>> ((16 : Int32) &&& 31)) (((36 : Int32) * x1) + x3) S else f_X9_item_b71  x4 (((36 : Int32) * x1) + x3) S)) else some (r7, S)))))
abbrev rm_X9_item : Room := { frames := 2, cells := 0, slots := 0, locals := 80 }
def f_X9_books_b156  : Nat → Int32 → Int32 → Int32 → gw_S → Option (Int32 × gw_S)
  | 0, _, _, _, _ => none
  | n + 1, v4, v6, v7, S => (if (v6 + ((6 : Int32) * v4)) ≤ v7 then some ((S 0 29), S) else gw_gd (gw_in v7 144) (gw_gd (gw_in (v7 + (1 : Int32)) 144) (gw_gd (gw_in (v7 + (2 : Int32)) 144) (gw_gd (gw_in (v7 + (3 : Int32)) 144) (gw_gd (gw_in (v7 + (4 : Int32)) 144) (gw_gd (gw_in (v7 + (5 : Int32)) 144) (gw_bd (f_X9_addBooking (S 45 v7.toNatClampNeg) (S 45 (v7 + (1 : Int32)).toNatClampNeg) (S 45 (v7 + (2 : Int32)).toNatClampNeg) (S 45 (v7 + (3 : Int32)).toNatClampNeg) (S 45 (v7 + (4 : Int32)).toNatClampNeg) (S 45 (v7 + (5 : Int32)).toNatClampNeg) S) (fun S8 => gw_let (v7 + (6 : Int32) : Int32) (fun y10 => (f_X9_books_b156  n) v4 v6 y10 S8)))))))))
def f_X9_books_b57  : Nat → Int32 → Int32 → Int32 → gw_S → Option (Int32 × gw_S)
  | 0, _, _, _, _ => none
  | n + 1, v4, v6, v7, S => (if (v6 + ((6 : Int32) * v4)) ≤ v7 then (if ((S 0 29) + v4) ≤ (30 : Int32) then f_X9_books_b156  gw_F v4 v6 v6 S else some ((-3 : Int32), S)) else gw_gd (gw_in v7 144) (gw_gd (gw_in (v7 + (1 : Int32)) 144) (gw_gd (gw_in (v7 + (2 : Int32)) 144) (gw_gd (gw_in (v7 + (3 : Int32)) 144) (gw_gd (gw_in (v7 + (4 : Int32)) 144) (gw_gd (gw_in (v7 + (5 : Int32)) 144) (gw_bd (f_X9_isBooking (S 45 v7.toNatClampNeg) (S 45 (v7 + (1 : Int32)).toNatClampNeg) (S 45 (v7 + (2 : Int32)).toNatClampNeg) (S 45 (v7 + (3 : Int32)).toNatClampNeg) (S 45 (v7 + (4 : Int32)).toNatClampNeg) (S 45 (v7 + (5 : Int32)).toNatClampNeg) S) (fun r20 => (if r20 = 0 then some ((-2 : Int32), S) else gw_let (v7 + (6 : Int32) : Int32) (fun y23 => (f_X9_books_b57  n) v4 v6 y23 S))))))))))
def f_X9_books (x1 : Int32) (x2 : Int32) (x3 : Int32) (x4 : Int32) (S : gw_S) : Option (Int32 × gw_S) := gw_bd (f_X9_isSheet x1 x2 S) (fun r25 => (if r25 = 0 then some ((-1 : Int32), S) else gw_bd (f_X9_in (x4.toInt64) (0 : Int64) (6 : Int64) S) (fun r28 => (if r28 = 0 then some ((-1 : Int32), S) else gw_bd (f_X9_against x1 x2 x3 ((6 : Int32) * x4) S) (fun r31 => (if 0 ≤ r31 then gw_let ((((36 : Int32) * x1) + x3) : Int32) (fun y34 => f_X9_books_b57  gw_F x4 y34 y34 S) else some (r31, S)))))))
abbrev rm_X9_books : Room := { frames := 3, cells := 0, slots := 0, locals := 120 }
def f_X3_spanOf_l (x1 : Int32) (x2 : Int32) (S : gw_S) : Option (Int32) := gw_let (((x1 * (6 : Int32)) + x2) : Int32) (fun y1 => (if y1 < 0 then some (0 : Int32) else (if (36 : Int32) ≤ y1 then some (0 : Int32) else gw_gd (gw_in y1 36) (some (S 8 y1.toNatClampNeg)))))
abbrev rm_X3_spanOf_l : Room := { frames := 0, cells := 0, slots := 0, locals := 0 }
def f_X3_readEnds_l_b56 (K2 : Int32 → gw_S → Option (gw_S)) : Int32 → Int32 → Int32 → gw_S → Option (gw_S) := fun v1 t0_ t1_ S => gw_gd (gw_in t1_ 6) (gw_let (gw_up S 10 t1_.toNatClampNeg t0_) (fun S2 => gw_let (v1 + (1 : Int32) : Int32) (fun y4 => K2 y4 S2)))
def f_X3_readEnds_l_b32 (K2 : Int32 → gw_S → Option (gw_S)) : Int32 → Int32 → Int32 → gw_S → Option (gw_S) := fun v1 t0_ t1_ S => gw_gd (gw_in t1_ 6) (gw_let (gw_up S 9 t1_.toNatClampNeg t0_) (fun S7 => (if (S7 7 4) = 0 then gw_bd (f_X3_spanOf_l (0 : Int32) v1 S7) (fun r10 => f_X3_readEnds_l_b56 K2 v1 r10 v1 S7) else f_X3_readEnds_l_b56 K2 v1 (9 : Int32) v1 S7)))
def f_X3_readEnds_l_b2  : Nat → Int32 → gw_S → Option (gw_S)
  | 0, _, _ => none
  | n + 1, v1, S => (if (6 : Int32) ≤ v1 then some S else (if (S 7 4) = 0 then gw_bd (f_X3_spanOf_l v1 (0 : Int32) S) (fun r14 => f_X3_readEnds_l_b32 (f_X3_readEnds_l_b2  n) v1 (-r14) v1 S) else f_X3_readEnds_l_b32 (f_X3_readEnds_l_b2  n) v1 (-9 : Int32) v1 S))
def f_X3_readEnds_l  (S : gw_S) : Option (gw_S) := f_X3_readEnds_l_b2  gw_F (1 : Int32) S
abbrev rm_X3_readEnds_l : Room := { frames := 1, cells := 0, slots := 0, locals := 40 }
end
