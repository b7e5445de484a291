/-! own rows: a state is read off as numbers (S k i: field or place i of the cell k); a method is a pure function over it; its contract: where the function answers, the method returns that, and the cells hold the new state -/
abbrev gw_S : Type := Nat → Nat → Int32
def gw_up (S : gw_S) (k i : Nat) (v : Int32) : gw_S := fun j => if j = k then upd (S k) i v else S j
def gw_rf (b : Nat → Nat) (v : Int32) : Option Nat := if v = -1 then none else some (b v.toNatClampNeg)
theorem gw_rfP {b : Nat → Nat} {v : Int32} (h : ¬ v = -1) : va_rf (gw_rf b v) = .ref (b v.toNatClampNeg) := by simp [gw_rf, h, va_rf]
theorem gw_rfN {b : Nat → Nat} {v : Int32} (h : v = -1) : va_rf (gw_rf b v) = .null := by simp [gw_rf, h, va_rf]
theorem gw_rf0 {b : Nat → Nat} : va_rf (gw_rf b (-1)) = .null := gw_rfN rfl
theorem gw_catq {o : Option Nat} : (va_rf o).category = 1 := by cases o <;> rfl
theorem gw_cI {x : Int32} : (Value.int x).category = 1 := rfl
theorem gw_cR {x : Nat} : (Value.ref x).category = 1 := rfl
theorem gw_cL {x : Int64} : (Value.long x).category = 2 := rfl
theorem gw_rn {C : String} {o : Option Nat} : narrow (.object C) (va_rf o) = va_rf o := by cases o <;> rfl
theorem gw_rfit {C : String} {o : Option Nat} : fits (.object C) (va_rf o) = true := by cases o <;> rfl
theorem gw_zn {v : Int32} (h : v = 0 ∨ v = 1) : narrow .boolean (.int v) = .int v := by rcases h with rfl | rfl <;> rfl
theorem gw_zf {v : Int32} (h : v = 0 ∨ v = 1) : fits .boolean (.int v) = true := by rcases h with rfl | rfl <;> rfl
def gw_F : Nat := 1000000000
abbrev gw_in (i : Int32) (n : Nat) : Prop := ¬ (i < 0 ∨ n ≤ i.toNatClampNeg)
abbrev gw_ok (n : Nat) (v : Int32) : Prop := v = -1 ∨ (0 ≤ v ∧ v.toNatClampNeg < n)
def gw_let {α β : Type} (x : α) (k : α → Option β) : Option β := k x
theorem gw_letE {α β : Type} {x : α} {k : α → Option β} {z : β} (h : gw_let x k = some z) : ∃ y, y = x ∧ k y = some z := ⟨x, rfl, h⟩
theorem gw_letN {α β : Type} {x y : α} {k : α → Option β} {z : β} (h : gw_let x k = some z) (e : y = x) : k y = some z := by subst e; exact h
def gw_bd {α β : Type} (o : Option α) (k : α → Option β) : Option β := match o with | none => none | some x => k x
theorem gw_bdE {α β : Type} {o : Option α} {k : α → Option β} {z : β} (h : gw_bd o k = some z) : ∃ y, o = some y ∧ k y = some z := by
  cases o with
  | none => cases h
  | some y => exact ⟨y, rfl, h⟩
def gw_b2 {β : Type} (o : Option (Int32 × gw_S)) (k : Int32 → gw_S → Option β) : Option β := match o with | none => none | some x => k x.1 x.2
theorem gw_b2E {β : Type} {o : Option (Int32 × gw_S)} {k : Int32 → gw_S → Option β} {z : β} (h : gw_b2 o k = some z) : ∃ r S, o = some (r, S) ∧ k r S = some z := by
  cases o with
  | none => cases h
  | some y => exact ⟨y.1, y.2, rfl, h⟩
def gw_gd {β : Type} (c : Prop) [Decidable c] (k : Option β) : Option β := if c then k else none
theorem gw_gdE {β : Type} {c : Prop} [Decidable c] {k : Option β} {z : β} (h : gw_gd c k = some z) : c ∧ k = some z := by
  unfold gw_gd at h
  by_cases hc : c
  · rw [if_pos hc] at h; exact ⟨hc, h⟩
  · rw [if_neg hc] at h; cases h
theorem gw_ifT {β : Type} {c : Prop} [Decidable c] {x y : Option β} {z : β} (hc : c) (h : (if c then x else y) = some z) : x = some z := by rw [if_pos hc] at h; exact h
theorem gw_ifF {β : Type} {c : Prop} [Decidable c] {x y : Option β} {z : β} (hc : ¬ c) (h : (if c then x else y) = some z) : y = some z := by rw [if_neg hc] at h; exact h
theorem gw_out4 {x : Int32} (h0 : ¬ x = 0) (h1 : ¬ x = 1) (h2 : ¬ x = 2) (h3 : ¬ x = 3) : x.toInt < 0 ∨ (3 : Int) < x.toInt := by
  have q0 : ¬ x.toInt = 0 := lv_neT h0 (by decide)
  have q1 : ¬ x.toInt = 1 := lv_neT h1 (by decide)
  have q2 : ¬ x.toInt = 2 := lv_neT h2 (by decide)
  have q3 : ¬ x.toInt = 3 := lv_neT h3 (by decide)
  omega
theorem gw_out8 {x : Int32} (h0 : ¬ x = 0) (h1 : ¬ x = 1) (h2 : ¬ x = 2) (h3 : ¬ x = 3) (h4 : ¬ x = 4) (h5 : ¬ x = 5) (h6 : ¬ x = 6) (h7 : ¬ x = 7) : x.toInt < 0 ∨ (7 : Int) < x.toInt := by
  have q0 : ¬ x.toInt = 0 := lv_neT h0 (by decide)
  have q1 : ¬ x.toInt = 1 := lv_neT h1 (by decide)
  have q2 : ¬ x.toInt = 2 := lv_neT h2 (by decide)
  have q3 : ¬ x.toInt = 3 := lv_neT h3 (by decide)
  have q4 : ¬ x.toInt = 4 := lv_neT h4 (by decide)
  have q5 : ¬ x.toInt = 5 := lv_neT h5 (by decide)
  have q6 : ¬ x.toInt = 6 := lv_neT h6 (by decide)
  have q7 : ¬ x.toInt = 7 := lv_neT h7 (by decide)
  omega
theorem gw_out10 {x : Int32} (h0 : ¬ x = 0) (h1 : ¬ x = 1) (h2 : ¬ x = 2) (h3 : ¬ x = 3) (h4 : ¬ x = 4) (h5 : ¬ x = 5) (h6 : ¬ x = 6) (h7 : ¬ x = 7) (h8 : ¬ x = 8) (h9 : ¬ x = 9) : x.toInt < 0 ∨ (9 : Int) < x.toInt := by
  have q0 : ¬ x.toInt = 0 := lv_neT h0 (by decide)
  have q1 : ¬ x.toInt = 1 := lv_neT h1 (by decide)
  have q2 : ¬ x.toInt = 2 := lv_neT h2 (by decide)
  have q3 : ¬ x.toInt = 3 := lv_neT h3 (by decide)
  have q4 : ¬ x.toInt = 4 := lv_neT h4 (by decide)
  have q5 : ¬ x.toInt = 5 := lv_neT h5 (by decide)
  have q6 : ¬ x.toInt = 6 := lv_neT h6 (by decide)
  have q7 : ¬ x.toInt = 7 := lv_neT h7 (by decide)
  have q8 : ¬ x.toInt = 8 := lv_neT h8 (by decide)
  have q9 : ¬ x.toInt = 9 := lv_neT h9 (by decide)
  omega
/-! the statics -/
def gw_LET : Nat → Int32 := fun j => ([104, 99, 108, 100, 101, 115, 116, 119] : List Int32).getD j 0
def gw_MST : Nat → Int32 := fun j => ([9, 9, 999, 100, 9, 999, 999, 3] : List Int32).getD j 0
def gw_nf : List (String × Nat × String × String × String) := [("GownLet", 100, "GownLet$Piece", "kind", "I"), ("GownLet", 103, "GownLet$Piece", "hem", "I"), ("GownLet", 115, "GownLet$House", "lies", "LGownLet$Lies;"), ("GownLet", 119, "GownLet$Lies", "doubles", "I"), ("GownLet", 134, "GownLet$Lies", "areAtOdds", "Z"), ("GownLet", 153, "GownLet$House", "bookingCount", "I"), ("GownLet", 163, "GownLet$Booking", "made", "I"), ("GownLet", 175, "GownLet$Booking", "calledOffOn", "I"), ("GownLet", 178, "GownLet$Booking", "piece", "LGownLet$Piece;"), ("GownLet", 207, "GownLet$Piece", "tornFrom", "I"), ("GownLet", 250, "GownLet$Booking", "deposit", "I"), ("GownLet", 255, "GownLet$Booking", "stage", "I"), ("GownLet", 261, "GownLet$Piece", "worn", "I"), ("GownLet", 276, "GownLet$Piece", "isToldRetired", "Z"), ("GownLet", 282, "GownLet$House", "pieceCount", "I"), ("GownLet", 300, "GownLet$Sheet", "isThere", "Z"), ("GownLet", 303, "GownLet$Sheet", "length", "I"), ("GownLet", 55, "GownLet$Tape", "length", "I"), ("GownLet", 59, "GownLet$House", "terms", "LGownLet$Terms;"), ("GownLet$Booking", 47, "GownLet$Piece", "number", "I"), ("GownLet$Chain", 34, "GownLet$House", "terms", "LGownLet$Terms;"), ("GownLet$Chain", 50, "GownLet$House", "bookingCount", "I"), ("GownLet$Chain", 64, "GownLet$Booking", "number", "I"), ("GownLet$Chain", 83, "GownLet$Booking", "piece", "LGownLet$Piece;"), ("GownLet$Chain", 87, "GownLet$House", "pieceCount", "I"), ("GownLet$Chain", 90, "GownLet$Booking", "night", "I"), ("GownLet$House", 102, "GownLet$Booking", "night", "I"), ("GownLet$House", 105, "GownLet$Piece", "town", "I"), ("GownLet$House", 108, "GownLet$Booking", "town", "I"), ("GownLet$House", 117, "GownLet$Booking", "piece", "LGownLet$Piece;"), ("GownLet$House", 136, "GownLet$Piece", "lot", "I"), ("GownLet$House", 157, "GownLet$Booking", "party", "I"), ("GownLet$House", 174, "GownLet$Piece", "price", "I"), ("GownLet$House", 180, "GownLet$Booking", "homeOn", "I"), ("GownLet$House", 186, "GownLet$Booking", "lookHome", "I"), ("GownLet$House", 189, "GownLet$Booking", "lookOut", "I"), ("GownLet$House", 52, "GownLet$Piece", "number", "I"), ("GownLet$House", 72, "GownLet$Piece", "label", "I"), ("GownLet$House", 75, "GownLet$Piece", "maker", "I"), ("GownLet$House", 81, "GownLet$Piece", "hem", "I"), ("GownLet$House", 87, "GownLet$Booking", "size", "I"), ("GownLet$House", 90, "GownLet$Booking", "wants", "I"), ("GownLet$Terms", 28, "GownLet$Tape", "length", "I")]
def gw_nm : List (String × Nat × MethodName) := [("GownLet", 34, ⟨"GownLet$Sheet", "<init>", "()V"⟩), ("GownLet", 9, ⟨"GownLet$Tape", "<init>", "()V"⟩), ("GownLet$House", 11, ⟨"GownLet$Terms", "<init>", "()V"⟩), ("GownLet$House", 207, ⟨"GownLet", "isIn", "(III)Z"⟩), ("GownLet$House", 62, ⟨"GownLet", "isTown", "(I)Z"⟩)]
def gw_N (U : State) : Prop := (∀ q ∈ gw_nf, va_Nw (.fieldLinkNest q.1 q.2.1 q.2.2.1 q.2.2.2.1 q.2.2.2.2 "GownLet") U) ∧ (∀ q ∈ gw_nm, va_Nw (.methodLinkNest q.1 q.2.1 q.2.2 "GownLet") U) ∧ ∀ C ∈ (["GownLet$Piece", "GownLet$Booking", "GownLet$Sheet"] : List String), va_AO C U
theorem gw_N.warm {s U : State} (hW : s.WarmedH U.vm) (h : gw_N s) : gw_N U := ⟨fun q hq => va_Nw.warmF hW (h.1 q hq), fun q hq => va_Nw.warmM hW (h.2.1 q hq), fun C hC => (h.2.2 C hC).moved hW.alike⟩
def gw_st (t1 t2 : Nat) (A : Nat → Prop) (U : State) (H : Heap) : Prop := (va_Z "GownLet$Terms" "LETTER" "[C" (.ref t1) A U H ∧ va_T .char t1 8 (fun j => .int (gw_LET j)) A U H) ∧ va_Z "GownLet$Terms" "MOST" "[I" (.ref t2) A U H ∧ va_T .int t2 8 (fun j => .int (gw_MST j)) A U H ∧ gw_N U
theorem gw_st.moved {t1 t2 : Nat} {A : Nat → Prop} {u U : State} {H : Heap} (hW : u.WarmedH U.vm) (h : gw_st t1 t2 A u H) : gw_st t1 t2 A U H := ⟨⟨h.1.1.moved hW.alike, h.1.2.moved hW.alike⟩, h.2.1.moved hW.alike, h.2.2.1.moved hW.alike, h.2.2.2.warm hW⟩
theorem gw_st.kept {t1 t2 : Nat} {A : Nat → Prop} {U : State} {H H1 : Heap} (h : gw_st t1 t2 A U H) (hq : ∀ a : Nat, a < H.size → ¬ A a → H1[a]? = H[a]?) : gw_st t1 t2 A U H1 := ⟨⟨h.1.1.kept hq, h.1.2.kept hq⟩, h.2.1.kept hq, h.2.2.1.kept hq, h.2.2.2⟩
theorem gw_st.narrow {t1 t2 : Nat} {A B : Nat → Prop} {U : State} {H : Heap} (h : gw_st t1 t2 A U H) (hAB : ∀ q, B q → A q) : gw_st t1 t2 B U H := ⟨⟨h.1.1.narrow hAB, h.1.2.narrow hAB⟩, h.2.1.narrow hAB, h.2.2.1.narrow hAB, h.2.2.2⟩
/-! contracts -/
abbrev gw_TY : Type := List (ClassId × FieldType)
def gw_Pre (D : va_G) (tys : gw_TY) (t1 t2 : Nat) (w : va_W) (sz : Nat) (U : State) : Prop := U.heap.size = sz ∧ va_P D vwCl w U.heap ∧ va_K D vwCl tys U ∧ va_D (fun _ => True) w ∧ gw_st t1 t2 (va_A w sz) U U.heap
def gw_Pst (D : va_G) (A : Nat → Prop) (W' : va_W → Prop) (t : State) : Prop := ∃ w', W' w' ∧ va_P D vwCl w' t.heap ∧ va_D A w'
def gw_Q (ov : Option Value) (B : State → Prop) (A : Nat → Prop) : Array Value → State → Outcome → State → Prop := fun _ st oc t => oc = .returned ov ∧ B t ∧ va_F A st t
def gw_M (l : Launch) (y : MethodName) (ws : List Cond) (rm : Room) (mc ms : Nat) (D : va_G) (tys : gw_TY) (t1 t2 : Nat) (av : List Value) (w : va_W) (W' : va_W → Prop) (ov : Option Value) : Prop :=
  ∀ sz : Nat, Met l y ws rm (va_Pc av (gw_Pre D tys t1 t2 w sz)) (gw_Q ov (gw_Pst D (va_A w sz) W') (va_A w sz)) mc ms (va_A w sz)
def gw_I (D : va_G) (A : Nat → Prop) (H0 : Heap) (w : va_W) (H : Heap) (locs : List Loc) : Prop := va_P D vwCl w H ∧ va_D A w ∧ va_S A H0 H locs
/-- what a body has at hand: the tables, the machine -/
def gw_B (p : Program) (s : State) (m : MethodId) (args : Array Value) (meth : Method) (c : Code) (cc : ByteArray) (nL : Nat) (Ts : List Cond) (own : String) (ret : Option FieldType) (D : va_G) (tys : gw_TY) (t1 t2 : Nat) (A : Nat → Prop) : Prop :=
  CallFix p m c cc nL s args Ts own ∧ (meth.sig.returnType = ret ∧ meth.locks = false) ∧ va_K D vwCl tys s ∧ gw_st t1 t2 A s s.heap ∧ ∀ q : Nat, s.heap.size ≤ q → A q
set_option maxHeartbeats 1000000 in
theorem gw_enter {l : Launch} {y : MethodName} {ws ws' : List Cond} {rm : Room} {mc ms : Nat} {D : va_G} {tys : gw_TY} {t1 t2 : Nat} {av : List Value} {w : va_W} {W' : va_W → Prop} {ov : Option Value} {cc : ByteArray} {maxL : Nat} {ret : Option FieldType} {own : String}
    (ho : y.cls = own) (hy : plainName y.cls = true) (hw : ws = Cond.code y cc maxL ret :: ws') (hlen : (lg_sl av).length ≤ maxL)
    (body : ∀ (p : Program) (e : Env) (s : State) (m : MethodId) (below : List Frame) (meth : Method) (c : Code) (A : Nat → Prop), gw_B p s m av.toArray meth c cc maxL ws own ret D tys t1 t2 A → meth.name = y.name → gw_I D A s.heap w s.heap [] → ∀ ls : Array Slot, lv_has ls maxL (lv_args 0 av) →
      W p l e rm s m av.toArray below meth c s.heap [] 0 0 (MQ below (gw_Q ov (gw_Pst D A W') A) av.toArray s mc ms A) (F0 m 0 ls [])) :
    gw_M l y ws rm mc ms D tys t1 t2 av w W' ov := by
  intro sz
  refine Met.ofW (cc := cc) (maxL := maxL) (ret := ret) hy hw ?_
  intro p e s m args below meth c s₁ B hml hv
  obtain ⟨rfl, hsz, hP, hK, hD0, hst⟩ := hv
  subst hsz
  subst ho
  rw [lg_entry_eq]
  exact body p e s m below meth c (va_A w s.heap.size) ⟨⟨B.exec, B.bytes, hml, findClass_of_methodNamed B.named, atoms_spec B.pre⟩, ⟨B.returns, B.notSynchronized⟩, hK, hst, fun q h => Or.inr h⟩ (name_of_methodNamed B.named B.method).1 ⟨hP, hD0.self, va_S.rf⟩ _ (lv_entry av hlen)
section GW
variable {p : Program} {l : Launch} {e : Env} {R : Room} {s : State} {m : MethodId} {args : Array Value} {below : List Frame} {meth : Method} {c : Code} {H : Heap} {locs : List Loc} {cells slots : Nat} {Q : State → Prop}
variable {cc : ByteArray} {nL : Nat} {Ts : List Cond} {own : String} {ret : Option FieldType} {D : va_G} {tys : gw_TY} {t1 t2 : Nat} {A : Nat → Prop} {w : va_W} {W' : va_W → Prop} {pc : Nat} {ls : Array Slot} {rest : List Value} {mc ms : Nat}
theorem gw_iret (B : gw_B p s m args meth c cc nL Ts own (some .int) D tys t1 t2 A) (hI : gw_I D A s.heap w H locs) (hw : W' w) {v : Int32} (h1 : cells ≤ mc) (h2 : slots ≤ ms) (hdg : decode cc pc = .ok (.ireturn, 1)) :
    W p l e R s m args below meth c H locs cells slots (MQ below (gw_Q (some (.int v)) (gw_Pst D A W') A) args s mc ms A) (F0 m pc ls [.int v]) :=
  W.widen h1 h2 (W.iret B.1.1 B.1.2.1 B.2.1.1 (fun t ht hW => ⟨rfl, ⟨w, hw, by rw [ht]; exact hI.1, hI.2.1⟩, hI.2.2.F ht⟩) hI.2.2.2.2 hdg B.2.1.2)
theorem gw_zret (B : gw_B p s m args meth c cc nL Ts own (some .boolean) D tys t1 t2 A) (hI : gw_I D A s.heap w H locs) (hw : W' w) {v : Int32} (hv : v = 0 ∨ v = 1) (h1 : cells ≤ mc) (h2 : slots ≤ ms) (hdg : decode cc pc = .ok (.ireturn, 1)) :
    W p l e R s m args below meth c H locs cells slots (MQ below (gw_Q (some (.int v)) (gw_Pst D A W') A) args s mc ms A) (F0 m pc ls [.int v]) :=
  W.widen h1 h2 (W.zret B.1.1 B.1.2.1 B.2.1.1 (by rcases hv with rfl | rfl <;> rfl) (fun t ht hW => ⟨rfl, ⟨w, hw, by rw [ht]; exact hI.1, hI.2.1⟩, hI.2.2.F ht⟩) hI.2.2.2.2 hdg B.2.1.2)
theorem gw_vret (B : gw_B p s m args meth c cc nL Ts own none D tys t1 t2 A) (hI : gw_I D A s.heap w H locs) (hw : W' w) (h1 : cells ≤ mc) (h2 : slots ≤ ms) (hdg : decode cc pc = .ok (.return_, 1)) :
    W p l e R s m args below meth c H locs cells slots (MQ below (gw_Q none (gw_Pst D A W') A) args s mc ms A) (F0 m pc ls []) :=
  W.widen h1 h2 (W.vret B.1.1 B.1.2.1 B.2.1.1 (fun t ht hW => ⟨rfl, ⟨w, hw, by rw [ht]; exact hI.1, hI.2.1⟩, hI.2.2.F ht⟩) hI.2.2.2.2 hdg B.2.1.2)
theorem gw_aret {C : String} (B : gw_B p s m args meth c cc nL Ts own (some (.object C)) D tys t1 t2 A) (hI : gw_I D A s.heap w H locs) (hw : W' w) {o : Option Nat} (h1 : cells ≤ mc) (h2 : slots ≤ ms) (hdg : decode cc pc = .ok (.areturn, 1)) :
    W p l e R s m args below meth c H locs cells slots (MQ below (gw_Q (some (va_rf o)) (gw_Pst D A W') A) args s mc ms A) (F0 m pc ls [va_rf o]) :=
  W.widen h1 h2 (W.aret B.1.1 B.1.2.1 B.2.1.1 (Or.inl ⟨_, rfl⟩) (by cases o with | none => exact Or.inl rfl | some a => exact Or.inr ⟨a, rfl⟩) (fun t ht hW => ⟨rfl, ⟨w, hw, by rw [ht]; exact hI.1, hI.2.1⟩, hI.2.2.F ht⟩) hI.2.2.2.2 hdg B.2.1.2)
theorem gw_sub (hI : gw_I D A s.heap w H locs) (hA : ∀ q : Nat, s.heap.size ≤ q → A q) : ∀ q, va_A w H.size q → A q := by
  intro q h
  rcases h with ⟨k, e, h⟩ | h
  · exact hI.2.1.2 k (q, e) h
  · exact hA q (Nat.le_trans hI.2.2.1 h)
theorem gw_go {a : Array Value} {ov : Option Value} {st0 : List Value} (hr : va_Run p l e R s m args below meth c H locs cells slots mc ms (F0 m pc ls st0) rest (gw_Q ov (gw_Pst D (va_A w H.size) W') (va_A w H.size) a) (va_A w H.size)) (hI : gw_I D A s.heap w H locs) (hA : ∀ q : Nat, s.heap.size ≤ q → A q)
    (kk : ∀ (w' : va_W) (H1 : Heap) (locs1 : List Loc), W' w' → gw_I D A s.heap w' H1 locs1 → W p l e R s m args below meth c H1 locs1 (cells + mc) (slots + ms) Q (F0 m (pc + 3) ls (ov.toList ++ rest))) : W p l e R s m args below meth c H locs cells slots Q (F0 m pc ls st0) := by
  intro T hT X
  obtain ⟨v, st₀, t, T', L, h0, X', hL, e1, e2, ⟨hv, ⟨w', hw', hP', hD'⟩, hz, hk⟩, st⟩ := hr T hT X
  cases hv
  rw [h0] at hz hk
  have hAA := gw_sub hI hA
  have hS := hI.2.2
  obtain ⟨t2, a1, b1⟩ := kk w' T'.heap (locs ++ L) hw' ⟨by rw [e1]; exact hP', hD'.weaken (fun _ _ _ h => hAA _ h),
    ⟨Nat.le_trans hS.1 (by rw [e1]; exact hz), fun q h1 h2 => by rw [e1, hk q (Nat.lt_of_lt_of_le h1 hS.1) (fun z => h2 (hAA q z))]; exact hS.2.1 q h1 h2, fun q hq => by
      rcases List.mem_append.mp hq with h | h
      · exact hS.2.2 q h
      · exact hAA _ (hL q h)⟩⟩ T' rfl X'
  exact ⟨t2, st t2 a1, b1⟩
theorem gw_blind {av : List Value} {sz : Nat} : FrameBlind (va_Pc av (gw_Pre D tys t1 t2 w sz)) := fun a U g mk q => by
  obtain ⟨q0, q1, qP, qK, qD, qs⟩ := q
  exact ⟨q0, q1, qP, va_K.moved (u := U) (U := U.calling g mk a) (Vm.Alike.refl U.vm) qK, qD, gw_st.moved (u := U) (U := U.calling g mk a) (State.WarmedH.refl U) qs⟩
theorem gw_pre (hK : va_K D vwCl tys s) (hst : gw_st t1 t2 A s s.heap) (hA : ∀ q : Nat, s.heap.size ≤ q → A q) (hI : gw_I D A s.heap w H locs) (U : State) (hU : U.heap = H) (hW : s.WarmedH U.vm) : gw_Pre D tys t1 t2 w H.size U := by
  have h1 : gw_st t1 t2 A s H := hst.kept hI.2.2.2.1
  have h2 := (h1.narrow (gw_sub hI hA)).moved hW
  subst hU
  exact ⟨rfl, hI.1, va_K.moved hW.alike hK, hI.2.1.weaken (fun _ _ _ _ => trivial), h2⟩
theorem gw_callV0 {y : MethodName} {bytes : ByteArray} {maxL index n b q0 ci : Nat} {retY : Option FieldType} {wsy wsy' : List Cond} {rm : Room} {C : String} {As fs : List Value} {ov : Option Value} {qC : vw_C} (B : gw_B p s m args meth c cc nL Ts own ret D tys t1 t2 A) (hI : gw_I D A s.heap w H locs)
    (hM : gw_M l y wsy rm mc ms D tys t1 t2 (.ref b :: As) w W' ov) (hT : GoodIn Ts (wsV own index C y wsy)) (hw : wsy = Cond.code y bytes maxL retY :: wsy') (hrc : rm.cells = mc) (hrs : rm.slots = ms)
    (hd : y.cls = C ∧ y.cls ≠ "java/lang/invoke/MethodHandle" ∧ y.cls ≠ "java/lang/invoke/VarHandle" ∧ (parseMethodDescriptor y.desc).map (fun d => d.parameters.length) = some n) (hR : rm.frames + 1 ≤ R.frames ∧ 8 + (maxL + 11) + rm.locals ≤ R.locals)
    (he : w[q0]? = some (b, .inr (ci, fs))) (hc : vwCl[ci]? = some qC) (hC : qC.1 = C) (hn : As.length = n) (hsz : ls.size = nL) (hr8 : (rest.map fun v => v.category).sum ≤ 8) (hdg : decode cc pc = .ok (.invokevirtual index, 3)) (hf : cells + mc ≤ R.cells ∧ slots + ms ≤ R.slots)
    {st0 : List Value} (hst0 : st0 = As.reverse ++ .ref b :: rest)
    (kk : ∀ (w' : va_W) (H1 : Heap) (locs1 : List Loc), W' w' → gw_I D A s.heap w' H1 locs1 → W p l e R s m args below meth c H1 locs1 (cells + mc) (slots + ms) Q (F0 m (pc + 3) ls (ov.toList ++ rest))) : W p l e R s m args below meth c H locs cells slots Q (F0 m pc ls st0) := by
  obtain ⟨C0, -, hK, hst, hA⟩ := B
  refine gw_go (va_runV (As := As) (rest := rest) C0 (hM H.size) (cwV n C0.2.2.2.2 hT hw hrc hrs hd hR) ⟨gw_blind, ?_, fun U hU hW => ⟨rfl, gw_pre hK hst hA hI U hU hW⟩⟩ rfl hn hsz hst0 (lv_room hr8) hdg hf) hI hA kk
  have h := va_recv hK hI.1 hc he
  rw [hC] at h
  exact h
theorem gw_callS0 {y : MethodName} {bytes : ByteArray} {maxL index n : Nat} {retY : Option FieldType} {wsy wsy' : List Cond} {rm : Room} {As : List Value} {ov : Option Value} (B : gw_B p s m args meth c cc nL Ts own ret D tys t1 t2 A) (hI : gw_I D A s.heap w H locs)
    (hM : gw_M l y wsy rm mc ms D tys t1 t2 As w W' ov) (hT : GoodIn Ts (va_wsS own index y wsy)) (hw : wsy = Cond.code y bytes maxL retY :: wsy') (hrc : rm.cells = mc) (hrs : rm.slots = ms)
    (hd : y.cls ≠ "java/lang/invoke/MethodHandle" ∧ y.cls ≠ "java/lang/invoke/VarHandle" ∧ (parseMethodDescriptor y.desc).map (fun d => d.parameters.length) = some n) (hR : rm.frames + 1 ≤ R.frames ∧ 8 + (maxL + 11) + rm.locals ≤ R.locals)
    (hn : As.length = n) (hsz : ls.size = nL) (hr8 : (rest.map fun v => v.category).sum ≤ 8) (hdg : decode cc pc = .ok (.invokestatic index, 3)) (hf : cells + mc ≤ R.cells ∧ slots + ms ≤ R.slots)
    {st0 : List Value} (hst0 : st0 = As.reverse ++ rest)
    (kk : ∀ (w' : va_W) (H1 : Heap) (locs1 : List Loc), W' w' → gw_I D A s.heap w' H1 locs1 → W p l e R s m args below meth c H1 locs1 (cells + mc) (slots + ms) Q (F0 m (pc + 3) ls (ov.toList ++ rest))) : W p l e R s m args below meth c H locs cells slots Q (F0 m pc ls st0) := by
  obtain ⟨C0, -, hK, hst, hA⟩ := B
  have ok : ∀ w ∈ va_wsS own index y wsy, w.before args s = true := fun w h => C0.2.2.2.2 w (hT w h).1
  exact gw_go (va_runS (As := As) (rest := rest) C0 (hM H.size) ⟨callB_of n C0.2.2.2.2 (fun w h => hT w (by unfold va_wsS; exact List.mem_append_right _ h)) hw hrc hrs (ok _ (by simp [va_wsS])) (ok _ (by simp [va_wsS])) hd hR, ok _ (by simp [va_wsS])⟩ ⟨gw_blind, fun U hU hW => ⟨rfl, gw_pre hK hst hA hI U hU hW⟩⟩ rfl hn hsz hst0 (lv_room hr8) hdg hf) hI hA kk
theorem gw_get {index q0 a ci N k : Nat} {fs : List Value} {C ref n d : String} {T : u_T} {v : Value} (B : gw_B p s m args meth c cc nL Ts own ret D tys t1 t2 A) (hI : gw_I D A s.heap w H locs) (he : w[q0]? = some (a, .inr (ci, fs))) (hc : vwCl[ci]? = some (C, T, N)) (hin : ∀ w ∈ u_ws C T N, w ∈ Ts) (hk : k < N) (hlink : Cond.fieldLink own index ref n d ∈ Ts) (hT : T k = (ref, n, d, (T k).2.2.2)) (hv : fs[k]? = some v) (hdg : decode cc pc = .ok (.getfield index, 3))
    (kk : W p l e R s m args below meth c H locs cells slots Q (F0 m (pc + 3) ls (v :: rest))) : W p l e R s m args below meth c H locs cells slots Q (F0 m pc ls (.ref a :: rest)) :=
  va_get (D := D) B.1.1 B.1.2.1 B.1.2.2.2.2 hin B.1.2.2.2.1 B.2.2.1 hI.1 q0 he hc k hk (by rw [hT]; exact B.1.2.2.2.2 _ hlink) (by rw [hT]; exact fun _ h => h) hv hdg kk
theorem gw_put {index q0 a ci N k : Nat} {fs : List Value} {C ref n d : String} {T : u_T} {v : Value} {ty : FieldType} {w' : va_W} (B : gw_B p s m args meth c cc nL Ts own ret D tys t1 t2 A) (hI : gw_I D A s.heap w H locs) (he : w[q0]? = some (a, .inr (ci, fs))) (hc : vwCl[ci]? = some (C, T, N)) (hin : ∀ w ∈ u_ws C T N, w ∈ Ts) (ty0 : Nat → FieldType) (hty : ∀ k, k < N → parseFieldDescriptor (T k).2.2.1 = some (ty0 k)) (hnm : ∀ a, a < N → ∀ b, b < N → a ≠ b → (T a).2.1 ≠ (T b).2.1) (hk : k < N) (hlink : Cond.fieldLink own index ref n d ∈ Ts) (hT : T k = (ref, n, d, false)) (hd : ty0 k = ty) (hn : narrow ty v = v) (hfit : fits ty v = true) (hl : k < fs.length) (hset : w.set q0 (a, .inr (ci, fs.set k v)) = w') (hdg : decode cc pc = .ok (.putfield index, 3))
    (kk : ∀ (H1 : Heap) (locs1 : List Loc), gw_I D A s.heap w' H1 locs1 → W p l e R s m args below meth c H1 locs1 cells slots Q (F0 m (pc + 3) ls rest)) : W p l e R s m args below meth c H locs cells slots Q (F0 m pc ls (v :: .ref a :: rest)) := by
  subst hset
  subst hd
  exact va_put (D := D) (ty := ty0 k) B.1.1 B.1.2.1 B.1.2.2.2.2 hin ty0 hty hnm B.1.2.2.2.1 B.2.2.1 hI.1 hI.2.1 hI.2.2 q0 he hc k hk (by rw [hT]; exact B.1.2.2.2.2 _ hlink) (by rw [hT]; exact fun _ h => h) (by rw [hT]) (hty k hk) hn hfit hl hdg (fun H1 locs1 hP hD hS => kk H1 locs1 ⟨hP, hD, hS⟩)
theorem gw_iald {q0 t0 a n : Nat} {cA : ClassId} {f : Nat → Int32} {i : Int32} (B : gw_B p s m args meth c cc nL Ts own ret D tys t1 t2 A) (hI : gw_I D A s.heap w H locs) (ha : w[q0]? = some (a, .inl (cA, n, .inl f))) (ht : tys[t0]? = some (cA, .int)) (hin : gw_in i n) (hdg : decode cc pc = .ok (.iaload, 1))
    (kk : W p l e R s m args below meth c H locs cells slots Q (F0 m (pc + 1) ls (.int (f i.toNatClampNeg) :: rest))) : W p l e R s m args below meth c H locs cells slots Q (F0 m pc ls (.int i :: .ref a :: rest)) :=
  va_iald B.1.1 B.1.2.1 B.2.2.1 hI.1 q0 t0 ha ht hin hdg kk
theorem gw_bald {q0 t0 a n : Nat} {cA : ClassId} {f : Nat → Int32} {i : Int32} (B : gw_B p s m args meth c cc nL Ts own ret D tys t1 t2 A) (hI : gw_I D A s.heap w H locs) (ha : w[q0]? = some (a, .inl (cA, n, .inl f))) (ht : tys[t0]? = some (cA, .byte)) (hin : gw_in i n) (hdg : decode cc pc = .ok (.baload, 1))
    (kk : W p l e R s m args below meth c H locs cells slots Q (F0 m (pc + 1) ls (.int (f i.toNatClampNeg) :: rest))) : W p l e R s m args below meth c H locs cells slots Q (F0 m pc ls (.int i :: .ref a :: rest)) :=
  va_bald B.1.1 B.1.2.1 B.2.2.1 hI.1 q0 t0 ha ht hin hdg kk
theorem gw_zald {q0 t0 a n : Nat} {cA : ClassId} {f : Nat → Int32} {i : Int32} (B : gw_B p s m args meth c cc nL Ts own ret D tys t1 t2 A) (hI : gw_I D A s.heap w H locs) (ha : w[q0]? = some (a, .inl (cA, n, .inl f))) (ht : tys[t0]? = some (cA, .boolean)) (hin : gw_in i n) (hdg : decode cc pc = .ok (.baload, 1))
    (kk : W p l e R s m args below meth c H locs cells slots Q (F0 m (pc + 1) ls (.int (f i.toNatClampNeg) :: rest))) : W p l e R s m args below meth c H locs cells slots Q (F0 m pc ls (.int i :: .ref a :: rest)) :=
  va_zald B.1.1 B.1.2.1 B.2.2.1 hI.1 q0 t0 ha ht hin hdg kk
theorem gw_aald {q0 t0 a n : Nat} {cA : ClassId} {C : String} {f : Nat → Option Nat} {i : Int32} {v : Value} (B : gw_B p s m args meth c cc nL Ts own ret D tys t1 t2 A) (hI : gw_I D A s.heap w H locs) (ha : w[q0]? = some (a, .inl (cA, n, .inr (.inr (.inr (.inr f)))))) (ht : tys[t0]? = some (cA, .object C)) (hin : gw_in i n) (hv : va_rf (f i.toNatClampNeg) = v) (hdg : decode cc pc = .ok (.aaload, 1))
    (kk : W p l e R s m args below meth c H locs cells slots Q (F0 m (pc + 1) ls (v :: rest))) : W p l e R s m args below meth c H locs cells slots Q (F0 m pc ls (.int i :: .ref a :: rest)) := by
  subst hv
  exact va_aldq B.1.1 B.1.2.1 B.2.2.1 hI.1 q0 t0 ha ht hin hdg kk
theorem gw_iast {q0 t0 a n : Nat} {cA : ClassId} {f : Nat → Int32} {i x : Int32} {w' : va_W} (B : gw_B p s m args meth c cc nL Ts own ret D tys t1 t2 A) (hI : gw_I D A s.heap w H locs) (ha : w[q0]? = some (a, .inl (cA, n, .inl f))) (ht : tys[t0]? = some (cA, .int)) (hin : gw_in i n) (hset : w.set q0 (a, .inl (cA, n, .inl (upd f i.toNatClampNeg x))) = w') (hdg : decode cc pc = .ok (.iastore, 1))
    (kk : ∀ (H1 : Heap) (locs1 : List Loc), gw_I D A s.heap w' H1 locs1 → W p l e R s m args below meth c H1 locs1 cells slots Q (F0 m (pc + 1) ls rest)) : W p l e R s m args below meth c H locs cells slots Q (F0 m pc ls (.int x :: .int i :: .ref a :: rest)) := by
  subst hset
  exact va_iast B.1.1 B.1.2.1 B.2.2.1 hI.1 hI.2.1 hI.2.2 q0 t0 ha ht hin hdg (fun H1 locs1 hP hD hS => kk H1 locs1 ⟨hP, hD, hS⟩)
theorem gw_bast {q0 t0 a n : Nat} {cA : ClassId} {f : Nat → Int32} {i x : Int32} {w' : va_W} (B : gw_B p s m args meth c cc nL Ts own ret D tys t1 t2 A) (hI : gw_I D A s.heap w H locs) (ha : w[q0]? = some (a, .inl (cA, n, .inl f))) (ht : tys[t0]? = some (cA, .byte)) (hin : gw_in i n) (hset : w.set q0 (a, .inl (cA, n, .inl (upd f i.toNatClampNeg (vp_nar .byte x)))) = w') (hdg : decode cc pc = .ok (.bastore, 1))
    (kk : ∀ (H1 : Heap) (locs1 : List Loc), gw_I D A s.heap w' H1 locs1 → W p l e R s m args below meth c H1 locs1 cells slots Q (F0 m (pc + 1) ls rest)) : W p l e R s m args below meth c H locs cells slots Q (F0 m pc ls (.int x :: .int i :: .ref a :: rest)) := by
  subst hset
  exact va_bast B.1.1 B.1.2.1 B.2.2.1 hI.1 hI.2.1 hI.2.2 q0 t0 ha ht hin hdg (fun H1 locs1 hP hD hS => kk H1 locs1 ⟨hP, hD, hS⟩)
theorem gw_zast {q0 t0 a n : Nat} {cA : ClassId} {f : Nat → Int32} {i x : Int32} {w' : va_W} (B : gw_B p s m args meth c cc nL Ts own ret D tys t1 t2 A) (hI : gw_I D A s.heap w H locs) (ha : w[q0]? = some (a, .inl (cA, n, .inl f))) (ht : tys[t0]? = some (cA, .boolean)) (hin : gw_in i n) (hset : w.set q0 (a, .inl (cA, n, .inl (upd f i.toNatClampNeg (vp_nar .boolean x)))) = w') (hdg : decode cc pc = .ok (.bastore, 1))
    (kk : ∀ (H1 : Heap) (locs1 : List Loc), gw_I D A s.heap w' H1 locs1 → W p l e R s m args below meth c H1 locs1 cells slots Q (F0 m (pc + 1) ls rest)) : W p l e R s m args below meth c H locs cells slots Q (F0 m pc ls (.int x :: .int i :: .ref a :: rest)) := by
  subst hset
  exact va_zast B.1.1 B.1.2.1 B.2.2.1 hI.1 hI.2.1 hI.2.2 q0 t0 ha ht hin hdg (fun H1 locs1 hP hD hS => kk H1 locs1 ⟨hP, hD, hS⟩)
theorem gw_alen {q0 t0 a n : Nat} {cA : ClassId} {f : Nat → Int32} {v : Int32} (B : gw_B p s m args meth c cc nL Ts own ret D tys t1 t2 A) (hI : gw_I D A s.heap w H locs) (ha : w[q0]? = some (a, .inl (cA, n, .inl f))) (ht : tys[t0]? = some (cA, .int)) (hv : Int32.ofNat n = v) (hdg : decode cc pc = .ok (.arraylength, 1))
    (kk : W p l e R s m args below meth c H locs cells slots Q (F0 m (pc + 1) ls (.int v :: rest))) : W p l e R s m args below meth c H locs cells slots Q (F0 m pc ls (.ref a :: rest)) :=
  va_alen B.1.1 B.1.2.1 B.2.2.1 hI.1 q0 t0 (x := (n, .inl f)) ha ht hv hdg kk
theorem gw_ifnull {b : Nat → Nat} {v : Int32} {off : Int} {tgt : Nat} (B : gw_B p s m args meth c cc nL Ts own ret D tys t1 t2 A) (hdg : decode cc pc = .ok (.ifnull off, 3)) (ht : (pc : Int) + off = (tgt : Int))
    (kt : v = -1 → W p l e R s m args below meth c H locs cells slots Q (F0 m tgt ls rest)) (kf : ¬ v = -1 → W p l e R s m args below meth c H locs cells slots Q (F0 m (pc + 3) ls rest)) : W p l e R s m args below meth c H locs cells slots Q (F0 m pc ls (va_rf (gw_rf b v) :: rest)) := by
  by_cases h : v = -1
  · rw [gw_rfN h]; exact lv_ifnullN B.1.1 B.1.2.1 hdg ht (kt h)
  · rw [gw_rfP h]; exact lv_ifnull B.1.1 B.1.2.1 hdg (kf h)
theorem gw_ifnonnull {b : Nat → Nat} {v : Int32} {off : Int} {tgt : Nat} (B : gw_B p s m args meth c cc nL Ts own ret D tys t1 t2 A) (hdg : decode cc pc = .ok (.ifnonnull off, 3)) (ht : (pc : Int) + off = (tgt : Int))
    (kt : ¬ v = -1 → W p l e R s m args below meth c H locs cells slots Q (F0 m tgt ls rest)) (kf : v = -1 → W p l e R s m args below meth c H locs cells slots Q (F0 m (pc + 3) ls rest)) : W p l e R s m args below meth c H locs cells slots Q (F0 m pc ls (va_rf (gw_rf b v) :: rest)) := by
  by_cases h : v = -1
  · rw [gw_rfN h]; exact lv_ifnonnullN B.1.1 B.1.2.1 hdg (kf h)
  · rw [gw_rfP h]; exact lv_ifnonnull B.1.1 B.1.2.1 hdg ht (kt h)
theorem gw_null {b : Nat → Nat} (B : gw_B p s m args meth c cc nL Ts own ret D tys t1 t2 A) (hdg : decode cc pc = .ok (.aconst_null, 1)) (kk : W p l e R s m args below meth c H locs cells slots Q (F0 m (pc + 1) ls (va_rf (gw_rf b (-1)) :: rest))) : W p l e R s m args below meth c H locs cells slots Q (F0 m pc ls rest) :=
  lv_null B.1.1 B.1.2.1 hdg (by rw [gw_rf0] at kk; exact kk)
theorem gw_aload {o : Option Nat} {i : Nat} (B : gw_B p s m args meth c cc nL Ts own ret D tys t1 t2 A) (hdg : decode cc pc = .ok (.aload i, 2)) (hl : ls[i]? = some (.val (va_rf o)))
    (kk : W p l e R s m args below meth c H locs cells slots Q (F0 m (pc + 2) ls (va_rf o :: rest))) : W p l e R s m args below meth c H locs cells slots Q (F0 m pc ls rest) := by
  cases o with
  | none => exact lv_aloadN B.1.1 B.1.2.1 hdg hl kk
  | some x => exact lv_aload B.1.1 B.1.2.1 hdg hl kk
theorem gw_aload_n {o : Option Nat} {k : Fin 4} {i : Nat} (B : gw_B p s m args meth c cc nL Ts own ret D tys t1 t2 A) (hdg : decode cc pc = .ok (.aload_n k, 1)) (hi : (k : Nat) = i) (hl : ls[i]? = some (.val (va_rf o)))
    (kk : W p l e R s m args below meth c H locs cells slots Q (F0 m (pc + 1) ls (va_rf o :: rest))) : W p l e R s m args below meth c H locs cells slots Q (F0 m pc ls rest) := by
  cases o with
  | none => exact lv_aload_nN B.1.1 B.1.2.1 hdg hi hl kk
  | some x => exact lv_aload_n B.1.1 B.1.2.1 hdg hi hl kk
theorem gw_astore {o : Option Nat} {i : Nat} {lv lv' : List (Nat × Value)} (B : gw_B p s m args meth c cc nL Ts own ret D tys t1 t2 A) (hdg : decode cc pc = .ok (.astore i, 2)) (h : lv_has ls nL lv) (hn : i < nL) (hl : (i, va_rf o) :: lv.filter (fun q => !(q.1 == i) && !(q.1 + 1 == i && q.2.category == 2)) = lv')
    (kk : ∀ ls' : Array Slot, lv_has ls' nL lv' → W p l e R s m args below meth c H locs cells slots Q (F0 m (pc + 2) ls' rest)) : W p l e R s m args below meth c H locs cells slots Q (F0 m pc ls (va_rf o :: rest)) := by
  cases o with
  | none => exact lv_astoreN B.1.1 B.1.2.1 hdg h hn hl kk
  | some x => exact lv_astore B.1.1 B.1.2.1 hdg h hn hl kk
theorem gw_astore_n {o : Option Nat} {k : Fin 4} {i : Nat} {lv lv' : List (Nat × Value)} (B : gw_B p s m args meth c cc nL Ts own ret D tys t1 t2 A) (hdg : decode cc pc = .ok (.astore_n k, 1)) (hi : (k : Nat) = i) (h : lv_has ls nL lv) (hn : i < nL) (hl : (i, va_rf o) :: lv.filter (fun q => !(q.1 == i) && !(q.1 + 1 == i && q.2.category == 2)) = lv')
    (kk : ∀ ls' : Array Slot, lv_has ls' nL lv' → W p l e R s m args below meth c H locs cells slots Q (F0 m (pc + 1) ls' rest)) : W p l e R s m args below meth c H locs cells slots Q (F0 m pc ls (va_rf o :: rest)) := by
  cases o with
  | none => exact lv_astore_nN B.1.1 B.1.2.1 hdg hi h hn hl kk
  | some x => exact lv_astore_n B.1.1 B.1.2.1 hdg hi h hn hl kk
/-- a switch's row for one number -/
theorem gw_tabIn {dflt lo hi : Int} {offs : Array Int} {len : Nat} {x k : Int32} {off : Int} {tgt : Nat} (B : gw_B p s m args meth c cc nL Ts own ret D tys t1 t2 A) (hx : x = k) (hdg : decode cc pc = .ok (.tableswitch dflt lo hi offs, len)) (h1 : ¬ k.toInt < lo ∧ ¬ hi < k.toInt ∧ offs[(k.toInt - lo).toNat]? = some off) (ht : (pc : Int) + off = (tgt : Int))
    (kk : W p l e R s m args below meth c H locs cells slots Q (F0 m tgt ls rest)) : W p l e R s m args below meth c H locs cells slots Q (F0 m pc ls (.int x :: rest)) := by
  subst hx
  exact lv_tableIn B.1.1 B.1.2.1 hdg h1.1 h1.2.1 h1.2.2 ht kk
theorem gw_lookIn {dflt : Int} {ps : Array (Int × Int)} {len : Nat} {x k : Int32} {off : Int} {tgt : Nat} (B : gw_B p s m args meth c cc nL Ts own ret D tys t1 t2 A) (hx : x = k) (hdg : decode cc pc = .ok (.lookupswitch dflt ps, len)) (hp : (ps.toList.zip (ps.toList.drop 1)).all (fun (a, next) => a.1 < next.1) = true) (ho : Op.lookupswitch.offset ps.toList dflt k.toInt = off) (ht : (pc : Int) + off = (tgt : Int))
    (kk : W p l e R s m args below meth c H locs cells slots Q (F0 m tgt ls rest)) : W p l e R s m args below meth c H locs cells slots Q (F0 m pc ls (.int x :: rest)) := by
  subst hx
  exact lv_lookup B.1.1 B.1.2.1 hdg hp ho ht kk
theorem gw_callVv {y : MethodName} {bytes : ByteArray} {maxL index n b q0 ci : Nat} {retY : Option FieldType} {wsy wsy' : List Cond} {rm : Room} {C : String} {As fs : List Value} {qC : vw_C} (B : gw_B p s m args meth c cc nL Ts own ret D tys t1 t2 A) (hI : gw_I D A s.heap w H locs)
    (hM : gw_M l y wsy rm mc ms D tys t1 t2 (.ref b :: As) w W' none) (hT : GoodIn Ts (wsV own index C y wsy)) (hw : wsy = Cond.code y bytes maxL retY :: wsy') (hrc : rm.cells = mc) (hrs : rm.slots = ms)
    (hd : y.cls = C ∧ y.cls ≠ "java/lang/invoke/MethodHandle" ∧ y.cls ≠ "java/lang/invoke/VarHandle" ∧ (parseMethodDescriptor y.desc).map (fun d => d.parameters.length) = some n) (hR : rm.frames + 1 ≤ R.frames ∧ 8 + (maxL + 11) + rm.locals ≤ R.locals)
    (he : w[q0]? = some (b, .inr (ci, fs))) (hc : vwCl[ci]? = some qC) (hC : qC.1 = C) (hn : As.length = n) (hsz : ls.size = nL) (hr8 : (rest.map fun v => v.category).sum ≤ 8) (hdg : decode cc pc = .ok (.invokevirtual index, 3)) (hf : cells + mc ≤ R.cells ∧ slots + ms ≤ R.slots)
    {st0 : List Value} (hst0 : st0 = As.reverse ++ .ref b :: rest)
    (kk : ∀ (w' : va_W) (H1 : Heap) (locs1 : List Loc), W' w' → gw_I D A s.heap w' H1 locs1 → W p l e R s m args below meth c H1 locs1 (cells + mc) (slots + ms) Q (F0 m (pc + 3) ls rest)) : W p l e R s m args below meth c H locs cells slots Q (F0 m pc ls st0) :=
  gw_callV0 B hI hM hT hw hrc hrs hd hR he hc hC hn hsz hr8 hdg hf hst0 kk
theorem gw_callV {v : Value} {y : MethodName} {bytes : ByteArray} {maxL index n b q0 ci : Nat} {retY : Option FieldType} {wsy wsy' : List Cond} {rm : Room} {C : String} {As fs : List Value} {qC : vw_C} (B : gw_B p s m args meth c cc nL Ts own ret D tys t1 t2 A) (hI : gw_I D A s.heap w H locs)
    (hM : gw_M l y wsy rm mc ms D tys t1 t2 (.ref b :: As) w W' (some v)) (hT : GoodIn Ts (wsV own index C y wsy)) (hw : wsy = Cond.code y bytes maxL retY :: wsy') (hrc : rm.cells = mc) (hrs : rm.slots = ms)
    (hd : y.cls = C ∧ y.cls ≠ "java/lang/invoke/MethodHandle" ∧ y.cls ≠ "java/lang/invoke/VarHandle" ∧ (parseMethodDescriptor y.desc).map (fun d => d.parameters.length) = some n) (hR : rm.frames + 1 ≤ R.frames ∧ 8 + (maxL + 11) + rm.locals ≤ R.locals)
    (he : w[q0]? = some (b, .inr (ci, fs))) (hc : vwCl[ci]? = some qC) (hC : qC.1 = C) (hn : As.length = n) (hsz : ls.size = nL) (hr8 : (rest.map fun v => v.category).sum ≤ 8) (hdg : decode cc pc = .ok (.invokevirtual index, 3)) (hf : cells + mc ≤ R.cells ∧ slots + ms ≤ R.slots)
    {st0 : List Value} (hst0 : st0 = As.reverse ++ .ref b :: rest)
    (kk : ∀ (w' : va_W) (H1 : Heap) (locs1 : List Loc), W' w' → gw_I D A s.heap w' H1 locs1 → W p l e R s m args below meth c H1 locs1 (cells + mc) (slots + ms) Q (F0 m (pc + 3) ls (v :: rest))) : W p l e R s m args below meth c H locs cells slots Q (F0 m pc ls st0) :=
  gw_callV0 B hI hM hT hw hrc hrs hd hR he hc hC hn hsz hr8 hdg hf hst0 kk
theorem gw_callSv {y : MethodName} {bytes : ByteArray} {maxL index n : Nat} {retY : Option FieldType} {wsy wsy' : List Cond} {rm : Room} {As : List Value} (B : gw_B p s m args meth c cc nL Ts own ret D tys t1 t2 A) (hI : gw_I D A s.heap w H locs)
    (hM : gw_M l y wsy rm mc ms D tys t1 t2 As w W' none) (hT : GoodIn Ts (va_wsS own index y wsy)) (hw : wsy = Cond.code y bytes maxL retY :: wsy') (hrc : rm.cells = mc) (hrs : rm.slots = ms)
    (hd : y.cls ≠ "java/lang/invoke/MethodHandle" ∧ y.cls ≠ "java/lang/invoke/VarHandle" ∧ (parseMethodDescriptor y.desc).map (fun d => d.parameters.length) = some n) (hR : rm.frames + 1 ≤ R.frames ∧ 8 + (maxL + 11) + rm.locals ≤ R.locals)
    (hn : As.length = n) (hsz : ls.size = nL) (hr8 : (rest.map fun v => v.category).sum ≤ 8) (hdg : decode cc pc = .ok (.invokestatic index, 3)) (hf : cells + mc ≤ R.cells ∧ slots + ms ≤ R.slots)
    {st0 : List Value} (hst0 : st0 = As.reverse ++ rest)
    (kk : ∀ (w' : va_W) (H1 : Heap) (locs1 : List Loc), W' w' → gw_I D A s.heap w' H1 locs1 → W p l e R s m args below meth c H1 locs1 (cells + mc) (slots + ms) Q (F0 m (pc + 3) ls rest)) : W p l e R s m args below meth c H locs cells slots Q (F0 m pc ls st0) :=
  gw_callS0 B hI hM hT hw hrc hrs hd hR hn hsz hr8 hdg hf hst0 kk
theorem gw_callS {v : Value} {y : MethodName} {bytes : ByteArray} {maxL index n : Nat} {retY : Option FieldType} {wsy wsy' : List Cond} {rm : Room} {As : List Value} (B : gw_B p s m args meth c cc nL Ts own ret D tys t1 t2 A) (hI : gw_I D A s.heap w H locs)
    (hM : gw_M l y wsy rm mc ms D tys t1 t2 As w W' (some v)) (hT : GoodIn Ts (va_wsS own index y wsy)) (hw : wsy = Cond.code y bytes maxL retY :: wsy') (hrc : rm.cells = mc) (hrs : rm.slots = ms)
    (hd : y.cls ≠ "java/lang/invoke/MethodHandle" ∧ y.cls ≠ "java/lang/invoke/VarHandle" ∧ (parseMethodDescriptor y.desc).map (fun d => d.parameters.length) = some n) (hR : rm.frames + 1 ≤ R.frames ∧ 8 + (maxL + 11) + rm.locals ≤ R.locals)
    (hn : As.length = n) (hsz : ls.size = nL) (hr8 : (rest.map fun v => v.category).sum ≤ 8) (hdg : decode cc pc = .ok (.invokestatic index, 3)) (hf : cells + mc ≤ R.cells ∧ slots + ms ≤ R.slots)
    {st0 : List Value} (hst0 : st0 = As.reverse ++ rest)
    (kk : ∀ (w' : va_W) (H1 : Heap) (locs1 : List Loc), W' w' → gw_I D A s.heap w' H1 locs1 → W p l e R s m args below meth c H1 locs1 (cells + mc) (slots + ms) Q (F0 m (pc + 3) ls (v :: rest))) : W p l e R s m args below meth c H locs cells slots Q (F0 m pc ls st0) :=
  gw_callS0 B hI hM hT hw hrc hrs hd hR hn hsz hr8 hdg hf hst0 kk
theorem gw_gets1 {index : Nat} (B : gw_B p s m args meth c cc nL Ts own ret D tys t1 t2 A) (hI : gw_I D A s.heap w H locs) (hlink : Cond.fieldLink own index "GownLet$Terms" "LETTER" "[C" ∈ Ts) (hdg : decode cc pc = .ok (.getstatic index, 3))
    (kk : W p l e R s m args below meth c H locs cells slots Q (F0 m (pc + 3) ls (.ref t1 :: rest))) : W p l e R s m args below meth c H locs cells slots Q (F0 m pc ls rest) :=
  va_gets B.1.1 B.1.2.1 B.2.2.2.1.1.1 hI.2.2 B.1.2.2.2.1 (B.1.2.2.2.2 _ hlink) (fun _ h => h) hdg kk
theorem gw_gets2 {index : Nat} (B : gw_B p s m args meth c cc nL Ts own ret D tys t1 t2 A) (hI : gw_I D A s.heap w H locs) (hlink : Cond.fieldLink own index "GownLet$Terms" "MOST" "[I" ∈ Ts) (hdg : decode cc pc = .ok (.getstatic index, 3))
    (kk : W p l e R s m args below meth c H locs cells slots Q (F0 m (pc + 3) ls (.ref t2 :: rest))) : W p l e R s m args below meth c H locs cells slots Q (F0 m pc ls rest) :=
  va_gets B.1.1 B.1.2.1 B.2.2.2.1.2.1 hI.2.2 B.1.2.2.2.1 (B.1.2.2.2.2 _ hlink) (fun _ h => h) hdg kk
theorem gw_t1 {i : Int32} (B : gw_B p s m args meth c cc nL Ts own ret D tys t1 t2 A) (hI : gw_I D A s.heap w H locs) (hin : gw_in i 8) (hdg : decode cc pc = .ok (.caload, 1))
    (kk : W p l e R s m args below meth c H locs cells slots Q (F0 m (pc + 1) ls (.int (gw_LET i.toNatClampNeg) :: rest))) : W p l e R s m args below meth c H locs cells slots Q (F0 m pc ls (.int i :: .ref t1 :: rest)) :=
  va_tc B.1.1 B.1.2.1 B.2.2.2.1.1.2 hI.2.2 hin rfl hdg kk
theorem gw_t2 {i : Int32} (B : gw_B p s m args meth c cc nL Ts own ret D tys t1 t2 A) (hI : gw_I D A s.heap w H locs) (hin : gw_in i 8) (hdg : decode cc pc = .ok (.iaload, 1))
    (kk : W p l e R s m args below meth c H locs cells slots Q (F0 m (pc + 1) ls (.int (gw_MST i.toNatClampNeg) :: rest))) : W p l e R s m args below meth c H locs cells slots Q (F0 m pc ls (.int i :: .ref t2 :: rest)) :=
  va_ti B.1.1 B.1.2.1 B.2.2.2.1.2.2.1 hI.2.2 hin rfl hdg kk
theorem gw_mmax {index : Nat} (B : gw_B p s m args meth c cc nL Ts own ret D tys t1 t2 A) (hsz : ls.size = nL) (hown : s.vm.findClass own = some m.cls) (hlink : Cond.methodLink own index Lib.Math.max.name ∈ Ts) (hstat : Cond.static Lib.Math.max.name ∈ Ts) (hini : Cond.initialized "java/lang/Math" ∈ Ts) (hcode : Cond.code Lib.Math.max.name Lib.Math.max.code 2 (some .int) ∈ Ts)
    (hframes : 1 ≤ R.frames) (hlocals : (rest.map fun v => v.category).sum + 13 ≤ R.locals) (hc : cells ≤ R.cells) (hs : slots ≤ R.slots) {x y : Int32} (hdg : decode cc pc = .ok (.invokestatic index, 3))
    (kk : W p l e R s m args below meth c H locs cells slots Q (F0 m (pc + 3) ls (.int (if x < y then y else x) :: rest))) : W p l e R s m args below meth c H locs cells slots Q (F0 m pc ls (.int y :: .int x :: rest)) :=
  va_mmax B.1.1 B.1.2.1 (by rw [hsz]; exact B.1.2.2.1) hown (B.1.2.2.2.2 _ hlink) (B.1.2.2.2.2 _ hstat) (B.1.2.2.2.2 _ hini) (B.1.2.2.2.2 _ hcode) hframes hlocals hc hs hdg kk
theorem gw_mmin {index : Nat} (B : gw_B p s m args meth c cc nL Ts own ret D tys t1 t2 A) (hsz : ls.size = nL) (hown : s.vm.findClass own = some m.cls) (hlink : Cond.methodLink own index Lib.Math.min.name ∈ Ts) (hstat : Cond.static Lib.Math.min.name ∈ Ts) (hini : Cond.initialized "java/lang/Math" ∈ Ts) (hcode : Cond.code Lib.Math.min.name Lib.Math.min.code 2 (some .int) ∈ Ts)
    (hframes : 1 ≤ R.frames) (hlocals : (rest.map fun v => v.category).sum + 13 ≤ R.locals) (hc : cells ≤ R.cells) (hs : slots ≤ R.slots) {x y : Int32} (hdg : decode cc pc = .ok (.invokestatic index, 3))
    (kk : W p l e R s m args below meth c H locs cells slots Q (F0 m (pc + 3) ls (.int (if y < x then y else x) :: rest))) : W p l e R s m args below meth c H locs cells slots Q (F0 m pc ls (.int y :: .int x :: rest)) :=
  va_mmin B.1.1 B.1.2.1 (by rw [hsz]; exact B.1.2.2.1) hown (B.1.2.2.2.2 _ hlink) (B.1.2.2.2.2 _ hstat) (B.1.2.2.2.2 _ hini) (B.1.2.2.2.2 _ hcode) hframes hlocals hc hs hdg kk
theorem gw_mabs {index : Nat} (B : gw_B p s m args meth c cc nL Ts own ret D tys t1 t2 A) (hsz : ls.size = nL) (hown : s.vm.findClass own = some m.cls) (hlink : Cond.methodLink own index Lib.Math.abs.name ∈ Ts) (hstat : Cond.static Lib.Math.abs.name ∈ Ts) (hini : Cond.initialized "java/lang/Math" ∈ Ts) (hcode : Cond.code Lib.Math.abs.name Lib.Math.abs.code 1 (some .int) ∈ Ts)
    (hframes : 1 ≤ R.frames) (hlocals : (rest.map fun v => v.category).sum + 13 ≤ R.locals) (hc : cells ≤ R.cells) (hs : slots ≤ R.slots) {x : Int32} (hdg : decode cc pc = .ok (.invokestatic index, 3))
    (kk : W p l e R s m args below meth c H locs cells slots Q (F0 m (pc + 3) ls (.int (if 0 ≤ x then x else 0 - x) :: rest))) : W p l e R s m args below meth c H locs cells slots Q (F0 m pc ls (.int x :: rest)) :=
  va_mabs B.1.1 B.1.2.1 (by rw [hsz]; exact B.1.2.2.1) hown (B.1.2.2.2.2 _ hlink) (B.1.2.2.2.2 _ hstat) (B.1.2.2.2.2 _ hini) (B.1.2.2.2.2 _ hcode) hframes hlocals hc hs hdg kk
theorem gw_getN {index q0 a ci N k : Nat} {fs : List Value} {C ref n d : String} {T : u_T} {v : Value} (B : gw_B p s m args meth c cc nL Ts own ret D tys t1 t2 A) (hI : gw_I D A s.heap w H locs) (he : w[q0]? = some (a, .inr (ci, fs))) (hc : vwCl[ci]? = some (C, T, N)) (hin : ∀ w ∈ u_ws C T N, w ∈ Ts) (hk : k < N) (hlink : (own, index, ref, n, d) ∈ gw_nf) (hT : T k = (ref, n, d, (T k).2.2.2)) (hv : fs[k]? = some v) (hdg : decode cc pc = .ok (.getfield index, 3))
    (kk : W p l e R s m args below meth c H locs cells slots Q (F0 m (pc + 3) ls (v :: rest))) : W p l e R s m args below meth c H locs cells slots Q (F0 m pc ls (.ref a :: rest)) :=
  va_getN (D := D) (host := "GownLet") B.1.1 B.1.2.1 B.1.2.2.2.2 hin B.1.2.2.2.1 B.2.2.1 hI.1 q0 he hc k hk (by rw [hT]; exact (B.2.2.2.1.2.2.2.1 _ hlink).use rfl) (by rw [hT]; exact fun _ h => h) hv hdg kk
theorem gw_putN {index q0 a ci N k : Nat} {fs : List Value} {C ref n d : String} {T : u_T} {v : Value} {ty : FieldType} {w' : va_W} (B : gw_B p s m args meth c cc nL Ts own ret D tys t1 t2 A) (hI : gw_I D A s.heap w H locs) (he : w[q0]? = some (a, .inr (ci, fs))) (hc : vwCl[ci]? = some (C, T, N)) (hin : ∀ w ∈ u_ws C T N, w ∈ Ts) (ty0 : Nat → FieldType) (hty : ∀ k, k < N → parseFieldDescriptor (T k).2.2.1 = some (ty0 k)) (hnm : ∀ a, a < N → ∀ b, b < N → a ≠ b → (T a).2.1 ≠ (T b).2.1) (hk : k < N) (hlink : (own, index, ref, n, d) ∈ gw_nf) (hT : T k = (ref, n, d, false)) (hd : ty0 k = ty) (hn : narrow ty v = v) (hfit : fits ty v = true) (hl : k < fs.length) (hset : w.set q0 (a, .inr (ci, fs.set k v)) = w') (hdg : decode cc pc = .ok (.putfield index, 3))
    (kk : ∀ (H1 : Heap) (locs1 : List Loc), gw_I D A s.heap w' H1 locs1 → W p l e R s m args below meth c H1 locs1 cells slots Q (F0 m (pc + 3) ls rest)) : W p l e R s m args below meth c H locs cells slots Q (F0 m pc ls (v :: .ref a :: rest)) := by
  subst hset
  subst hd
  exact va_putN (D := D) (ty := ty0 k) (host := "GownLet") B.1.1 B.1.2.1 B.1.2.2.2.2 hin ty0 hty hnm B.1.2.2.2.1 B.2.2.1 hI.1 hI.2.1 hI.2.2 q0 he hc k hk (by rw [hT]; exact (B.2.2.2.1.2.2.2.1 _ hlink).use rfl) (by rw [hT]; exact fun _ h => h) (by rw [hT]) (hty k hk) hn hfit hl hdg (fun H1 locs1 hP hD hS => kk H1 locs1 ⟨hP, hD, hS⟩)
theorem gw_callSN {v : Value} {y : MethodName} {bytes : ByteArray} {maxL index n : Nat} {retY : Option FieldType} {wsy wsy' : List Cond} {rm : Room} {As : List Value} (B : gw_B p s m args meth c cc nL Ts own ret D tys t1 t2 A) (hI : gw_I D A s.heap w H locs)
    (hM : gw_M l y wsy rm mc ms D tys t1 t2 As w W' (some v)) (hG : GoodIn Ts wsy) (hw : wsy = Cond.code y bytes maxL retY :: wsy') (hrc : rm.cells = mc) (hrs : rm.slots = ms) (hl : (own, index, y) ∈ gw_nm) (hini : Cond.initialized y.cls ∈ Ts) (hst : Cond.static y ∈ Ts)
    (hd : y.cls ≠ "java/lang/invoke/MethodHandle" ∧ y.cls ≠ "java/lang/invoke/VarHandle" ∧ (parseMethodDescriptor y.desc).map (fun d => d.parameters.length) = some n) (hR : rm.frames + 1 ≤ R.frames ∧ 8 + (maxL + 11) + rm.locals ≤ R.locals)
    (hn : As.length = n) (hsz : ls.size = nL) (hr8 : (rest.map fun v => v.category).sum ≤ 8) (hdg : decode cc pc = .ok (.invokestatic index, 3)) (hf : cells + mc ≤ R.cells ∧ slots + ms ≤ R.slots)
    {st0 : List Value} (hst0 : st0 = As.reverse ++ rest)
    (kk : ∀ (w' : va_W) (H1 : Heap) (locs1 : List Loc), W' w' → gw_I D A s.heap w' H1 locs1 → W p l e R s m args below meth c H1 locs1 (cells + mc) (slots + ms) Q (F0 m (pc + 3) ls (v :: rest))) : W p l e R s m args below meth c H locs cells slots Q (F0 m pc ls st0) := by
  obtain ⟨C0, -, hK, hst0', hA⟩ := B
  exact gw_go (va_runSN (As := As) (rest := rest) C0 (hM H.size) ⟨va_cnB (host := "GownLet") n C0.2.2.2.2 hG hw hrc hrs (hst0'.2.2.2.2.1 _ hl) (C0.2.2.2.2 _ hini) hd hR, C0.2.2.2.2 _ hst, trivial⟩ ⟨gw_blind, fun U hU hW => ⟨rfl, gw_pre hK hst0' hA hI U hU hW⟩⟩ rfl hn hsz hst0 (lv_room hr8) hdg hf) hI hA kk
end GW
