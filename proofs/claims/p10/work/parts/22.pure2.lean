/-! pure functions of what makes objects: printed by wip/gen -/
def gw_al (n : Nat) (l : List Nat) : Nat → Nat := fun k => l.getD (k - n) 0
theorem gw_shF {f9 : Nat → Nat} {a : Nat → Nat} {x0 x1 x2 x3 : Nat} (h0 : a 21 = x0) (h1 : a 22 = x1) (h2 : a 23 = x2) (h3 : a 24 = x3) : va_up (va_up (va_up (va_up (fun _ => gw_rf f9 (-1)) 0 (some x0)) 1 (some x1)) 2 (some x2)) 3 (some x3) = fun i => if i < 4 then some (a (21 + i)) else none := by
  funext i
  subst h0 h1 h2 h3
  rcases (show i = 0 ∨ i = 1 ∨ i = 2 ∨ i = 3 ∨ 4 ≤ i by omega) with rfl | rfl | rfl | rfl | h
  · simp [va_up]
  · simp [va_up]
  · simp [va_up]
  · simp [va_up]
  · simp [va_up, gw_rf, show ¬ i < 4 by omega, show ¬ i = 0 by omega, show ¬ i = 1 by omega, show ¬ i = 2 by omega, show ¬ i = 3 by omega]
theorem gw_permI {w w' : va_W} (is : List Nat) (hp : is.Perm (List.range w.length)) (h : is.map (fun i => w[i]?) = w'.map some) : w.Perm w' := by
  have h1 : (List.range w.length).map (fun i => w[i]?) = w.map some := by
    apply List.ext_getElem?
    intro k
    simp only [List.getElem?_map]
    by_cases hk : k < w.length
    · simp [hk]
    · simp [hk]
  have h2 := hp.map (fun i => w[i]?)
  rw [h, h1] at h2
  have h3 := h2.filterMap id
  simpa using h3.symm
def f_X2_keep (x1 : Int32) (S : gw_S) : Option (Int32 × gw_S) := (if (S 3 6) < (24 : Int32) then gw_gd (¬ x1 = -1) (gw_gd (x1.toNatClampNeg < gw_np S) (gw_let (gw_up S (2 * x1.toNatClampNeg + 30) 7 (S 3 6)) (fun S4 => gw_gd (x1.toNatClampNeg < gw_np S4) (gw_gd (gw_in (S4 3 6) 24) (gw_let (gw_up S4 12 (S4 3 6).toNatClampNeg x1) (fun S8 => gw_let (gw_up S8 3 6 ((S8 3 6) + (1 : Int32))) (fun S10 => gw_gd (x1.toNatClampNeg < gw_np S10) (some ((S10 (2 * x1.toNatClampNeg + 30) 7), S10))))))))) else some ((-3 : Int32), S))
abbrev rm_X2_keep : Room := { frames := 0, cells := 0, slots := 0, locals := 0 }
def f_X2_addBooking (x1 : Int32) (x2 : Int32) (x3 : Int32) (x4 : Int32) (x5 : Int32) (x6 : Int32) (S : gw_S) : Option (gw_S) := gw_bd (f_X2_hasRoomForBookings (1 : Int32) S) (fun r1 => (if r1 = 0 then some S else gw_gd (gw_okB S) (gw_let (gw_addB S (S 3 7) x1 x2 x3 x4 x5 x6) (fun S6 => gw_gd (¬ (S 29 1) = -1) (gw_gd ((S 29 1).toNatClampNeg < gw_nb S6) (gw_gd (gw_in (S 3 7) 30) (gw_let (gw_up S6 13 (S 3 7).toNatClampNeg (S 29 1)) (fun S13 => gw_let (gw_up S13 3 7 ((S13 3 7) + (1 : Int32))) (fun S15 => some S15)))))))))
abbrev rm_X2_addBooking : Room := { frames := 5, cells := 1, slots := 14, locals := 200 }
def f_X8_addPiece (x1 : Int32) (x2 : Int32) (x3 : Int32) (x4 : Int32) (x5 : Int32) (x6 : Int32) (x7 : Int32) (S : gw_S) : Option (Int32 × gw_S) := gw_bd (f_X8_isMaker x2 S) (fun r1 => (if r1 = 0 then some ((-1 : Int32), S) else gw_bd (f_X8_isLabel x3 S) (fun r4 => (if r4 = 0 then some ((-1 : Int32), S) else gw_bd (f_X8_isIn x4 (0 : Int32) (9 : Int32) S) (fun r7 => (if r7 = 0 then some ((-1 : Int32), S) else gw_bd (f_X8_isTown x5 S) (fun r10 => (if r10 = 0 then some ((-1 : Int32), S) else gw_bd (f_X8_isIn x6 (1 : Int32) (9999 : Int32) S) (fun r13 => (if r13 = 0 then some ((-1 : Int32), S) else gw_bd (f_X8_isIn x7 (1 : Int32) (99 : Int32) S) (fun r16 => (if r16 = 0 then some ((-1 : Int32), S) else (if (S 3 6) < (24 : Int32) then gw_gd (gw_okP S) (gw_let (gw_addP S x1 x2 x3 x4 x5 x6 x7) (fun S22 => gw_b2 (f_X2_keep (S 29 0) S22) (fun r26 S27 => some (r26, S27)))) else some ((-3 : Int32), S))))))))))))))
abbrev rm_X8_addPiece : Room := { frames := 5, cells := 1, slots := 12, locals := 200 }
def f_X8_gown (x1 : Int32) (x2 : Int32) (x3 : Int32) (x4 : Int32) (x5 : Int32) (x6 : Int32) (S : gw_S) : Option (Int32 × gw_S) := gw_b2 (f_X8_addPiece (0 : Int32) x1 x2 x3 x4 x5 x6 S) (fun r1 S2 => some (r1, S2))
abbrev rm_X8_gown : Room := { frames := 6, cells := 1, slots := 12, locals := 240 }
def f_X8_longGown (x1 : Int32) (x2 : Int32) (x3 : Int32) (x4 : Int32) (x5 : Int32) (x6 : Int32) (S : gw_S) : Option (Int32 × gw_S) := gw_b2 (f_X8_addPiece (1 : Int32) x1 x2 x3 x4 x5 x6 S) (fun r1 S2 => some (r1, S2))
abbrev rm_X8_longGown : Room := { frames := 6, cells := 1, slots := 12, locals := 240 }
def f_X8_suit (x1 : Int32) (x2 : Int32) (x3 : Int32) (x4 : Int32) (x5 : Int32) (x6 : Int32) (S : gw_S) : Option (Int32 × gw_S) := gw_b2 (f_X8_addPiece (2 : Int32) x1 x2 x3 x4 x5 x6 S) (fun r1 S2 => some (r1, S2))
abbrev rm_X8_suit : Room := { frames := 6, cells := 1, slots := 12, locals := 240 }
def f_X8_book (x1 : Int32) (x2 : Int32) (x3 : Int32) (x4 : Int32) (x5 : Int32) (x6 : Int32) (S : gw_S) : Option (Int32 × gw_S) := gw_bd (f_X8_isBookingAsTold x1 x2 x3 x4 x5 x6 S) (fun r1 => (if r1 = 0 then some ((-1 : Int32), S) else gw_bd (f_X2_hasRoomForBookings (1 : Int32) S) (fun r4 => (if r4 = 0 then some ((-3 : Int32), S) else gw_bd (f_X2_addBooking x1 x2 x3 x4 x5 x6 S) (fun S7 => some (((S7 3 7) - (1 : Int32)), S7))))))
abbrev rm_X8_book : Room := { frames := 6, cells := 1, slots := 14, locals := 240 }
def f_X8_addBookingOnSheet (x1 : Int32) (x2 : Int32) (S : gw_S) : Option (gw_S) := gw_gd (x1.toNatClampNeg < 4) (gw_bd (f_X5_get x1 x2 S) (fun r2 => gw_bd (f_X5_get x1 (x2 + (1 : Int32)) S) (fun r4 => gw_bd (f_X5_get x1 (x2 + (2 : Int32)) S) (fun r6 => gw_bd (f_X5_get x1 (x2 + (3 : Int32)) S) (fun r8 => gw_bd (f_X5_get x1 (x2 + (4 : Int32)) S) (fun r10 => gw_bd (f_X5_get x1 (x2 + (5 : Int32)) S) (fun r12 => gw_bd (f_X2_addBooking r2 r4 r6 r8 r10 r12 S) (fun S14 => some S14))))))))
abbrev rm_X8_addBookingOnSheet : Room := { frames := 6, cells := 1, slots := 14, locals := 240 }
def f_X8_books_b120  : Nat → Int32 → Int32 → Int32 → Int32 → gw_S → Option (Int32 × gw_S)
  | 0, _, _, _, _, _ => none
  | n + 1, v3, v4, v5, v7, S => (if v4 ≤ v7 then some ((S 3 7), S) else gw_bd (f_X8_addBookingOnSheet v5 (v3 + (v7 * (6 : Int32))) S) (fun S2 => gw_let (v7 + (1 : Int32) : Int32) (fun y6 => (f_X8_books_b120  n) v3 v4 v5 y6 S2)))
def f_X8_books_b71  : Nat → Int32 → Int32 → Int32 → Int32 → gw_S → Option (Int32 × gw_S)
  | 0, _, _, _, _, _ => none
  | n + 1, v3, v4, v5, v7, S => (if v4 ≤ v7 then gw_bd (f_X2_hasRoomForBookings v4 S) (fun r9 => (if r9 = 0 then some ((-3 : Int32), S) else f_X8_books_b120  7 v3 v4 v5 (0 : Int32) S)) else gw_bd (f_X8_isBookingOnSheet v5 (v3 + (v7 * (6 : Int32))) S) (fun r12 => (if r12 = 0 then some ((-2 : Int32), S) else gw_let (v7 + (1 : Int32) : Int32) (fun y15 => (f_X8_books_b71  n) v3 v4 v5 y15 S))))
def f_X8_books (x1 : Int32) (x2 : Int32) (x3 : Int32) (x4 : Int32) (S : gw_S) : Option (Int32 × gw_S) := gw_bd (f_X8_isSheet x1 S) (fun r17 => (if r17 = 0 then some ((-1 : Int32), S) else gw_bd (f_X8_isLane x2 S) (fun r20 => (if r20 = 0 then some ((-1 : Int32), S) else gw_bd (f_X8_isIn x4 (0 : Int32) (6 : Int32) S) (fun r23 => (if r23 = 0 then some ((-1 : Int32), S) else gw_gd (gw_in x1 4) (gw_gd (x1.toNatClampNeg < 4) (gw_bd (f_X5_refusalAs x1 x2 S) (fun r28 => (if r28 = 0 then gw_bd (f_X5_hasItems x1 x3 (x4 * (6 : Int32)) S) (fun r31 => (if r31 = 0 then some ((-13 : Int32), S) else f_X8_books_b71  gw_F x3 x4 x1 (0 : Int32) S)) else some (r28, S)))))))))))
abbrev rm_X8_books : Room := { frames := 7, cells := 7, slots := 98, locals := 280 }
def f_X3_init_t_b86 (K30 : Int32 → gw_S → Option (gw_S)) (K38 : Int32 → Int32 → gw_S → Option (gw_S)) : Int32 → Int32 → Int32 → Int32 → gw_S → Option (gw_S) := fun v1 v2 t0_ t1_ S => gw_gd (gw_in t1_ 36) (gw_let (gw_up S 8 t1_.toNatClampNeg t0_) (fun S2 => gw_let (v2 + (1 : Int32) : Int32) (fun y4 => K38 v1 y4 S2)))
def f_X3_init_t_b64 (K30 : Int32 → gw_S → Option (gw_S)) (K38 : Int32 → Int32 → gw_S → Option (gw_S)) : Int32 → Int32 → Int32 → Int32 → gw_S → Option (gw_S) := fun v1 v2 t0_ t1_ S => gw_let ((t1_ + t0_) : Int32) (fun y6 => (if v1 = v2 then f_X3_init_t_b86 K30 K38 v1 v2 (0 : Int32) ((v1 * (6 : Int32)) + v2) S else f_X3_init_t_b86 K30 K38 v1 v2 y6 ((v1 * (6 : Int32)) + v2) S))
def f_X3_init_t_b54 (K30 : Int32 → gw_S → Option (gw_S)) (K38 : Int32 → Int32 → gw_S → Option (gw_S)) : Int32 → Int32 → Int32 → gw_S → Option (gw_S) := fun v1 v2 t0_ S => (if v2 = 0 then f_X3_init_t_b64 K30 K38 v1 v2 (0 : Int32) t0_ S else f_X3_init_t_b64 K30 K38 v1 v2 (9 : Int32) t0_ S)
def f_X3_init_t_b38 (K30 : Int32 → gw_S → Option (gw_S)) : Nat → Int32 → Int32 → gw_S → Option (gw_S)
  | 0, _, _, _ => none
  | n + 1, v1, v2, S => (if (6 : Int32) ≤ v2 then gw_let (v1 + (1 : Int32) : Int32) (fun y11 => K30 y11 S) else (if v1 = 0 then f_X3_init_t_b54 K30 (f_X3_init_t_b38 K30 n) v1 v2 (0 : Int32) S else f_X3_init_t_b54 K30 (f_X3_init_t_b38 K30 n) v1 v2 (9 : Int32) S))
def f_X3_init_t_b30  : Nat → Int32 → gw_S → Option (gw_S)
  | 0, _, _ => none
  | n + 1, v1, S => (if (6 : Int32) ≤ v1 then gw_bd (f_X3_readEnds_l  S) (fun S15 => some S15) else f_X3_init_t_b38 (f_X3_init_t_b30  n) gw_F v1 (0 : Int32) S)
def f_X3_init_t (S : gw_S) : Option (gw_S) := f_X3_init_t_b30  gw_F (0 : Int32) S
def f_X2_init_t_b96 (K62 : Int32 → gw_S → Option (gw_S)) (K70 : Int32 → Int32 → gw_S → Option (gw_S)) : Int32 → Int32 → Int32 → Int32 → gw_S → Option (gw_S) := fun v1 v2 t0_ t1_ S => gw_gd (gw_in t1_ 81) (gw_let (gw_up S 11 t1_.toNatClampNeg t0_) (fun S2 => gw_let (v2 + (1 : Int32) : Int32) (fun y4 => K70 v1 y4 S2)))
def f_X2_init_t_b70 (K62 : Int32 → gw_S → Option (gw_S)) : Nat → Int32 → Int32 → gw_S → Option (gw_S)
  | 0, _, _, _ => none
  | n + 1, v1, v2, S => (if (9 : Int32) ≤ v2 then gw_let (v1 + (1 : Int32) : Int32) (fun y7 => K62 y7 S) else (if v1 = v2 then f_X2_init_t_b96 K62 (f_X2_init_t_b70 K62 n) v1 v2 (0 : Int32) ((v1 * (9 : Int32)) + v2) S else f_X2_init_t_b96 K62 (f_X2_init_t_b70 K62 n) v1 v2 (1 : Int32) ((v1 * (9 : Int32)) + v2) S))
def f_X2_init_t_b62  : Nat → Int32 → gw_S → Option (gw_S)
  | 0, _, _ => none
  | n + 1, v1, S => (if (9 : Int32) ≤ v1 then some S else f_X2_init_t_b70 (f_X2_init_t_b62  n) gw_F v1 (0 : Int32) S)
def f_X2_init_t (S : gw_S) : Option (gw_S) := f_X2_init_t_b62  gw_F (0 : Int32) S
def f_X9_init_t_b540  : Nat → Int32 → gw_S → Option (gw_S)
  | 0, _, _ => none
  | n + 1, v1, S => (if (4 : Int32) ≤ v1 then some S else gw_gd (gw_in v1 4) (gw_let (gw_up S 43 v1.toNatClampNeg (-1 : Int32)) (fun S3 => gw_let (v1 + (1 : Int32) : Int32) (fun y5 => (f_X9_init_t_b540  n) y5 S3))))
def f_X9_init_t_b525 (K491 : Int32 → gw_S → Option (gw_S)) (K499 : Int32 → Int32 → gw_S → Option (gw_S)) : Int32 → Int32 → Int32 → Int32 → gw_S → Option (gw_S) := fun v1 v2 t0_ t1_ S => gw_gd (gw_in t1_ 81) (gw_let (gw_up S 6 t1_.toNatClampNeg t0_) (fun S8 => gw_let (v2 + (1 : Int32) : Int32) (fun y10 => K499 v1 y10 S8)))
def f_X9_init_t_b499 (K491 : Int32 → gw_S → Option (gw_S)) : Nat → Int32 → Int32 → gw_S → Option (gw_S)
  | 0, _, _, _ => none
  | n + 1, v1, v2, S => (if (9 : Int32) ≤ v2 then gw_let (v1 + (1 : Int32) : Int32) (fun y13 => K491 y13 S) else (if v1 = v2 then f_X9_init_t_b525 K491 (f_X9_init_t_b499 K491 n) v1 v2 (0 : Int32) (((9 : Int32) * v1) + v2) S else f_X9_init_t_b525 K491 (f_X9_init_t_b499 K491 n) v1 v2 (1 : Int32) (((9 : Int32) * v1) + v2) S))
def f_X9_init_t_b491  : Nat → Int32 → gw_S → Option (gw_S)
  | 0, _, _ => none
  | n + 1, v1, S => (if (9 : Int32) ≤ v1 then f_X9_init_t_b540  gw_F (0 : Int32) S else f_X9_init_t_b499 (f_X9_init_t_b491  n) gw_F v1 (0 : Int32) S)
def f_X9_init_t (S : gw_S) : Option (gw_S) := f_X9_init_t_b491  gw_F (0 : Int32) S
def gw_SH (zL : gw_S) : gw_S := fun k => if k = 5 then (upd (upd (upd (upd (upd (upd (upd (upd (fun _ => 0) 0 (1 : Int32)) 1 (2 : Int32)) 2 (50 : Int32)) 3 (30 : Int32)) 4 (1 : Int32)) 5 (200 : Int32)) 6 (900 : Int32)) 7 (3 : Int32)) else if k = 12 then (fun _ => -1) else if k = 13 then (fun _ => -1) else if k = 7 then zL 7 else if k = 8 then zL 8 else if k = 9 then zL 9 else if k = 10 then zL 10 else fun _ => 0
def gw_SG (zH : gw_S) : gw_S := fun k => if 3 ≤ k ∧ k ≤ 14 then zH k else fun _ => 0
def gw_SM : gw_S := fun k => if k = 1 then (upd (upd (upd (upd (upd (upd (upd (upd (fun _ => 0) 0 (104 : Int32)) 1 (99 : Int32)) 2 (108 : Int32)) 3 (100 : Int32)) 4 (101 : Int32)) 5 (115 : Int32)) 6 (116 : Int32)) 7 (119 : Int32)) else if k = 2 then (upd (upd (upd (upd (upd (upd (upd (upd (fun _ => 0) 0 (9 : Int32)) 1 (9 : Int32)) 2 (999 : Int32)) 3 (100 : Int32)) 4 (9 : Int32)) 5 (999 : Int32)) 6 (999 : Int32)) 7 (3 : Int32)) else if k = 3 then (upd (upd (upd (upd (upd (upd (upd (upd (fun _ => 0) 0 (1 : Int32)) 1 (2 : Int32)) 2 (50 : Int32)) 3 (30 : Int32)) 4 (1 : Int32)) 5 (200 : Int32)) 6 (900 : Int32)) 7 (3 : Int32)) else fun _ => 0
