/-! the worlds: printed by wip/gen/worlds.py -/
abbrev gw_ty (cc : Nat → ClassId) : gw_TY := [(cc 0, .int), (cc 1, .byte), (cc 2, .boolean), (cc 3, .object "GownLet$Piece"), (cc 4, .object "GownLet$Booking"), (cc 5, .object "GownLet$Sheet")]
theorem gw_upE {S : gw_S} {k i : Nat} {v : Int32} : gw_up S k i v k = upd (S k) i v := by simp [gw_up]
theorem gw_upN {S : gw_S} {k i j : Nat} {v : Int32} (h : j ≠ k) : gw_up S k i v j = S j := by simp [gw_up, h]
def gw_np (S : gw_S) : Nat := (S 29 0).toNatClampNeg
def gw_nb (S : gw_S) : Nat := (S 29 1).toNatClampNeg
abbrev gw_pF (S : gw_S) (i : Nat) : List Value := [.int (S (2 * i + 30) 0), .int (S (2 * i + 30) 1), .int (S (2 * i + 30) 2), .int (S (2 * i + 30) 3), .int (S (2 * i + 30) 4), .int (S (2 * i + 30) 5), .int (S (2 * i + 30) 6), .int (S (2 * i + 30) 7), .int (S (2 * i + 30) 8), .int (S (2 * i + 30) 9), .int (S (2 * i + 30) 10), .int (S (2 * i + 30) 11)]
abbrev gw_bF (b : Nat → Nat) (S : gw_S) (j : Nat) : List Value := [.int (S (2 * j + 31) 0), .int (S (2 * j + 31) 1), .int (S (2 * j + 31) 2), .int (S (2 * j + 31) 3), .int (S (2 * j + 31) 4), .int (S (2 * j + 31) 5), .int (S (2 * j + 31) 6), .int (S (2 * j + 31) 7), va_rf (gw_rf b (S (2 * j + 31) 8)), .int (S (2 * j + 31) 9), .int (S (2 * j + 31) 10), .int (S (2 * j + 31) 11), .int (S (2 * j + 31) 12), .int (S (2 * j + 31) 13)]
def gw_fix (cc : Nat → ClassId) (a b d : Nat → Nat) (S : gw_S) : va_W := [(a 0, .inr (8, [.ref (a 1), .ref (a 3), .ref (a 15), .ref (a 20)])), (a 1, .inr (6, [.ref (a 2), .int (S 1 1)])), (a 2, .inl (cc 1, 60, .inl (S 2))), (a 3, .inr (2, [.ref (a 4), .ref (a 7), .ref (a 11), .ref (a 12), .ref (a 13), .ref (a 14), .int (S 3 6), .int (S 3 7)])), (a 4, .inr (7, [.ref (a 5), .ref (a 6)])), (a 5, .inl (cc 0, 8, .inl (S 5))), (a 6, .inl (cc 0, 8, .inl (S 6))), (a 7, .inr (3, [.ref (a 8), .ref (a 9), .ref (a 10), .int (S 7 3), .int (S 7 4)])), (a 8, .inl (cc 0, 36, .inl (S 8))), (a 9, .inl (cc 0, 6, .inl (S 9))), (a 10, .inl (cc 0, 6, .inl (S 10))), (a 11, .inl (cc 0, 81, .inl (S 11))), (a 12, .inl (cc 3, 24, .inr (.inr (.inr (.inr (fun i => gw_rf b (S 12 i))))))), (a 13, .inl (cc 4, 30, .inr (.inr (.inr (.inr (fun i => gw_rf d (S 13 i))))))), (a 14, .inl (cc 2, 30, .inl (S 14))), (a 15, .inr (1, [.ref (a 3), .ref (a 16), .ref (a 17), .ref (a 18), .ref (a 19), .int (S 15 5)])), (a 16, .inl (cc 0, 720, .inl (S 16))), (a 17, .inl (cc 0, 30, .inl (S 17))), (a 18, .inl (cc 0, 4, .inl (S 18))), (a 19, .inl (cc 0, 4, .inl (S 19))), (a 20, .inl (cc 5, 4, .inr (.inr (.inr (.inr (fun i => if i < 4 then some (a (21 + i)) else none)))))), (a 21, .inr (5, [.ref (a 25), .int (S 21 1), .int (S 21 2), .int (S 21 3)])), (a 22, .inr (5, [.ref (a 26), .int (S 22 1), .int (S 22 2), .int (S 22 3)])), (a 23, .inr (5, [.ref (a 27), .int (S 23 1), .int (S 23 2), .int (S 23 3)])), (a 24, .inr (5, [.ref (a 28), .int (S 24 1), .int (S 24 2), .int (S 24 3)])), (a 25, .inl (cc 0, 36, .inl (S 25))), (a 26, .inl (cc 0, 36, .inl (S 26))), (a 27, .inl (cc 0, 36, .inl (S 27))), (a 28, .inl (cc 0, 36, .inl (S 28)))]
def gw_pool (b d : Nat → Nat) (S : gw_S) : va_W := (List.range (gw_np S)).map (fun i => (b i, .inr (4, gw_pF S i))) ++ (List.range (gw_nb S)).map (fun j => (d j, .inr (0, gw_bF b S j)))
def gw_cw (cc : Nat → ClassId) (a b d : Nat → Nat) (S : gw_S) : va_W := gw_fix cc a b d S ++ gw_pool b d S
theorem gw_poolK {b d : Nat → Nat} {S S1 : gw_S} (h0 : S1 29 = S 29) (hp : ∀ i, S1 (2 * i + 30) = S (2 * i + 30)) (hb : ∀ j, S1 (2 * j + 31) = S (2 * j + 31)) : gw_pool b d S = gw_pool b d S1 := by simp only [gw_pool, gw_np, gw_nb, gw_pF, gw_bF, h0, hp, hb]
theorem gw_fixset {cc : Nat → ClassId} {a b d : Nat → Nat} {S : gw_S} {k i : Nat} {v : Int32} {x : Nat × va_E} (hk : k < 29) (hset : (gw_fix cc a b d S).set k x = gw_fix cc a b d (gw_up S k i v)) : (gw_cw cc a b d S).set k x = gw_cw cc a b d (gw_up S k i v) := by
  have hl : k < (gw_fix cc a b d S).length := hk
  rw [gw_cw, List.set_append_left _ _ hl, hset, gw_poolK (S1 := gw_up S k i v) (gw_upN (by omega)) (fun i => gw_upN (by omega)) (fun i => gw_upN (by omega))]
  rfl
theorem gw_fixK {cc : Nat → ClassId} {a b d : Nat → Nat} {S S1 : gw_S} (h : ∀ k, k < 29 → S1 k = S k) : gw_fix cc a b d S = gw_fix cc a b d S1 := by
  simp only [gw_fix, h 0 (by decide), h 1 (by decide), h 2 (by decide), h 3 (by decide), h 4 (by decide), h 5 (by decide), h 6 (by decide), h 7 (by decide), h 8 (by decide), h 9 (by decide), h 10 (by decide), h 11 (by decide), h 12 (by decide), h 13 (by decide), h 14 (by decide), h 15 (by decide), h 16 (by decide), h 17 (by decide), h 18 (by decide), h 19 (by decide), h 20 (by decide), h 21 (by decide), h 22 (by decide), h 23 (by decide), h 24 (by decide), h 25 (by decide), h 26 (by decide), h 27 (by decide), h 28 (by decide)]
section GWW
variable {cc : Nat → ClassId} {a b d : Nat → Nat} {S S1 : gw_S}
theorem gc_g0 : (gw_cw cc a b d S)[0]? = some (a 0, .inr (8, [.ref (a 1), .ref (a 3), .ref (a 15), .ref (a 20)])) := rfl
theorem gc_g1 : (gw_cw cc a b d S)[1]? = some (a 1, .inr (6, [.ref (a 2), .int (S 1 1)])) := rfl
theorem gc_s1_1 {v : Int32} (h : S1 = gw_up S 1 1 v) : (gw_cw cc a b d S).set 1 (a 1, .inr (6, [.ref (a 2), .int (S 1 1)].set 1 (.int v))) = gw_cw cc a b d S1 := by subst h; exact gw_fixset (by decide) rfl
theorem gc_g2 : (gw_cw cc a b d S)[2]? = some (a 2, .inl (cc 1, 60, .inl (S 2))) := rfl
theorem gc_s2 {i : Nat} {v : Int32} (h : S1 = gw_up S 2 i v) : (gw_cw cc a b d S).set 2 (a 2, .inl (cc 1, 60, .inl (upd (S 2) i v))) = gw_cw cc a b d S1 := by subst h; exact gw_fixset (by decide) rfl
theorem gc_g3 : (gw_cw cc a b d S)[3]? = some (a 3, .inr (2, [.ref (a 4), .ref (a 7), .ref (a 11), .ref (a 12), .ref (a 13), .ref (a 14), .int (S 3 6), .int (S 3 7)])) := rfl
theorem gc_s3_6 {v : Int32} (h : S1 = gw_up S 3 6 v) : (gw_cw cc a b d S).set 3 (a 3, .inr (2, [.ref (a 4), .ref (a 7), .ref (a 11), .ref (a 12), .ref (a 13), .ref (a 14), .int (S 3 6), .int (S 3 7)].set 6 (.int v))) = gw_cw cc a b d S1 := by subst h; exact gw_fixset (by decide) rfl
theorem gc_s3_7 {v : Int32} (h : S1 = gw_up S 3 7 v) : (gw_cw cc a b d S).set 3 (a 3, .inr (2, [.ref (a 4), .ref (a 7), .ref (a 11), .ref (a 12), .ref (a 13), .ref (a 14), .int (S 3 6), .int (S 3 7)].set 7 (.int v))) = gw_cw cc a b d S1 := by subst h; exact gw_fixset (by decide) rfl
theorem gc_g4 : (gw_cw cc a b d S)[4]? = some (a 4, .inr (7, [.ref (a 5), .ref (a 6)])) := rfl
theorem gc_g5 : (gw_cw cc a b d S)[5]? = some (a 5, .inl (cc 0, 8, .inl (S 5))) := rfl
theorem gc_s5 {i : Nat} {v : Int32} (h : S1 = gw_up S 5 i v) : (gw_cw cc a b d S).set 5 (a 5, .inl (cc 0, 8, .inl (upd (S 5) i v))) = gw_cw cc a b d S1 := by subst h; exact gw_fixset (by decide) rfl
theorem gc_g6 : (gw_cw cc a b d S)[6]? = some (a 6, .inl (cc 0, 8, .inl (S 6))) := rfl
theorem gc_s6 {i : Nat} {v : Int32} (h : S1 = gw_up S 6 i v) : (gw_cw cc a b d S).set 6 (a 6, .inl (cc 0, 8, .inl (upd (S 6) i v))) = gw_cw cc a b d S1 := by subst h; exact gw_fixset (by decide) rfl
theorem gc_g7 : (gw_cw cc a b d S)[7]? = some (a 7, .inr (3, [.ref (a 8), .ref (a 9), .ref (a 10), .int (S 7 3), .int (S 7 4)])) := rfl
theorem gc_s7_3 {v : Int32} (h : S1 = gw_up S 7 3 v) : (gw_cw cc a b d S).set 7 (a 7, .inr (3, [.ref (a 8), .ref (a 9), .ref (a 10), .int (S 7 3), .int (S 7 4)].set 3 (.int v))) = gw_cw cc a b d S1 := by subst h; exact gw_fixset (by decide) rfl
theorem gc_s7_4 {v : Int32} (h : S1 = gw_up S 7 4 v) : (gw_cw cc a b d S).set 7 (a 7, .inr (3, [.ref (a 8), .ref (a 9), .ref (a 10), .int (S 7 3), .int (S 7 4)].set 4 (.int v))) = gw_cw cc a b d S1 := by subst h; exact gw_fixset (by decide) rfl
theorem gc_g8 : (gw_cw cc a b d S)[8]? = some (a 8, .inl (cc 0, 36, .inl (S 8))) := rfl
theorem gc_s8 {i : Nat} {v : Int32} (h : S1 = gw_up S 8 i v) : (gw_cw cc a b d S).set 8 (a 8, .inl (cc 0, 36, .inl (upd (S 8) i v))) = gw_cw cc a b d S1 := by subst h; exact gw_fixset (by decide) rfl
theorem gc_g9 : (gw_cw cc a b d S)[9]? = some (a 9, .inl (cc 0, 6, .inl (S 9))) := rfl
theorem gc_s9 {i : Nat} {v : Int32} (h : S1 = gw_up S 9 i v) : (gw_cw cc a b d S).set 9 (a 9, .inl (cc 0, 6, .inl (upd (S 9) i v))) = gw_cw cc a b d S1 := by subst h; exact gw_fixset (by decide) rfl
theorem gc_g10 : (gw_cw cc a b d S)[10]? = some (a 10, .inl (cc 0, 6, .inl (S 10))) := rfl
theorem gc_s10 {i : Nat} {v : Int32} (h : S1 = gw_up S 10 i v) : (gw_cw cc a b d S).set 10 (a 10, .inl (cc 0, 6, .inl (upd (S 10) i v))) = gw_cw cc a b d S1 := by subst h; exact gw_fixset (by decide) rfl
theorem gc_g11 : (gw_cw cc a b d S)[11]? = some (a 11, .inl (cc 0, 81, .inl (S 11))) := rfl
theorem gc_s11 {i : Nat} {v : Int32} (h : S1 = gw_up S 11 i v) : (gw_cw cc a b d S).set 11 (a 11, .inl (cc 0, 81, .inl (upd (S 11) i v))) = gw_cw cc a b d S1 := by subst h; exact gw_fixset (by decide) rfl
theorem gc_g12 : (gw_cw cc a b d S)[12]? = some (a 12, .inl (cc 3, 24, .inr (.inr (.inr (.inr (fun i => gw_rf b (S 12 i))))))) := rfl
theorem gc_g13 : (gw_cw cc a b d S)[13]? = some (a 13, .inl (cc 4, 30, .inr (.inr (.inr (.inr (fun i => gw_rf d (S 13 i))))))) := rfl
theorem gc_g14 : (gw_cw cc a b d S)[14]? = some (a 14, .inl (cc 2, 30, .inl (S 14))) := rfl
theorem gc_s14 {i : Nat} {v : Int32} (h : S1 = gw_up S 14 i v) : (gw_cw cc a b d S).set 14 (a 14, .inl (cc 2, 30, .inl (upd (S 14) i v))) = gw_cw cc a b d S1 := by subst h; exact gw_fixset (by decide) rfl
theorem gc_g15 : (gw_cw cc a b d S)[15]? = some (a 15, .inr (1, [.ref (a 3), .ref (a 16), .ref (a 17), .ref (a 18), .ref (a 19), .int (S 15 5)])) := rfl
theorem gc_s15_5 {v : Int32} (h : S1 = gw_up S 15 5 v) : (gw_cw cc a b d S).set 15 (a 15, .inr (1, [.ref (a 3), .ref (a 16), .ref (a 17), .ref (a 18), .ref (a 19), .int (S 15 5)].set 5 (.int v))) = gw_cw cc a b d S1 := by subst h; exact gw_fixset (by decide) rfl
theorem gc_g16 : (gw_cw cc a b d S)[16]? = some (a 16, .inl (cc 0, 720, .inl (S 16))) := rfl
theorem gc_s16 {i : Nat} {v : Int32} (h : S1 = gw_up S 16 i v) : (gw_cw cc a b d S).set 16 (a 16, .inl (cc 0, 720, .inl (upd (S 16) i v))) = gw_cw cc a b d S1 := by subst h; exact gw_fixset (by decide) rfl
theorem gc_g17 : (gw_cw cc a b d S)[17]? = some (a 17, .inl (cc 0, 30, .inl (S 17))) := rfl
theorem gc_s17 {i : Nat} {v : Int32} (h : S1 = gw_up S 17 i v) : (gw_cw cc a b d S).set 17 (a 17, .inl (cc 0, 30, .inl (upd (S 17) i v))) = gw_cw cc a b d S1 := by subst h; exact gw_fixset (by decide) rfl
theorem gc_g18 : (gw_cw cc a b d S)[18]? = some (a 18, .inl (cc 0, 4, .inl (S 18))) := rfl
theorem gc_s18 {i : Nat} {v : Int32} (h : S1 = gw_up S 18 i v) : (gw_cw cc a b d S).set 18 (a 18, .inl (cc 0, 4, .inl (upd (S 18) i v))) = gw_cw cc a b d S1 := by subst h; exact gw_fixset (by decide) rfl
theorem gc_g19 : (gw_cw cc a b d S)[19]? = some (a 19, .inl (cc 0, 4, .inl (S 19))) := rfl
theorem gc_s19 {i : Nat} {v : Int32} (h : S1 = gw_up S 19 i v) : (gw_cw cc a b d S).set 19 (a 19, .inl (cc 0, 4, .inl (upd (S 19) i v))) = gw_cw cc a b d S1 := by subst h; exact gw_fixset (by decide) rfl
theorem gc_g20 : (gw_cw cc a b d S)[20]? = some (a 20, .inl (cc 5, 4, .inr (.inr (.inr (.inr (fun i => if i < 4 then some (a (21 + i)) else none)))))) := rfl
theorem gc_g21 : (gw_cw cc a b d S)[21]? = some (a 21, .inr (5, [.ref (a 25), .int (S 21 1), .int (S 21 2), .int (S 21 3)])) := rfl
theorem gc_s21_1 {v : Int32} (h : S1 = gw_up S 21 1 v) : (gw_cw cc a b d S).set 21 (a 21, .inr (5, [.ref (a 25), .int (S 21 1), .int (S 21 2), .int (S 21 3)].set 1 (.int v))) = gw_cw cc a b d S1 := by subst h; exact gw_fixset (by decide) rfl
theorem gc_s21_2 {v : Int32} (h : S1 = gw_up S 21 2 v) : (gw_cw cc a b d S).set 21 (a 21, .inr (5, [.ref (a 25), .int (S 21 1), .int (S 21 2), .int (S 21 3)].set 2 (.int v))) = gw_cw cc a b d S1 := by subst h; exact gw_fixset (by decide) rfl
theorem gc_s21_3 {v : Int32} (h : S1 = gw_up S 21 3 v) : (gw_cw cc a b d S).set 21 (a 21, .inr (5, [.ref (a 25), .int (S 21 1), .int (S 21 2), .int (S 21 3)].set 3 (.int v))) = gw_cw cc a b d S1 := by subst h; exact gw_fixset (by decide) rfl
theorem gc_g22 : (gw_cw cc a b d S)[22]? = some (a 22, .inr (5, [.ref (a 26), .int (S 22 1), .int (S 22 2), .int (S 22 3)])) := rfl
theorem gc_s22_1 {v : Int32} (h : S1 = gw_up S 22 1 v) : (gw_cw cc a b d S).set 22 (a 22, .inr (5, [.ref (a 26), .int (S 22 1), .int (S 22 2), .int (S 22 3)].set 1 (.int v))) = gw_cw cc a b d S1 := by subst h; exact gw_fixset (by decide) rfl
theorem gc_s22_2 {v : Int32} (h : S1 = gw_up S 22 2 v) : (gw_cw cc a b d S).set 22 (a 22, .inr (5, [.ref (a 26), .int (S 22 1), .int (S 22 2), .int (S 22 3)].set 2 (.int v))) = gw_cw cc a b d S1 := by subst h; exact gw_fixset (by decide) rfl
theorem gc_s22_3 {v : Int32} (h : S1 = gw_up S 22 3 v) : (gw_cw cc a b d S).set 22 (a 22, .inr (5, [.ref (a 26), .int (S 22 1), .int (S 22 2), .int (S 22 3)].set 3 (.int v))) = gw_cw cc a b d S1 := by subst h; exact gw_fixset (by decide) rfl
theorem gc_g23 : (gw_cw cc a b d S)[23]? = some (a 23, .inr (5, [.ref (a 27), .int (S 23 1), .int (S 23 2), .int (S 23 3)])) := rfl
theorem gc_s23_1 {v : Int32} (h : S1 = gw_up S 23 1 v) : (gw_cw cc a b d S).set 23 (a 23, .inr (5, [.ref (a 27), .int (S 23 1), .int (S 23 2), .int (S 23 3)].set 1 (.int v))) = gw_cw cc a b d S1 := by subst h; exact gw_fixset (by decide) rfl
theorem gc_s23_2 {v : Int32} (h : S1 = gw_up S 23 2 v) : (gw_cw cc a b d S).set 23 (a 23, .inr (5, [.ref (a 27), .int (S 23 1), .int (S 23 2), .int (S 23 3)].set 2 (.int v))) = gw_cw cc a b d S1 := by subst h; exact gw_fixset (by decide) rfl
theorem gc_s23_3 {v : Int32} (h : S1 = gw_up S 23 3 v) : (gw_cw cc a b d S).set 23 (a 23, .inr (5, [.ref (a 27), .int (S 23 1), .int (S 23 2), .int (S 23 3)].set 3 (.int v))) = gw_cw cc a b d S1 := by subst h; exact gw_fixset (by decide) rfl
theorem gc_g24 : (gw_cw cc a b d S)[24]? = some (a 24, .inr (5, [.ref (a 28), .int (S 24 1), .int (S 24 2), .int (S 24 3)])) := rfl
theorem gc_s24_1 {v : Int32} (h : S1 = gw_up S 24 1 v) : (gw_cw cc a b d S).set 24 (a 24, .inr (5, [.ref (a 28), .int (S 24 1), .int (S 24 2), .int (S 24 3)].set 1 (.int v))) = gw_cw cc a b d S1 := by subst h; exact gw_fixset (by decide) rfl
theorem gc_s24_2 {v : Int32} (h : S1 = gw_up S 24 2 v) : (gw_cw cc a b d S).set 24 (a 24, .inr (5, [.ref (a 28), .int (S 24 1), .int (S 24 2), .int (S 24 3)].set 2 (.int v))) = gw_cw cc a b d S1 := by subst h; exact gw_fixset (by decide) rfl
theorem gc_s24_3 {v : Int32} (h : S1 = gw_up S 24 3 v) : (gw_cw cc a b d S).set 24 (a 24, .inr (5, [.ref (a 28), .int (S 24 1), .int (S 24 2), .int (S 24 3)].set 3 (.int v))) = gw_cw cc a b d S1 := by subst h; exact gw_fixset (by decide) rfl
theorem gc_g25 : (gw_cw cc a b d S)[25]? = some (a 25, .inl (cc 0, 36, .inl (S 25))) := rfl
theorem gc_s25 {i : Nat} {v : Int32} (h : S1 = gw_up S 25 i v) : (gw_cw cc a b d S).set 25 (a 25, .inl (cc 0, 36, .inl (upd (S 25) i v))) = gw_cw cc a b d S1 := by subst h; exact gw_fixset (by decide) rfl
theorem gc_g26 : (gw_cw cc a b d S)[26]? = some (a 26, .inl (cc 0, 36, .inl (S 26))) := rfl
theorem gc_s26 {i : Nat} {v : Int32} (h : S1 = gw_up S 26 i v) : (gw_cw cc a b d S).set 26 (a 26, .inl (cc 0, 36, .inl (upd (S 26) i v))) = gw_cw cc a b d S1 := by subst h; exact gw_fixset (by decide) rfl
theorem gc_g27 : (gw_cw cc a b d S)[27]? = some (a 27, .inl (cc 0, 36, .inl (S 27))) := rfl
theorem gc_s27 {i : Nat} {v : Int32} (h : S1 = gw_up S 27 i v) : (gw_cw cc a b d S).set 27 (a 27, .inl (cc 0, 36, .inl (upd (S 27) i v))) = gw_cw cc a b d S1 := by subst h; exact gw_fixset (by decide) rfl
theorem gc_g28 : (gw_cw cc a b d S)[28]? = some (a 28, .inl (cc 0, 36, .inl (S 28))) := rfl
theorem gc_s28 {i : Nat} {v : Int32} (h : S1 = gw_up S 28 i v) : (gw_cw cc a b d S).set 28 (a 28, .inl (cc 0, 36, .inl (upd (S 28) i v))) = gw_cw cc a b d S1 := by subst h; exact gw_fixset (by decide) rfl
theorem gc_gsh {i : Nat} (h : i < 4) : (gw_cw cc a b d S)[21 + i]? = some (a (21 + i), .inr (5, [.ref (a (25 + i)), .int (S (21 + i) 1), .int (S (21 + i) 2), .int (S (21 + i) 3)])) := by
  rcases (show i = 0 ∨ i = 1 ∨ i = 2 ∨ i = 3 by omega) with rfl | rfl | rfl | rfl <;> rfl
theorem gc_git {i : Nat} (h : i < 4) : (gw_cw cc a b d S)[25 + i]? = some (a (25 + i), .inl (cc 0, 36, .inl (S (25 + i)))) := by
  rcases (show i = 0 ∨ i = 1 ∨ i = 2 ∨ i = 3 by omega) with rfl | rfl | rfl | rfl <;> rfl
theorem gc_ssh_1 {i : Nat} {v : Int32} (hi : i < 4) (h : S1 = gw_up S (21 + i) 1 v) : (gw_cw cc a b d S).set (21 + i) (a (21 + i), .inr (5, ([.ref (a (25 + i)), .int (S (21 + i) 1), .int (S (21 + i) 2), .int (S (21 + i) 3)] : List Value).set 1 (.int v))) = gw_cw cc a b d S1 := by
  rcases (show i = 0 ∨ i = 1 ∨ i = 2 ∨ i = 3 by omega) with rfl | rfl | rfl | rfl <;> (subst h; exact gw_fixset (by decide) rfl)
theorem gc_ssh_2 {i : Nat} {v : Int32} (hi : i < 4) (h : S1 = gw_up S (21 + i) 2 v) : (gw_cw cc a b d S).set (21 + i) (a (21 + i), .inr (5, ([.ref (a (25 + i)), .int (S (21 + i) 1), .int (S (21 + i) 2), .int (S (21 + i) 3)] : List Value).set 2 (.int v))) = gw_cw cc a b d S1 := by
  rcases (show i = 0 ∨ i = 1 ∨ i = 2 ∨ i = 3 by omega) with rfl | rfl | rfl | rfl <;> (subst h; exact gw_fixset (by decide) rfl)
theorem gc_ssh_3 {i : Nat} {v : Int32} (hi : i < 4) (h : S1 = gw_up S (21 + i) 3 v) : (gw_cw cc a b d S).set (21 + i) (a (21 + i), .inr (5, ([.ref (a (25 + i)), .int (S (21 + i) 1), .int (S (21 + i) 2), .int (S (21 + i) 3)] : List Value).set 3 (.int v))) = gw_cw cc a b d S1 := by
  rcases (show i = 0 ∨ i = 1 ∨ i = 2 ∨ i = 3 by omega) with rfl | rfl | rfl | rfl <;> (subst h; exact gw_fixset (by decide) rfl)
theorem gc_sit {i k : Nat} {v : Int32} (hi : i < 4) (h : S1 = gw_up S (25 + i) k v) : (gw_cw cc a b d S).set (25 + i) (a (25 + i), .inl (cc 0, 36, .inl (upd (S (25 + i)) k v))) = gw_cw cc a b d S1 := by
  rcases (show i = 0 ∨ i = 1 ∨ i = 2 ∨ i = 3 by omega) with rfl | rfl | rfl | rfl <;> (subst h; exact gw_fixset (by decide) rfl)
theorem gw_rset {α : Type} {f : Nat → α} {n i : Nat} {y : α} : ((List.range n).map f).set i y = (List.range n).map (fun j => if j = i then y else f j) := by
  apply List.ext_getElem?
  intro k
  rw [List.getElem?_set]
  simp only [List.getElem?_map, List.length_map, List.length_range]
  by_cases hki : i = k
  · subst hki
    by_cases hk : i < n
    · simp [hk, List.getElem?_range]
    · simp [hk]
  · rw [if_neg hki]
    by_cases hk : k < n
    · simp [hk, List.getElem?_range, Ne.symm hki]
    · simp [hk]
theorem gc_gp {i : Nat} (h : i < gw_np S) : (gw_cw cc a b d S)[29 + i]? = some (b i, .inr (4, gw_pF S i)) := by
  rw [gw_cw, List.getElem?_append_right (show (gw_fix cc a b d S).length ≤ 29 + i from Nat.le_add_right 29 i), show 29 + i - (gw_fix cc a b d S).length = i from Nat.add_sub_cancel_left 29 i, gw_pool, List.getElem?_append_left (by simpa using h)]
  simp [h]
theorem gc_gb {j : Nat} (h : j < gw_nb S) : (gw_cw cc a b d S)[29 + (gw_np S + j)]? = some (d j, .inr (0, gw_bF b S j)) := by
  rw [gw_cw, List.getElem?_append_right (show (gw_fix cc a b d S).length ≤ 29 + _ from Nat.le_add_right 29 _), show 29 + (gw_np S + j) - (gw_fix cc a b d S).length = gw_np S + j from Nat.add_sub_cancel_left 29 (gw_np S + j), gw_pool, List.getElem?_append_right (by simp)]
  simp [h]
theorem gw_sp {i k : Nat} {v : Int32} {fs : List Value} (hi : i < gw_np S) (h : S1 = gw_up S (2 * i + 30) k v) (hf : fs = gw_pF S1 i) : (gw_cw cc a b d S).set (29 + i) (b i, .inr (4, fs)) = gw_cw cc a b d S1 := by
  have hnp : gw_np S1 = gw_np S := by subst h; simp only [gw_np]; rw [gw_upN (by omega)]
  have hnb : gw_nb S1 = gw_nb S := by subst h; simp only [gw_nb]; rw [gw_upN (by omega)]
  have hfix : gw_fix cc a b d S = gw_fix cc a b d S1 := gw_fixK (fun k hk => by subst h; exact gw_upN (by omega))
  have hx : ∀ j, j ≠ i → S1 (2 * j + 30) = S (2 * j + 30) := fun j hj => by subst h; exact gw_upN (by omega)
  have hy : ∀ j, S1 (2 * j + 31) = S (2 * j + 31) := fun j => by subst h; exact gw_upN (by omega)
  rw [gw_cw, List.set_append_right _ _ (show (gw_fix cc a b d S).length ≤ 29 + i from Nat.le_add_right 29 i), show 29 + i - (gw_fix cc a b d S).length = i from Nat.add_sub_cancel_left 29 i, gw_cw, ← hfix]
  congr 1
  rw [gw_pool, gw_pool, List.set_append_left _ _ (by simpa using hi), gw_rset, hnp, hnb]
  congr 1
  · apply List.map_congr_left
    intro j hj
    by_cases hji : j = i
    · subst hji; simp [hf]
    · simp only [if_neg hji, gw_pF, hx j hji]
  · apply List.map_congr_left
    intro j hj
    simp only [gw_bF, hy j]
theorem gw_sb {i k : Nat} {v : Int32} {fs : List Value} (hi : i < gw_nb S) (h : S1 = gw_up S (2 * i + 31) k v) (hf : fs = gw_bF b S1 i) : (gw_cw cc a b d S).set (29 + (gw_np S + i)) (d i, .inr (0, fs)) = gw_cw cc a b d S1 := by
  have hnp : gw_np S1 = gw_np S := by subst h; simp only [gw_np]; rw [gw_upN (by omega)]
  have hnb : gw_nb S1 = gw_nb S := by subst h; simp only [gw_nb]; rw [gw_upN (by omega)]
  have hfix : gw_fix cc a b d S = gw_fix cc a b d S1 := gw_fixK (fun k hk => by subst h; exact gw_upN (by omega))
  have hx : ∀ j : Nat, S1 (2 * j + 30) = S (2 * j + 30) := fun j => by subst h; exact gw_upN (by omega)
  have hy : ∀ j, j ≠ i → S1 (2 * j + 31) = S (2 * j + 31) := fun j hj => by subst h; exact gw_upN (by omega)
  rw [gw_cw, List.set_append_right _ _ (show (gw_fix cc a b d S).length ≤ 29 + _ from Nat.le_add_right 29 _), show 29 + (gw_np S + i) - (gw_fix cc a b d S).length = gw_np S + i from Nat.add_sub_cancel_left 29 (gw_np S + i), gw_cw, ← hfix]
  congr 1
  rw [gw_pool, gw_pool, List.set_append_right _ _ (by simp), hnp, hnb]
  congr 1
  · apply List.map_congr_left
    intro j hj
    simp only [gw_pF, hx j]
  · rw [List.length_map, List.length_range, Nat.add_sub_cancel_left, gw_rset]
    apply List.map_congr_left
    intro j hj
    by_cases hji : j = i
    · subst hji; simp [hf]
    · simp only [if_neg hji, gw_bF, hy j hji]
theorem gc_sp_0 {i : Nat} {v : Int32} (hi : i < gw_np S) (h : S1 = gw_up S (2 * i + 30) 0 v) : (gw_cw cc a b d S).set (29 + i) (b i, .inr (4, (gw_pF S i).set 0 (.int v))) = gw_cw cc a b d S1 := gw_sp (k := 0) hi h (by subst h; simp [gw_upE, upd]) 
theorem gc_sp_1 {i : Nat} {v : Int32} (hi : i < gw_np S) (h : S1 = gw_up S (2 * i + 30) 1 v) : (gw_cw cc a b d S).set (29 + i) (b i, .inr (4, (gw_pF S i).set 1 (.int v))) = gw_cw cc a b d S1 := gw_sp (k := 1) hi h (by subst h; simp [gw_upE, upd]) 
theorem gc_sp_2 {i : Nat} {v : Int32} (hi : i < gw_np S) (h : S1 = gw_up S (2 * i + 30) 2 v) : (gw_cw cc a b d S).set (29 + i) (b i, .inr (4, (gw_pF S i).set 2 (.int v))) = gw_cw cc a b d S1 := gw_sp (k := 2) hi h (by subst h; simp [gw_upE, upd]) 
theorem gc_sp_3 {i : Nat} {v : Int32} (hi : i < gw_np S) (h : S1 = gw_up S (2 * i + 30) 3 v) : (gw_cw cc a b d S).set (29 + i) (b i, .inr (4, (gw_pF S i).set 3 (.int v))) = gw_cw cc a b d S1 := gw_sp (k := 3) hi h (by subst h; simp [gw_upE, upd]) 
theorem gc_sp_4 {i : Nat} {v : Int32} (hi : i < gw_np S) (h : S1 = gw_up S (2 * i + 30) 4 v) : (gw_cw cc a b d S).set (29 + i) (b i, .inr (4, (gw_pF S i).set 4 (.int v))) = gw_cw cc a b d S1 := gw_sp (k := 4) hi h (by subst h; simp [gw_upE, upd]) 
theorem gc_sp_5 {i : Nat} {v : Int32} (hi : i < gw_np S) (h : S1 = gw_up S (2 * i + 30) 5 v) : (gw_cw cc a b d S).set (29 + i) (b i, .inr (4, (gw_pF S i).set 5 (.int v))) = gw_cw cc a b d S1 := gw_sp (k := 5) hi h (by subst h; simp [gw_upE, upd]) 
theorem gc_sp_6 {i : Nat} {v : Int32} (hi : i < gw_np S) (h : S1 = gw_up S (2 * i + 30) 6 v) : (gw_cw cc a b d S).set (29 + i) (b i, .inr (4, (gw_pF S i).set 6 (.int v))) = gw_cw cc a b d S1 := gw_sp (k := 6) hi h (by subst h; simp [gw_upE, upd]) 
theorem gc_sp_7 {i : Nat} {v : Int32} (hi : i < gw_np S) (h : S1 = gw_up S (2 * i + 30) 7 v) : (gw_cw cc a b d S).set (29 + i) (b i, .inr (4, (gw_pF S i).set 7 (.int v))) = gw_cw cc a b d S1 := gw_sp (k := 7) hi h (by subst h; simp [gw_upE, upd]) 
theorem gc_sp_8 {i : Nat} {v : Int32} (hi : i < gw_np S) (h : S1 = gw_up S (2 * i + 30) 8 v) : (gw_cw cc a b d S).set (29 + i) (b i, .inr (4, (gw_pF S i).set 8 (.int v))) = gw_cw cc a b d S1 := gw_sp (k := 8) hi h (by subst h; simp [gw_upE, upd]) 
theorem gc_sp_9 {i : Nat} {v : Int32} (hi : i < gw_np S) (h : S1 = gw_up S (2 * i + 30) 9 v) : (gw_cw cc a b d S).set (29 + i) (b i, .inr (4, (gw_pF S i).set 9 (.int v))) = gw_cw cc a b d S1 := gw_sp (k := 9) hi h (by subst h; simp [gw_upE, upd]) 
theorem gc_sp_10 {i : Nat} {v : Int32} (hi : i < gw_np S) (h : S1 = gw_up S (2 * i + 30) 10 v) : (gw_cw cc a b d S).set (29 + i) (b i, .inr (4, (gw_pF S i).set 10 (.int v))) = gw_cw cc a b d S1 := gw_sp (k := 10) hi h (by subst h; simp [gw_upE, upd]) 
theorem gc_sp_11 {i : Nat} {v : Int32} (hi : i < gw_np S) (h : S1 = gw_up S (2 * i + 30) 11 v) : (gw_cw cc a b d S).set (29 + i) (b i, .inr (4, (gw_pF S i).set 11 (.int v))) = gw_cw cc a b d S1 := gw_sp (k := 11) hi h (by subst h; simp [gw_upE, upd]) 
theorem gc_sb_0 {i : Nat} {v : Int32} (hi : i < gw_nb S) (h : S1 = gw_up S (2 * i + 31) 0 v) : (gw_cw cc a b d S).set (29 + (gw_np S + i)) (d i, .inr (0, (gw_bF b S i).set 0 (.int v))) = gw_cw cc a b d S1 := gw_sb (k := 0) hi h (by subst h; simp [gw_upE, upd])
theorem gc_sb_1 {i : Nat} {v : Int32} (hi : i < gw_nb S) (h : S1 = gw_up S (2 * i + 31) 1 v) : (gw_cw cc a b d S).set (29 + (gw_np S + i)) (d i, .inr (0, (gw_bF b S i).set 1 (.int v))) = gw_cw cc a b d S1 := gw_sb (k := 1) hi h (by subst h; simp [gw_upE, upd])
theorem gc_sb_2 {i : Nat} {v : Int32} (hi : i < gw_nb S) (h : S1 = gw_up S (2 * i + 31) 2 v) : (gw_cw cc a b d S).set (29 + (gw_np S + i)) (d i, .inr (0, (gw_bF b S i).set 2 (.int v))) = gw_cw cc a b d S1 := gw_sb (k := 2) hi h (by subst h; simp [gw_upE, upd])
theorem gc_sb_3 {i : Nat} {v : Int32} (hi : i < gw_nb S) (h : S1 = gw_up S (2 * i + 31) 3 v) : (gw_cw cc a b d S).set (29 + (gw_np S + i)) (d i, .inr (0, (gw_bF b S i).set 3 (.int v))) = gw_cw cc a b d S1 := gw_sb (k := 3) hi h (by subst h; simp [gw_upE, upd])
theorem gc_sb_4 {i : Nat} {v : Int32} (hi : i < gw_nb S) (h : S1 = gw_up S (2 * i + 31) 4 v) : (gw_cw cc a b d S).set (29 + (gw_np S + i)) (d i, .inr (0, (gw_bF b S i).set 4 (.int v))) = gw_cw cc a b d S1 := gw_sb (k := 4) hi h (by subst h; simp [gw_upE, upd])
theorem gc_sb_5 {i : Nat} {v : Int32} (hi : i < gw_nb S) (h : S1 = gw_up S (2 * i + 31) 5 v) : (gw_cw cc a b d S).set (29 + (gw_np S + i)) (d i, .inr (0, (gw_bF b S i).set 5 (.int v))) = gw_cw cc a b d S1 := gw_sb (k := 5) hi h (by subst h; simp [gw_upE, upd])
theorem gc_sb_6 {i : Nat} {v : Int32} (hi : i < gw_nb S) (h : S1 = gw_up S (2 * i + 31) 6 v) : (gw_cw cc a b d S).set (29 + (gw_np S + i)) (d i, .inr (0, (gw_bF b S i).set 6 (.int v))) = gw_cw cc a b d S1 := gw_sb (k := 6) hi h (by subst h; simp [gw_upE, upd])
theorem gc_sb_7 {i : Nat} {v : Int32} (hi : i < gw_nb S) (h : S1 = gw_up S (2 * i + 31) 7 v) : (gw_cw cc a b d S).set (29 + (gw_np S + i)) (d i, .inr (0, (gw_bF b S i).set 7 (.int v))) = gw_cw cc a b d S1 := gw_sb (k := 7) hi h (by subst h; simp [gw_upE, upd])
theorem gc_sb_8 {i : Nat} {v : Int32} (hi : i < gw_nb S) (h : S1 = gw_up S (2 * i + 31) 8 v) : (gw_cw cc a b d S).set (29 + (gw_np S + i)) (d i, .inr (0, (gw_bF b S i).set 8 (va_rf (gw_rf b v)))) = gw_cw cc a b d S1 := gw_sb (k := 8) hi h (by subst h; simp [gw_upE, upd])
theorem gc_sb_9 {i : Nat} {v : Int32} (hi : i < gw_nb S) (h : S1 = gw_up S (2 * i + 31) 9 v) : (gw_cw cc a b d S).set (29 + (gw_np S + i)) (d i, .inr (0, (gw_bF b S i).set 9 (.int v))) = gw_cw cc a b d S1 := gw_sb (k := 9) hi h (by subst h; simp [gw_upE, upd])
theorem gc_sb_10 {i : Nat} {v : Int32} (hi : i < gw_nb S) (h : S1 = gw_up S (2 * i + 31) 10 v) : (gw_cw cc a b d S).set (29 + (gw_np S + i)) (d i, .inr (0, (gw_bF b S i).set 10 (.int v))) = gw_cw cc a b d S1 := gw_sb (k := 10) hi h (by subst h; simp [gw_upE, upd])
theorem gc_sb_11 {i : Nat} {v : Int32} (hi : i < gw_nb S) (h : S1 = gw_up S (2 * i + 31) 11 v) : (gw_cw cc a b d S).set (29 + (gw_np S + i)) (d i, .inr (0, (gw_bF b S i).set 11 (.int v))) = gw_cw cc a b d S1 := gw_sb (k := 11) hi h (by subst h; simp [gw_upE, upd])
theorem gc_sb_12 {i : Nat} {v : Int32} (hi : i < gw_nb S) (h : S1 = gw_up S (2 * i + 31) 12 v) : (gw_cw cc a b d S).set (29 + (gw_np S + i)) (d i, .inr (0, (gw_bF b S i).set 12 (.int v))) = gw_cw cc a b d S1 := gw_sb (k := 12) hi h (by subst h; simp [gw_upE, upd])
theorem gc_sb_13 {i : Nat} {v : Int32} (hi : i < gw_nb S) (h : S1 = gw_up S (2 * i + 31) 13 v) : (gw_cw cc a b d S).set (29 + (gw_np S + i)) (d i, .inr (0, (gw_bF b S i).set 13 (.int v))) = gw_cw cc a b d S1 := gw_sb (k := 13) hi h (by subst h; simp [gw_upE, upd])
end GWW
theorem gw_shv {a : Nat → Nat} {i : Nat} (h : i < 4) : va_rf ((fun j => if j < 4 then some (a (21 + j)) else none) i) = .ref (a (21 + i)) := by simp [h, va_rf]
theorem gw_okE {n : Nat} {b : Nat → Nat} {v w : Int32} (hv : gw_ok n v) (hw : gw_ok n w) (hb : ∀ i j, i < n → j < n → b i = b j → i = j) : gw_rf b v = gw_rf b w ↔ v = w := by
  constructor
  · intro h
    rcases hv with rfl | ⟨h1, h2⟩ <;> rcases hw with rfl | ⟨h3, h4⟩
    · rfl
    · have hw1 : ¬ w = -1 := by intro q; subst q; exact absurd h3 (by decide)
      simp [gw_rf, hw1] at h
    · have hv1 : ¬ v = -1 := by intro q; subst q; exact absurd h1 (by decide)
      simp [gw_rf, hv1] at h
    · have hv1 : ¬ v = -1 := by intro q; subst q; exact absurd h1 (by decide)
      have hw1 : ¬ w = -1 := by intro q; subst q; exact absurd h3 (by decide)
      simp only [gw_rf, hv1, hw1, if_false, Option.some.injEq] at h
      have h5 := hb _ _ h2 h4 h
      rw [Int32.le_iff_toInt_le] at h1 h3
      have e1 : v.toInt.toNat = w.toInt.toNat := h5
      rw [Int32.toInt_zero] at h1 h3
      exact Int32.toInt_inj.mp (by omega)
  · intro h; rw [h]
section GWA
variable {cc : Nat → ClassId} {a b d : Nat → Nat} {S : gw_S} {A : Nat → Prop}
theorem gw_bi (hD : va_D A (gw_cw cc a b d S)) : ∀ i j, i < gw_np S → j < gw_np S → b i = b j → i = j := by
  intro i j hi hj h
  have := hD.1 _ _ _ _ (gc_gp hi) (gc_gp hj) h
  omega
theorem gw_di (hD : va_D A (gw_cw cc a b d S)) : ∀ i j, i < gw_nb S → j < gw_nb S → d i = d j → i = j := by
  intro i j hi hj h
  have := hD.1 _ _ _ _ (gc_gb hi) (gc_gb hj) h
  omega
variable {p : Program} {l : Launch} {e : Env} {R : Room} {s : State} {m : MethodId} {args : Array Value} {below : List Frame} {meth : Method} {c : Code} {H : Heap} {locs : List Loc} {cells slots : Nat} {Q : State → Prop}
variable {bc : ByteArray} {nL : Nat} {Ts : List Cond} {own : String} {ret : Option FieldType} {D : va_G} {tys : gw_TY} {t1 t2 : Nat} {pc : Nat} {ls : Array Slot} {rest : List Value} {off : Int} {tgt : Nat} {v w : Int32}
theorem gw_acmp_eqp (B : gw_B p s m args meth c bc nL Ts own ret D tys t1 t2 A) (hI : gw_I D A s.heap (gw_cw cc a b d S) H locs) (h1 : gw_ok (gw_np S) v) (h2 : gw_ok (gw_np S) w) (hdg : decode bc pc = .ok (.if_acmp .eq off, 3)) (ht : (pc : Int) + off = (tgt : Int))
    (kt : v = w → W p l e R s m args below meth c H locs cells slots Q (F0 m tgt ls rest)) (kf : ¬ v = w → W p l e R s m args below meth c H locs cells slots Q (F0 m (pc + 3) ls rest)) : W p l e R s m args below meth c H locs cells slots Q (F0 m pc ls (va_rf (gw_rf b w) :: va_rf (gw_rf b v) :: rest)) :=
  lv_acmp_eq B.1.1 B.1.2.1 hdg ht (fun h => kt ((gw_okE h1 h2 (gw_bi hI.2.1)).mp h)) (fun h => kf (fun q => h ((gw_okE h1 h2 (gw_bi hI.2.1)).mpr q)))
theorem gw_acmp_eqb (B : gw_B p s m args meth c bc nL Ts own ret D tys t1 t2 A) (hI : gw_I D A s.heap (gw_cw cc a b d S) H locs) (h1 : gw_ok (gw_nb S) v) (h2 : gw_ok (gw_nb S) w) (hdg : decode bc pc = .ok (.if_acmp .eq off, 3)) (ht : (pc : Int) + off = (tgt : Int))
    (kt : v = w → W p l e R s m args below meth c H locs cells slots Q (F0 m tgt ls rest)) (kf : ¬ v = w → W p l e R s m args below meth c H locs cells slots Q (F0 m (pc + 3) ls rest)) : W p l e R s m args below meth c H locs cells slots Q (F0 m pc ls (va_rf (gw_rf d w) :: va_rf (gw_rf d v) :: rest)) :=
  lv_acmp_eq B.1.1 B.1.2.1 hdg ht (fun h => kt ((gw_okE h1 h2 (gw_di hI.2.1)).mp h)) (fun h => kf (fun q => h ((gw_okE h1 h2 (gw_di hI.2.1)).mpr q)))
theorem gw_acmp_nep (B : gw_B p s m args meth c bc nL Ts own ret D tys t1 t2 A) (hI : gw_I D A s.heap (gw_cw cc a b d S) H locs) (h1 : gw_ok (gw_np S) v) (h2 : gw_ok (gw_np S) w) (hdg : decode bc pc = .ok (.if_acmp .ne off, 3)) (ht : (pc : Int) + off = (tgt : Int))
    (kt : ¬ v = w → W p l e R s m args below meth c H locs cells slots Q (F0 m tgt ls rest)) (kf : v = w → W p l e R s m args below meth c H locs cells slots Q (F0 m (pc + 3) ls rest)) : W p l e R s m args below meth c H locs cells slots Q (F0 m pc ls (va_rf (gw_rf b w) :: va_rf (gw_rf b v) :: rest)) :=
  lv_acmp_ne B.1.1 B.1.2.1 hdg ht (fun h => kt (fun q => h ((gw_okE h1 h2 (gw_bi hI.2.1)).mpr q))) (fun h => kf ((gw_okE h1 h2 (gw_bi hI.2.1)).mp h))
theorem gw_acmp_neb (B : gw_B p s m args meth c bc nL Ts own ret D tys t1 t2 A) (hI : gw_I D A s.heap (gw_cw cc a b d S) H locs) (h1 : gw_ok (gw_nb S) v) (h2 : gw_ok (gw_nb S) w) (hdg : decode bc pc = .ok (.if_acmp .ne off, 3)) (ht : (pc : Int) + off = (tgt : Int))
    (kt : ¬ v = w → W p l e R s m args below meth c H locs cells slots Q (F0 m tgt ls rest)) (kf : v = w → W p l e R s m args below meth c H locs cells slots Q (F0 m (pc + 3) ls rest)) : W p l e R s m args below meth c H locs cells slots Q (F0 m pc ls (va_rf (gw_rf d w) :: va_rf (gw_rf d v) :: rest)) :=
  lv_acmp_ne B.1.1 B.1.2.1 hdg ht (fun h => kt (fun q => h ((gw_okE h1 h2 (gw_di hI.2.1)).mpr q))) (fun h => kf ((gw_okE h1 h2 (gw_di hI.2.1)).mp h))
end GWA
section GWL
variable {cc : Nat → ClassId} {a : Nat → Nat} {S S1 : gw_S}
def gw_lw (cc : Nat → ClassId) (a : Nat → Nat) (S : gw_S) : va_W := [(a 7, .inr (3, [.ref (a 8), .ref (a 9), .ref (a 10), .int (S 7 3), .int (S 7 4)])), (a 8, .inl (cc 0, 36, .inl (S 8))), (a 9, .inl (cc 0, 6, .inl (S 9))), (a 10, .inl (cc 0, 6, .inl (S 10)))]
theorem gl_g7 : (gw_lw cc a S)[0]? = some (a 7, .inr (3, [.ref (a 8), .ref (a 9), .ref (a 10), .int (S 7 3), .int (S 7 4)])) := rfl
theorem gl_s7_3 {v : Int32} (h : S1 = gw_up S 7 3 v) : (gw_lw cc a S).set 0 (a 7, .inr (3, [.ref (a 8), .ref (a 9), .ref (a 10), .int (S 7 3), .int (S 7 4)].set 3 (.int v))) = gw_lw cc a S1 := by subst h; rfl
theorem gl_s7_4 {v : Int32} (h : S1 = gw_up S 7 4 v) : (gw_lw cc a S).set 0 (a 7, .inr (3, [.ref (a 8), .ref (a 9), .ref (a 10), .int (S 7 3), .int (S 7 4)].set 4 (.int v))) = gw_lw cc a S1 := by subst h; rfl
theorem gl_g8 : (gw_lw cc a S)[1]? = some (a 8, .inl (cc 0, 36, .inl (S 8))) := rfl
theorem gl_s8 {i : Nat} {v : Int32} (h : S1 = gw_up S 8 i v) : (gw_lw cc a S).set 1 (a 8, .inl (cc 0, 36, .inl (upd (S 8) i v))) = gw_lw cc a S1 := by subst h; rfl
theorem gl_g9 : (gw_lw cc a S)[2]? = some (a 9, .inl (cc 0, 6, .inl (S 9))) := rfl
theorem gl_s9 {i : Nat} {v : Int32} (h : S1 = gw_up S 9 i v) : (gw_lw cc a S).set 2 (a 9, .inl (cc 0, 6, .inl (upd (S 9) i v))) = gw_lw cc a S1 := by subst h; rfl
theorem gl_g10 : (gw_lw cc a S)[3]? = some (a 10, .inl (cc 0, 6, .inl (S 10))) := rfl
theorem gl_s10 {i : Nat} {v : Int32} (h : S1 = gw_up S 10 i v) : (gw_lw cc a S).set 3 (a 10, .inl (cc 0, 6, .inl (upd (S 10) i v))) = gw_lw cc a S1 := by subst h; rfl
end GWL
section GWM
variable {cc : Nat → ClassId} {a : Nat → Nat} {S S1 : gw_S}
def gw_mw (cc : Nat → ClassId) (a : Nat → Nat) (S : gw_S) : va_W := [(a 0, .inr (9, [.ref (a 1), .ref (a 2), .ref (a 3), .ref (a 4), .ref (a 5), .int (S 0 5), .int (S 0 6), .ref (a 6), .int (S 0 8), .ref (a 7), .ref (a 8), .ref (a 9), .ref (a 10), .ref (a 11), .ref (a 12), .ref (a 13), .ref (a 14), .ref (a 15), .ref (a 16), .ref (a 17), .ref (a 18), .int (S 0 21), .ref (a 19), .ref (a 20), .ref (a 21), .ref (a 22), .ref (a 23), .ref (a 24), .int (S 0 28), .int (S 0 29), .ref (a 25), .ref (a 26), .ref (a 27), .ref (a 28), .ref (a 29), .ref (a 30), .ref (a 31), .ref (a 32), .ref (a 33), .ref (a 34), .ref (a 35), .ref (a 36), .ref (a 37), .ref (a 38), .ref (a 39), .ref (a 40), .ref (a 41), .ref (a 42), .ref (a 43), .ref (a 44), .ref (a 45)])), (a 1, .inl (cc 0, 8, .inl (S 1))), (a 2, .inl (cc 0, 8, .inl (S 2))), (a 3, .inl (cc 0, 8, .inl (S 3))), (a 4, .inl (cc 0, 8, .inl (S 4))), (a 5, .inl (cc 0, 60, .inl (S 5))), (a 6, .inl (cc 0, 81, .inl (S 6))), (a 7, .inl (cc 0, 24, .inl (S 7))), (a 8, .inl (cc 0, 24, .inl (S 8))), (a 9, .inl (cc 0, 24, .inl (S 9))), (a 10, .inl (cc 0, 24, .inl (S 10))), (a 11, .inl (cc 0, 24, .inl (S 11))), (a 12, .inl (cc 0, 24, .inl (S 12))), (a 13, .inl (cc 0, 24, .inl (S 13))), (a 14, .inl (cc 0, 24, .inl (S 14))), (a 15, .inl (cc 0, 24, .inl (S 15))), (a 16, .inl (cc 2, 24, .inl (S 16))), (a 17, .inl (cc 2, 24, .inl (S 17))), (a 18, .inl (cc 0, 24, .inl (S 18))), (a 19, .inl (cc 0, 20, .inl (S 19))), (a 20, .inl (cc 0, 20, .inl (S 20))), (a 21, .inl (cc 0, 20, .inl (S 21))), (a 22, .inl (cc 0, 20, .inl (S 22))), (a 23, .inl (cc 0, 6, .inl (S 23))), (a 24, .inl (cc 0, 6, .inl (S 24))), (a 25, .inl (cc 0, 30, .inl (S 25))), (a 26, .inl (cc 0, 30, .inl (S 26))), (a 27, .inl (cc 0, 30, .inl (S 27))), (a 28, .inl (cc 0, 30, .inl (S 28))), (a 29, .inl (cc 0, 30, .inl (S 29))), (a 30, .inl (cc 0, 30, .inl (S 30))), (a 31, .inl (cc 0, 30, .inl (S 31))), (a 32, .inl (cc 0, 30, .inl (S 32))), (a 33, .inl (cc 0, 30, .inl (S 33))), (a 34, .inl (cc 0, 30, .inl (S 34))), (a 35, .inl (cc 0, 30, .inl (S 35))), (a 36, .inl (cc 0, 30, .inl (S 36))), (a 37, .inl (cc 0, 30, .inl (S 37))), (a 38, .inl (cc 0, 30, .inl (S 38))), (a 39, .inl (cc 0, 30, .inl (S 39))), (a 40, .inl (cc 0, 8, .inl (S 40))), (a 41, .inl (cc 0, 8, .inl (S 41))), (a 42, .inl (cc 0, 30, .inl (S 42))), (a 43, .inl (cc 0, 4, .inl (S 43))), (a 44, .inl (cc 0, 4, .inl (S 44))), (a 45, .inl (cc 0, 144, .inl (S 45)))]
theorem gm_g0 : (gw_mw cc a S)[0]? = some (a 0, .inr (9, [.ref (a 1), .ref (a 2), .ref (a 3), .ref (a 4), .ref (a 5), .int (S 0 5), .int (S 0 6), .ref (a 6), .int (S 0 8), .ref (a 7), .ref (a 8), .ref (a 9), .ref (a 10), .ref (a 11), .ref (a 12), .ref (a 13), .ref (a 14), .ref (a 15), .ref (a 16), .ref (a 17), .ref (a 18), .int (S 0 21), .ref (a 19), .ref (a 20), .ref (a 21), .ref (a 22), .ref (a 23), .ref (a 24), .int (S 0 28), .int (S 0 29), .ref (a 25), .ref (a 26), .ref (a 27), .ref (a 28), .ref (a 29), .ref (a 30), .ref (a 31), .ref (a 32), .ref (a 33), .ref (a 34), .ref (a 35), .ref (a 36), .ref (a 37), .ref (a 38), .ref (a 39), .ref (a 40), .ref (a 41), .ref (a 42), .ref (a 43), .ref (a 44), .ref (a 45)])) := rfl
theorem gm_s0_5 {v : Int32} (h : S1 = gw_up S 0 5 v) : (gw_mw cc a S).set 0 (a 0, .inr (9, [.ref (a 1), .ref (a 2), .ref (a 3), .ref (a 4), .ref (a 5), .int (S 0 5), .int (S 0 6), .ref (a 6), .int (S 0 8), .ref (a 7), .ref (a 8), .ref (a 9), .ref (a 10), .ref (a 11), .ref (a 12), .ref (a 13), .ref (a 14), .ref (a 15), .ref (a 16), .ref (a 17), .ref (a 18), .int (S 0 21), .ref (a 19), .ref (a 20), .ref (a 21), .ref (a 22), .ref (a 23), .ref (a 24), .int (S 0 28), .int (S 0 29), .ref (a 25), .ref (a 26), .ref (a 27), .ref (a 28), .ref (a 29), .ref (a 30), .ref (a 31), .ref (a 32), .ref (a 33), .ref (a 34), .ref (a 35), .ref (a 36), .ref (a 37), .ref (a 38), .ref (a 39), .ref (a 40), .ref (a 41), .ref (a 42), .ref (a 43), .ref (a 44), .ref (a 45)].set 5 (.int v))) = gw_mw cc a S1 := by subst h; rfl
theorem gm_s0_6 {v : Int32} (h : S1 = gw_up S 0 6 v) : (gw_mw cc a S).set 0 (a 0, .inr (9, [.ref (a 1), .ref (a 2), .ref (a 3), .ref (a 4), .ref (a 5), .int (S 0 5), .int (S 0 6), .ref (a 6), .int (S 0 8), .ref (a 7), .ref (a 8), .ref (a 9), .ref (a 10), .ref (a 11), .ref (a 12), .ref (a 13), .ref (a 14), .ref (a 15), .ref (a 16), .ref (a 17), .ref (a 18), .int (S 0 21), .ref (a 19), .ref (a 20), .ref (a 21), .ref (a 22), .ref (a 23), .ref (a 24), .int (S 0 28), .int (S 0 29), .ref (a 25), .ref (a 26), .ref (a 27), .ref (a 28), .ref (a 29), .ref (a 30), .ref (a 31), .ref (a 32), .ref (a 33), .ref (a 34), .ref (a 35), .ref (a 36), .ref (a 37), .ref (a 38), .ref (a 39), .ref (a 40), .ref (a 41), .ref (a 42), .ref (a 43), .ref (a 44), .ref (a 45)].set 6 (.int v))) = gw_mw cc a S1 := by subst h; rfl
theorem gm_s0_8 {v : Int32} (h : S1 = gw_up S 0 8 v) : (gw_mw cc a S).set 0 (a 0, .inr (9, [.ref (a 1), .ref (a 2), .ref (a 3), .ref (a 4), .ref (a 5), .int (S 0 5), .int (S 0 6), .ref (a 6), .int (S 0 8), .ref (a 7), .ref (a 8), .ref (a 9), .ref (a 10), .ref (a 11), .ref (a 12), .ref (a 13), .ref (a 14), .ref (a 15), .ref (a 16), .ref (a 17), .ref (a 18), .int (S 0 21), .ref (a 19), .ref (a 20), .ref (a 21), .ref (a 22), .ref (a 23), .ref (a 24), .int (S 0 28), .int (S 0 29), .ref (a 25), .ref (a 26), .ref (a 27), .ref (a 28), .ref (a 29), .ref (a 30), .ref (a 31), .ref (a 32), .ref (a 33), .ref (a 34), .ref (a 35), .ref (a 36), .ref (a 37), .ref (a 38), .ref (a 39), .ref (a 40), .ref (a 41), .ref (a 42), .ref (a 43), .ref (a 44), .ref (a 45)].set 8 (.int v))) = gw_mw cc a S1 := by subst h; rfl
theorem gm_s0_21 {v : Int32} (h : S1 = gw_up S 0 21 v) : (gw_mw cc a S).set 0 (a 0, .inr (9, [.ref (a 1), .ref (a 2), .ref (a 3), .ref (a 4), .ref (a 5), .int (S 0 5), .int (S 0 6), .ref (a 6), .int (S 0 8), .ref (a 7), .ref (a 8), .ref (a 9), .ref (a 10), .ref (a 11), .ref (a 12), .ref (a 13), .ref (a 14), .ref (a 15), .ref (a 16), .ref (a 17), .ref (a 18), .int (S 0 21), .ref (a 19), .ref (a 20), .ref (a 21), .ref (a 22), .ref (a 23), .ref (a 24), .int (S 0 28), .int (S 0 29), .ref (a 25), .ref (a 26), .ref (a 27), .ref (a 28), .ref (a 29), .ref (a 30), .ref (a 31), .ref (a 32), .ref (a 33), .ref (a 34), .ref (a 35), .ref (a 36), .ref (a 37), .ref (a 38), .ref (a 39), .ref (a 40), .ref (a 41), .ref (a 42), .ref (a 43), .ref (a 44), .ref (a 45)].set 21 (.int v))) = gw_mw cc a S1 := by subst h; rfl
theorem gm_s0_28 {v : Int32} (h : S1 = gw_up S 0 28 v) : (gw_mw cc a S).set 0 (a 0, .inr (9, [.ref (a 1), .ref (a 2), .ref (a 3), .ref (a 4), .ref (a 5), .int (S 0 5), .int (S 0 6), .ref (a 6), .int (S 0 8), .ref (a 7), .ref (a 8), .ref (a 9), .ref (a 10), .ref (a 11), .ref (a 12), .ref (a 13), .ref (a 14), .ref (a 15), .ref (a 16), .ref (a 17), .ref (a 18), .int (S 0 21), .ref (a 19), .ref (a 20), .ref (a 21), .ref (a 22), .ref (a 23), .ref (a 24), .int (S 0 28), .int (S 0 29), .ref (a 25), .ref (a 26), .ref (a 27), .ref (a 28), .ref (a 29), .ref (a 30), .ref (a 31), .ref (a 32), .ref (a 33), .ref (a 34), .ref (a 35), .ref (a 36), .ref (a 37), .ref (a 38), .ref (a 39), .ref (a 40), .ref (a 41), .ref (a 42), .ref (a 43), .ref (a 44), .ref (a 45)].set 28 (.int v))) = gw_mw cc a S1 := by subst h; rfl
theorem gm_s0_29 {v : Int32} (h : S1 = gw_up S 0 29 v) : (gw_mw cc a S).set 0 (a 0, .inr (9, [.ref (a 1), .ref (a 2), .ref (a 3), .ref (a 4), .ref (a 5), .int (S 0 5), .int (S 0 6), .ref (a 6), .int (S 0 8), .ref (a 7), .ref (a 8), .ref (a 9), .ref (a 10), .ref (a 11), .ref (a 12), .ref (a 13), .ref (a 14), .ref (a 15), .ref (a 16), .ref (a 17), .ref (a 18), .int (S 0 21), .ref (a 19), .ref (a 20), .ref (a 21), .ref (a 22), .ref (a 23), .ref (a 24), .int (S 0 28), .int (S 0 29), .ref (a 25), .ref (a 26), .ref (a 27), .ref (a 28), .ref (a 29), .ref (a 30), .ref (a 31), .ref (a 32), .ref (a 33), .ref (a 34), .ref (a 35), .ref (a 36), .ref (a 37), .ref (a 38), .ref (a 39), .ref (a 40), .ref (a 41), .ref (a 42), .ref (a 43), .ref (a 44), .ref (a 45)].set 29 (.int v))) = gw_mw cc a S1 := by subst h; rfl
theorem gm_g1 : (gw_mw cc a S)[1]? = some (a 1, .inl (cc 0, 8, .inl (S 1))) := rfl
theorem gm_s1 {i : Nat} {v : Int32} (h : S1 = gw_up S 1 i v) : (gw_mw cc a S).set 1 (a 1, .inl (cc 0, 8, .inl (upd (S 1) i v))) = gw_mw cc a S1 := by subst h; rfl
theorem gm_g2 : (gw_mw cc a S)[2]? = some (a 2, .inl (cc 0, 8, .inl (S 2))) := rfl
theorem gm_s2 {i : Nat} {v : Int32} (h : S1 = gw_up S 2 i v) : (gw_mw cc a S).set 2 (a 2, .inl (cc 0, 8, .inl (upd (S 2) i v))) = gw_mw cc a S1 := by subst h; rfl
theorem gm_g3 : (gw_mw cc a S)[3]? = some (a 3, .inl (cc 0, 8, .inl (S 3))) := rfl
theorem gm_s3 {i : Nat} {v : Int32} (h : S1 = gw_up S 3 i v) : (gw_mw cc a S).set 3 (a 3, .inl (cc 0, 8, .inl (upd (S 3) i v))) = gw_mw cc a S1 := by subst h; rfl
theorem gm_g4 : (gw_mw cc a S)[4]? = some (a 4, .inl (cc 0, 8, .inl (S 4))) := rfl
theorem gm_s4 {i : Nat} {v : Int32} (h : S1 = gw_up S 4 i v) : (gw_mw cc a S).set 4 (a 4, .inl (cc 0, 8, .inl (upd (S 4) i v))) = gw_mw cc a S1 := by subst h; rfl
theorem gm_g5 : (gw_mw cc a S)[5]? = some (a 5, .inl (cc 0, 60, .inl (S 5))) := rfl
theorem gm_s5 {i : Nat} {v : Int32} (h : S1 = gw_up S 5 i v) : (gw_mw cc a S).set 5 (a 5, .inl (cc 0, 60, .inl (upd (S 5) i v))) = gw_mw cc a S1 := by subst h; rfl
theorem gm_g6 : (gw_mw cc a S)[6]? = some (a 6, .inl (cc 0, 81, .inl (S 6))) := rfl
theorem gm_s6 {i : Nat} {v : Int32} (h : S1 = gw_up S 6 i v) : (gw_mw cc a S).set 6 (a 6, .inl (cc 0, 81, .inl (upd (S 6) i v))) = gw_mw cc a S1 := by subst h; rfl
theorem gm_g7 : (gw_mw cc a S)[7]? = some (a 7, .inl (cc 0, 24, .inl (S 7))) := rfl
theorem gm_s7 {i : Nat} {v : Int32} (h : S1 = gw_up S 7 i v) : (gw_mw cc a S).set 7 (a 7, .inl (cc 0, 24, .inl (upd (S 7) i v))) = gw_mw cc a S1 := by subst h; rfl
theorem gm_g8 : (gw_mw cc a S)[8]? = some (a 8, .inl (cc 0, 24, .inl (S 8))) := rfl
theorem gm_s8 {i : Nat} {v : Int32} (h : S1 = gw_up S 8 i v) : (gw_mw cc a S).set 8 (a 8, .inl (cc 0, 24, .inl (upd (S 8) i v))) = gw_mw cc a S1 := by subst h; rfl
theorem gm_g9 : (gw_mw cc a S)[9]? = some (a 9, .inl (cc 0, 24, .inl (S 9))) := rfl
theorem gm_s9 {i : Nat} {v : Int32} (h : S1 = gw_up S 9 i v) : (gw_mw cc a S).set 9 (a 9, .inl (cc 0, 24, .inl (upd (S 9) i v))) = gw_mw cc a S1 := by subst h; rfl
theorem gm_g10 : (gw_mw cc a S)[10]? = some (a 10, .inl (cc 0, 24, .inl (S 10))) := rfl
theorem gm_s10 {i : Nat} {v : Int32} (h : S1 = gw_up S 10 i v) : (gw_mw cc a S).set 10 (a 10, .inl (cc 0, 24, .inl (upd (S 10) i v))) = gw_mw cc a S1 := by subst h; rfl
theorem gm_g11 : (gw_mw cc a S)[11]? = some (a 11, .inl (cc 0, 24, .inl (S 11))) := rfl
theorem gm_s11 {i : Nat} {v : Int32} (h : S1 = gw_up S 11 i v) : (gw_mw cc a S).set 11 (a 11, .inl (cc 0, 24, .inl (upd (S 11) i v))) = gw_mw cc a S1 := by subst h; rfl
theorem gm_g12 : (gw_mw cc a S)[12]? = some (a 12, .inl (cc 0, 24, .inl (S 12))) := rfl
theorem gm_s12 {i : Nat} {v : Int32} (h : S1 = gw_up S 12 i v) : (gw_mw cc a S).set 12 (a 12, .inl (cc 0, 24, .inl (upd (S 12) i v))) = gw_mw cc a S1 := by subst h; rfl
theorem gm_g13 : (gw_mw cc a S)[13]? = some (a 13, .inl (cc 0, 24, .inl (S 13))) := rfl
theorem gm_s13 {i : Nat} {v : Int32} (h : S1 = gw_up S 13 i v) : (gw_mw cc a S).set 13 (a 13, .inl (cc 0, 24, .inl (upd (S 13) i v))) = gw_mw cc a S1 := by subst h; rfl
theorem gm_g14 : (gw_mw cc a S)[14]? = some (a 14, .inl (cc 0, 24, .inl (S 14))) := rfl
theorem gm_s14 {i : Nat} {v : Int32} (h : S1 = gw_up S 14 i v) : (gw_mw cc a S).set 14 (a 14, .inl (cc 0, 24, .inl (upd (S 14) i v))) = gw_mw cc a S1 := by subst h; rfl
theorem gm_g15 : (gw_mw cc a S)[15]? = some (a 15, .inl (cc 0, 24, .inl (S 15))) := rfl
theorem gm_s15 {i : Nat} {v : Int32} (h : S1 = gw_up S 15 i v) : (gw_mw cc a S).set 15 (a 15, .inl (cc 0, 24, .inl (upd (S 15) i v))) = gw_mw cc a S1 := by subst h; rfl
theorem gm_g16 : (gw_mw cc a S)[16]? = some (a 16, .inl (cc 2, 24, .inl (S 16))) := rfl
theorem gm_s16 {i : Nat} {v : Int32} (h : S1 = gw_up S 16 i v) : (gw_mw cc a S).set 16 (a 16, .inl (cc 2, 24, .inl (upd (S 16) i v))) = gw_mw cc a S1 := by subst h; rfl
theorem gm_g17 : (gw_mw cc a S)[17]? = some (a 17, .inl (cc 2, 24, .inl (S 17))) := rfl
theorem gm_s17 {i : Nat} {v : Int32} (h : S1 = gw_up S 17 i v) : (gw_mw cc a S).set 17 (a 17, .inl (cc 2, 24, .inl (upd (S 17) i v))) = gw_mw cc a S1 := by subst h; rfl
theorem gm_g18 : (gw_mw cc a S)[18]? = some (a 18, .inl (cc 0, 24, .inl (S 18))) := rfl
theorem gm_s18 {i : Nat} {v : Int32} (h : S1 = gw_up S 18 i v) : (gw_mw cc a S).set 18 (a 18, .inl (cc 0, 24, .inl (upd (S 18) i v))) = gw_mw cc a S1 := by subst h; rfl
theorem gm_g19 : (gw_mw cc a S)[19]? = some (a 19, .inl (cc 0, 20, .inl (S 19))) := rfl
theorem gm_s19 {i : Nat} {v : Int32} (h : S1 = gw_up S 19 i v) : (gw_mw cc a S).set 19 (a 19, .inl (cc 0, 20, .inl (upd (S 19) i v))) = gw_mw cc a S1 := by subst h; rfl
theorem gm_g20 : (gw_mw cc a S)[20]? = some (a 20, .inl (cc 0, 20, .inl (S 20))) := rfl
theorem gm_s20 {i : Nat} {v : Int32} (h : S1 = gw_up S 20 i v) : (gw_mw cc a S).set 20 (a 20, .inl (cc 0, 20, .inl (upd (S 20) i v))) = gw_mw cc a S1 := by subst h; rfl
theorem gm_g21 : (gw_mw cc a S)[21]? = some (a 21, .inl (cc 0, 20, .inl (S 21))) := rfl
theorem gm_s21 {i : Nat} {v : Int32} (h : S1 = gw_up S 21 i v) : (gw_mw cc a S).set 21 (a 21, .inl (cc 0, 20, .inl (upd (S 21) i v))) = gw_mw cc a S1 := by subst h; rfl
theorem gm_g22 : (gw_mw cc a S)[22]? = some (a 22, .inl (cc 0, 20, .inl (S 22))) := rfl
theorem gm_s22 {i : Nat} {v : Int32} (h : S1 = gw_up S 22 i v) : (gw_mw cc a S).set 22 (a 22, .inl (cc 0, 20, .inl (upd (S 22) i v))) = gw_mw cc a S1 := by subst h; rfl
theorem gm_g23 : (gw_mw cc a S)[23]? = some (a 23, .inl (cc 0, 6, .inl (S 23))) := rfl
theorem gm_s23 {i : Nat} {v : Int32} (h : S1 = gw_up S 23 i v) : (gw_mw cc a S).set 23 (a 23, .inl (cc 0, 6, .inl (upd (S 23) i v))) = gw_mw cc a S1 := by subst h; rfl
theorem gm_g24 : (gw_mw cc a S)[24]? = some (a 24, .inl (cc 0, 6, .inl (S 24))) := rfl
theorem gm_s24 {i : Nat} {v : Int32} (h : S1 = gw_up S 24 i v) : (gw_mw cc a S).set 24 (a 24, .inl (cc 0, 6, .inl (upd (S 24) i v))) = gw_mw cc a S1 := by subst h; rfl
theorem gm_g25 : (gw_mw cc a S)[25]? = some (a 25, .inl (cc 0, 30, .inl (S 25))) := rfl
theorem gm_s25 {i : Nat} {v : Int32} (h : S1 = gw_up S 25 i v) : (gw_mw cc a S).set 25 (a 25, .inl (cc 0, 30, .inl (upd (S 25) i v))) = gw_mw cc a S1 := by subst h; rfl
theorem gm_g26 : (gw_mw cc a S)[26]? = some (a 26, .inl (cc 0, 30, .inl (S 26))) := rfl
theorem gm_s26 {i : Nat} {v : Int32} (h : S1 = gw_up S 26 i v) : (gw_mw cc a S).set 26 (a 26, .inl (cc 0, 30, .inl (upd (S 26) i v))) = gw_mw cc a S1 := by subst h; rfl
theorem gm_g27 : (gw_mw cc a S)[27]? = some (a 27, .inl (cc 0, 30, .inl (S 27))) := rfl
theorem gm_s27 {i : Nat} {v : Int32} (h : S1 = gw_up S 27 i v) : (gw_mw cc a S).set 27 (a 27, .inl (cc 0, 30, .inl (upd (S 27) i v))) = gw_mw cc a S1 := by subst h; rfl
theorem gm_g28 : (gw_mw cc a S)[28]? = some (a 28, .inl (cc 0, 30, .inl (S 28))) := rfl
theorem gm_s28 {i : Nat} {v : Int32} (h : S1 = gw_up S 28 i v) : (gw_mw cc a S).set 28 (a 28, .inl (cc 0, 30, .inl (upd (S 28) i v))) = gw_mw cc a S1 := by subst h; rfl
theorem gm_g29 : (gw_mw cc a S)[29]? = some (a 29, .inl (cc 0, 30, .inl (S 29))) := rfl
theorem gm_s29 {i : Nat} {v : Int32} (h : S1 = gw_up S 29 i v) : (gw_mw cc a S).set 29 (a 29, .inl (cc 0, 30, .inl (upd (S 29) i v))) = gw_mw cc a S1 := by subst h; rfl
theorem gm_g30 : (gw_mw cc a S)[30]? = some (a 30, .inl (cc 0, 30, .inl (S 30))) := rfl
theorem gm_s30 {i : Nat} {v : Int32} (h : S1 = gw_up S 30 i v) : (gw_mw cc a S).set 30 (a 30, .inl (cc 0, 30, .inl (upd (S 30) i v))) = gw_mw cc a S1 := by subst h; rfl
theorem gm_g31 : (gw_mw cc a S)[31]? = some (a 31, .inl (cc 0, 30, .inl (S 31))) := rfl
theorem gm_s31 {i : Nat} {v : Int32} (h : S1 = gw_up S 31 i v) : (gw_mw cc a S).set 31 (a 31, .inl (cc 0, 30, .inl (upd (S 31) i v))) = gw_mw cc a S1 := by subst h; rfl
theorem gm_g32 : (gw_mw cc a S)[32]? = some (a 32, .inl (cc 0, 30, .inl (S 32))) := rfl
theorem gm_s32 {i : Nat} {v : Int32} (h : S1 = gw_up S 32 i v) : (gw_mw cc a S).set 32 (a 32, .inl (cc 0, 30, .inl (upd (S 32) i v))) = gw_mw cc a S1 := by subst h; rfl
theorem gm_g33 : (gw_mw cc a S)[33]? = some (a 33, .inl (cc 0, 30, .inl (S 33))) := rfl
theorem gm_s33 {i : Nat} {v : Int32} (h : S1 = gw_up S 33 i v) : (gw_mw cc a S).set 33 (a 33, .inl (cc 0, 30, .inl (upd (S 33) i v))) = gw_mw cc a S1 := by subst h; rfl
theorem gm_g34 : (gw_mw cc a S)[34]? = some (a 34, .inl (cc 0, 30, .inl (S 34))) := rfl
theorem gm_s34 {i : Nat} {v : Int32} (h : S1 = gw_up S 34 i v) : (gw_mw cc a S).set 34 (a 34, .inl (cc 0, 30, .inl (upd (S 34) i v))) = gw_mw cc a S1 := by subst h; rfl
theorem gm_g35 : (gw_mw cc a S)[35]? = some (a 35, .inl (cc 0, 30, .inl (S 35))) := rfl
theorem gm_s35 {i : Nat} {v : Int32} (h : S1 = gw_up S 35 i v) : (gw_mw cc a S).set 35 (a 35, .inl (cc 0, 30, .inl (upd (S 35) i v))) = gw_mw cc a S1 := by subst h; rfl
theorem gm_g36 : (gw_mw cc a S)[36]? = some (a 36, .inl (cc 0, 30, .inl (S 36))) := rfl
theorem gm_s36 {i : Nat} {v : Int32} (h : S1 = gw_up S 36 i v) : (gw_mw cc a S).set 36 (a 36, .inl (cc 0, 30, .inl (upd (S 36) i v))) = gw_mw cc a S1 := by subst h; rfl
theorem gm_g37 : (gw_mw cc a S)[37]? = some (a 37, .inl (cc 0, 30, .inl (S 37))) := rfl
theorem gm_s37 {i : Nat} {v : Int32} (h : S1 = gw_up S 37 i v) : (gw_mw cc a S).set 37 (a 37, .inl (cc 0, 30, .inl (upd (S 37) i v))) = gw_mw cc a S1 := by subst h; rfl
theorem gm_g38 : (gw_mw cc a S)[38]? = some (a 38, .inl (cc 0, 30, .inl (S 38))) := rfl
theorem gm_s38 {i : Nat} {v : Int32} (h : S1 = gw_up S 38 i v) : (gw_mw cc a S).set 38 (a 38, .inl (cc 0, 30, .inl (upd (S 38) i v))) = gw_mw cc a S1 := by subst h; rfl
theorem gm_g39 : (gw_mw cc a S)[39]? = some (a 39, .inl (cc 0, 30, .inl (S 39))) := rfl
theorem gm_s39 {i : Nat} {v : Int32} (h : S1 = gw_up S 39 i v) : (gw_mw cc a S).set 39 (a 39, .inl (cc 0, 30, .inl (upd (S 39) i v))) = gw_mw cc a S1 := by subst h; rfl
theorem gm_g40 : (gw_mw cc a S)[40]? = some (a 40, .inl (cc 0, 8, .inl (S 40))) := rfl
theorem gm_s40 {i : Nat} {v : Int32} (h : S1 = gw_up S 40 i v) : (gw_mw cc a S).set 40 (a 40, .inl (cc 0, 8, .inl (upd (S 40) i v))) = gw_mw cc a S1 := by subst h; rfl
theorem gm_g41 : (gw_mw cc a S)[41]? = some (a 41, .inl (cc 0, 8, .inl (S 41))) := rfl
theorem gm_s41 {i : Nat} {v : Int32} (h : S1 = gw_up S 41 i v) : (gw_mw cc a S).set 41 (a 41, .inl (cc 0, 8, .inl (upd (S 41) i v))) = gw_mw cc a S1 := by subst h; rfl
theorem gm_g42 : (gw_mw cc a S)[42]? = some (a 42, .inl (cc 0, 30, .inl (S 42))) := rfl
theorem gm_s42 {i : Nat} {v : Int32} (h : S1 = gw_up S 42 i v) : (gw_mw cc a S).set 42 (a 42, .inl (cc 0, 30, .inl (upd (S 42) i v))) = gw_mw cc a S1 := by subst h; rfl
theorem gm_g43 : (gw_mw cc a S)[43]? = some (a 43, .inl (cc 0, 4, .inl (S 43))) := rfl
theorem gm_s43 {i : Nat} {v : Int32} (h : S1 = gw_up S 43 i v) : (gw_mw cc a S).set 43 (a 43, .inl (cc 0, 4, .inl (upd (S 43) i v))) = gw_mw cc a S1 := by subst h; rfl
theorem gm_g44 : (gw_mw cc a S)[44]? = some (a 44, .inl (cc 0, 4, .inl (S 44))) := rfl
theorem gm_s44 {i : Nat} {v : Int32} (h : S1 = gw_up S 44 i v) : (gw_mw cc a S).set 44 (a 44, .inl (cc 0, 4, .inl (upd (S 44) i v))) = gw_mw cc a S1 := by subst h; rfl
theorem gm_g45 : (gw_mw cc a S)[45]? = some (a 45, .inl (cc 0, 144, .inl (S 45))) := rfl
theorem gm_s45 {i : Nat} {v : Int32} (h : S1 = gw_up S 45 i v) : (gw_mw cc a S).set 45 (a 45, .inl (cc 0, 144, .inl (upd (S 45) i v))) = gw_mw cc a S1 := by subst h; rfl
end GWM
