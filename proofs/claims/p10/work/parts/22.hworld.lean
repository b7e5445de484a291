section GWH
variable {cc : Nat → ClassId} {a b d : Nat → Nat} {S S1 : gw_S}
def gw_hw (cc : Nat → ClassId) (a b d : Nat → Nat) (S : gw_S) : va_W := [(a 3, .inr (2, [.ref (a 4), .ref (a 7), .ref (a 11), .ref (a 12), .ref (a 13), .ref (a 14), .int (S 3 6), .int (S 3 7)])), (a 4, .inr (7, [.ref (a 5), .ref (a 6)])), (a 5, .inl (cc 0, 8, .inl (S 5))), (a 6, .inl (cc 0, 8, .inl (S 6))), (a 7, .inr (3, [.ref (a 8), .ref (a 9), .ref (a 10), .int (S 7 3), .int (S 7 4)])), (a 8, .inl (cc 0, 36, .inl (S 8))), (a 9, .inl (cc 0, 6, .inl (S 9))), (a 10, .inl (cc 0, 6, .inl (S 10))), (a 11, .inl (cc 0, 81, .inl (S 11))), (a 12, .inl (cc 3, 24, .inr (.inr (.inr (.inr (fun i => gw_rf b (S 12 i))))))), (a 13, .inl (cc 4, 30, .inr (.inr (.inr (.inr (fun i => gw_rf d (S 13 i))))))), (a 14, .inl (cc 2, 30, .inl (S 14)))]
theorem gh_g3 : (gw_hw cc a b d S)[0]? = some (a 3, .inr (2, [.ref (a 4), .ref (a 7), .ref (a 11), .ref (a 12), .ref (a 13), .ref (a 14), .int (S 3 6), .int (S 3 7)])) := rfl
theorem gh_g4 : (gw_hw cc a b d S)[1]? = some (a 4, .inr (7, [.ref (a 5), .ref (a 6)])) := rfl
theorem gh_g5 : (gw_hw cc a b d S)[2]? = some (a 5, .inl (cc 0, 8, .inl (S 5))) := rfl
theorem gh_s5 {i : Nat} {v : Int32} (h : S1 = gw_up S 5 i v) : (gw_hw cc a b d S).set 2 (a 5, .inl (cc 0, 8, .inl (upd (S 5) i v))) = gw_hw cc a b d S1 := by subst h; rfl
theorem gh_g6 : (gw_hw cc a b d S)[3]? = some (a 6, .inl (cc 0, 8, .inl (S 6))) := rfl
theorem gh_s6 {i : Nat} {v : Int32} (h : S1 = gw_up S 6 i v) : (gw_hw cc a b d S).set 3 (a 6, .inl (cc 0, 8, .inl (upd (S 6) i v))) = gw_hw cc a b d S1 := by subst h; rfl
theorem gh_g7 : (gw_hw cc a b d S)[4]? = some (a 7, .inr (3, [.ref (a 8), .ref (a 9), .ref (a 10), .int (S 7 3), .int (S 7 4)])) := rfl
theorem gh_g8 : (gw_hw cc a b d S)[5]? = some (a 8, .inl (cc 0, 36, .inl (S 8))) := rfl
theorem gh_s8 {i : Nat} {v : Int32} (h : S1 = gw_up S 8 i v) : (gw_hw cc a b d S).set 5 (a 8, .inl (cc 0, 36, .inl (upd (S 8) i v))) = gw_hw cc a b d S1 := by subst h; rfl
theorem gh_g9 : (gw_hw cc a b d S)[6]? = some (a 9, .inl (cc 0, 6, .inl (S 9))) := rfl
theorem gh_s9 {i : Nat} {v : Int32} (h : S1 = gw_up S 9 i v) : (gw_hw cc a b d S).set 6 (a 9, .inl (cc 0, 6, .inl (upd (S 9) i v))) = gw_hw cc a b d S1 := by subst h; rfl
theorem gh_g10 : (gw_hw cc a b d S)[7]? = some (a 10, .inl (cc 0, 6, .inl (S 10))) := rfl
theorem gh_s10 {i : Nat} {v : Int32} (h : S1 = gw_up S 10 i v) : (gw_hw cc a b d S).set 7 (a 10, .inl (cc 0, 6, .inl (upd (S 10) i v))) = gw_hw cc a b d S1 := by subst h; rfl
theorem gh_g11 : (gw_hw cc a b d S)[8]? = some (a 11, .inl (cc 0, 81, .inl (S 11))) := rfl
theorem gh_s11 {i : Nat} {v : Int32} (h : S1 = gw_up S 11 i v) : (gw_hw cc a b d S).set 8 (a 11, .inl (cc 0, 81, .inl (upd (S 11) i v))) = gw_hw cc a b d S1 := by subst h; rfl
theorem gh_g12 : (gw_hw cc a b d S)[9]? = some (a 12, .inl (cc 3, 24, .inr (.inr (.inr (.inr (fun i => gw_rf b (S 12 i))))))) := rfl
theorem gh_g13 : (gw_hw cc a b d S)[10]? = some (a 13, .inl (cc 4, 30, .inr (.inr (.inr (.inr (fun i => gw_rf d (S 13 i))))))) := rfl
theorem gh_g14 : (gw_hw cc a b d S)[11]? = some (a 14, .inl (cc 2, 30, .inl (S 14))) := rfl
theorem gh_s14 {i : Nat} {v : Int32} (h : S1 = gw_up S 14 i v) : (gw_hw cc a b d S).set 11 (a 14, .inl (cc 2, 30, .inl (upd (S 14) i v))) = gw_hw cc a b d S1 := by subst h; rfl
end GWH
