section
/-! the decode rows of a long method, out of its bytes as one number -/
def qr_b (c : ByteArray) (i b : Nat) : Prop := ∃ h : i < c.size, (c[i]'h).toNat = b
def qr_n : List UInt8 → Nat
  | [] => 0
  | b :: r => b.toNat + 256 * qr_n r
theorem qr_n_get : ∀ (l : List UInt8) (i : Nat) (h : i < l.length), qr_n l >>> (8 * i) % 256 = (l[i]'h).toNat
  | [], i, h => absurd h (Nat.not_lt_zero i)
  | b :: r, 0, h => by
    have hb : b.toNat < 256 := UInt8.toNat_lt b
    show (b.toNat + 256 * qr_n r) >>> 0 % 256 = b.toNat
    rw [Nat.shiftRight_zero]
    omega
  | b :: r, i + 1, h => by
    have hb : b.toNat < 256 := UInt8.toNat_lt b
    have e1 : 8 * (i + 1) = 8 + 8 * i := by omega
    have e2 : (b.toNat + 256 * qr_n r) >>> 8 = qr_n r := by
      rw [Nat.shiftRight_eq_div_pow]
      show (b.toNat + 256 * qr_n r) / 256 = qr_n r
      omega
    show (b.toNat + 256 * qr_n r) >>> (8 * (i + 1)) % 256 = (r[i]'(Nat.lt_of_succ_lt_succ h)).toNat
    rw [e1, Nat.shiftRight_add, e2]
    exact qr_n_get r i _
theorem qr_of {c : ByteArray} {N n : Nat} (hN : qr_n c.data.toList = N) (hn : c.size = n) {i b : Nat} (hi : i < n) (hb : N >>> (8 * i) % 256 = b) : qr_b c i b := by
  obtain ⟨⟨l⟩⟩ := c
  subst hn
  subst hN
  subst hb
  exact ⟨hi, (qr_n_get l i hi).symm⟩
theorem qr_a0 {c : ByteArray} {N n : Nat} (hN : qr_n c.data.toList = N) (hn : c.size = n) {pc len b : Nat} (hl : Nat.ble (pc + (len + 1)) n = true) (e : N >>> (8 * pc) % 256 = b) : qr_b c pc b := qr_of hN hn (by have := Nat.le_of_ble_eq_true hl; omega) e
theorem qr_a1 {c : ByteArray} {N n : Nat} (hN : qr_n c.data.toList = N) (hn : c.size = n) {pc len b : Nat} (hl : Nat.ble (pc + (len + 2)) n = true) (e : N >>> (8 * (pc + 1)) % 256 = b) : qr_b c (pc + 1) b := qr_of hN hn (by have := Nat.le_of_ble_eq_true hl; omega) e
theorem qr_a2 {c : ByteArray} {N n : Nat} (hN : qr_n c.data.toList = N) (hn : c.size = n) {pc len b : Nat} (hl : Nat.ble (pc + (len + 3)) n = true) (e : N >>> (8 * (pc + 2)) % 256 = b) : qr_b c (pc + 2) b := qr_of hN hn (by have := Nat.le_of_ble_eq_true hl; omega) e
theorem qr_u1 {c : ByteArray} {i b : Nat} (h : qr_b c i b) : (Reader.u1 : Decoder Nat) c i = .ok (b, i + 1) := by
  obtain ⟨h, e⟩ := h
  subst e
  have e1 : (Reader.u1 : Decoder Nat) c i = (dite (i < c.size) (fun h => (do set (i + 1); pure (c[i]'h).toNat : Decoder Nat)) (fun _ => throw (HasTruncated.truncated i))) c i := rfl
  rw [e1, dif_pos h]
  rfl
theorem qr_bind {α β : Type} {x : Decoder α} {f : α → Decoder β} {c : ByteArray} {s s' : Nat} {a : α} (h : x c s = .ok (a, s')) : (x >>= f) c s = f a c s' := by
  have e : (x >>= f) c s = Except.bind (x c s) (fun p => f p.1 c p.2) := rfl
  rw [e, h]
  rfl
theorem qr_map {α β : Type} {x : Decoder α} {f : α → β} {c : ByteArray} {s s' : Nat} {a : α} (h : x c s = .ok (a, s')) : (f <$> x) c s = .ok (f a, s') := by
  have e : (f <$> x) c s = Except.bind (x c s) (fun p => .ok (f p.1, p.2)) := rfl
  rw [e, h]
  rfl
theorem qr_u2 {c : ByteArray} {i a b : Nat} (h1 : qr_b c i a) (h2 : qr_b c (i + 1) b) : (Reader.u2 : Decoder Nat) c i = .ok (a * 256 + b, i + 2) :=
  (qr_bind (qr_u1 h1)).trans ((qr_bind (qr_u1 h2)).trans rfl)
theorem qr_s1 {c : ByteArray} {i a : Nat} (h1 : qr_b c i a) : (Reader.s1 : Decoder Int) c i = .ok (Reader.signed 8 a, i + 1) := qr_map (qr_u1 h1)
theorem qr_s2 {c : ByteArray} {i a b : Nat} (h1 : qr_b c i a) (h2 : qr_b c (i + 1) b) : (Reader.s2 : Decoder Int) c i = .ok (Reader.signed 16 (a * 256 + b), i + 2) := qr_map (qr_u2 h1 h2)
theorem qr_p8 {x : Nat} (h : Nat.ble (x + 1) 128 = true) : Reader.signed 8 x = (x : Int) := by
  have h := Nat.le_of_ble_eq_true h
  show (if x < 128 then (x : Int) else (x : Int) - ((256 : Nat) : Int)) = _
  rw [if_pos (by omega)]
theorem qr_m8 {x k : Nat} (h : x + k = 256) (h2 : Nat.ble k 128 = true) : Reader.signed 8 x = -(k : Int) := by
  have h2 := Nat.le_of_ble_eq_true h2
  show (if x < 128 then (x : Int) else (x : Int) - ((256 : Nat) : Int)) = _
  rw [if_neg (by omega)]
  omega
theorem qr_p16 {x : Nat} (h : Nat.ble (x + 1) 32768 = true) : Reader.signed 16 x = (x : Int) := by
  have h := Nat.le_of_ble_eq_true h
  show (if x < 32768 then (x : Int) else (x : Int) - ((65536 : Nat) : Int)) = _
  rw [if_pos (by omega)]
theorem qr_m16 {x k : Nat} (h : x + k = 65536) (h2 : Nat.ble k 32768 = true) : Reader.signed 16 x = -(k : Int) := by
  have h2 := Nat.le_of_ble_eq_true h2
  show (if x < 32768 then (x : Int) else (x : Int) - ((65536 : Nat) : Int)) = _
  rw [if_neg (by omega)]
  omega
theorem qr_dec {c : ByteArray} {pc len : Nat} {I : Instr} (h : Decoder.instr pc c pc = .ok (I, pc + len)) : decode c pc = .ok (I, len) := by
  have e : decode c pc = Except.bind (Decoder.instr pc c pc) (fun p => .ok (p.1, p.2 - pc)) := rfl
  rw [e, h]
  show Except.ok (I, pc + len - pc) = Except.ok (I, len)
  rw [Nat.add_sub_cancel_left]
theorem qr_o1 {c : ByteArray} {N n pc : Nat} (hN : qr_n c.data.toList = N) (hn : c.size = n) (hl : Nat.ble (pc + 1) n = true) (e0 : N >>> (8 * pc) % 256 = 1) : decode c pc = .ok (.aconst_null, 1) := qr_dec ((qr_bind (qr_u1 (qr_a0 hN hn (len := 0) hl e0))).trans rfl)
theorem qr_o2 {c : ByteArray} {N n pc : Nat} (hN : qr_n c.data.toList = N) (hn : c.size = n) (hl : Nat.ble (pc + 1) n = true) (e0 : N >>> (8 * pc) % 256 = 2) : decode c pc = .ok (.iconst (-1), 1) := qr_dec ((qr_bind (qr_u1 (qr_a0 hN hn (len := 0) hl e0))).trans rfl)
theorem qr_o3 {c : ByteArray} {N n pc : Nat} (hN : qr_n c.data.toList = N) (hn : c.size = n) (hl : Nat.ble (pc + 1) n = true) (e0 : N >>> (8 * pc) % 256 = 3) : decode c pc = .ok (.iconst 0, 1) := qr_dec ((qr_bind (qr_u1 (qr_a0 hN hn (len := 0) hl e0))).trans rfl)
theorem qr_o4 {c : ByteArray} {N n pc : Nat} (hN : qr_n c.data.toList = N) (hn : c.size = n) (hl : Nat.ble (pc + 1) n = true) (e0 : N >>> (8 * pc) % 256 = 4) : decode c pc = .ok (.iconst 1, 1) := qr_dec ((qr_bind (qr_u1 (qr_a0 hN hn (len := 0) hl e0))).trans rfl)
theorem qr_o5 {c : ByteArray} {N n pc : Nat} (hN : qr_n c.data.toList = N) (hn : c.size = n) (hl : Nat.ble (pc + 1) n = true) (e0 : N >>> (8 * pc) % 256 = 5) : decode c pc = .ok (.iconst 2, 1) := qr_dec ((qr_bind (qr_u1 (qr_a0 hN hn (len := 0) hl e0))).trans rfl)
theorem qr_o6 {c : ByteArray} {N n pc : Nat} (hN : qr_n c.data.toList = N) (hn : c.size = n) (hl : Nat.ble (pc + 1) n = true) (e0 : N >>> (8 * pc) % 256 = 6) : decode c pc = .ok (.iconst 3, 1) := qr_dec ((qr_bind (qr_u1 (qr_a0 hN hn (len := 0) hl e0))).trans rfl)
theorem qr_o7 {c : ByteArray} {N n pc : Nat} (hN : qr_n c.data.toList = N) (hn : c.size = n) (hl : Nat.ble (pc + 1) n = true) (e0 : N >>> (8 * pc) % 256 = 7) : decode c pc = .ok (.iconst 4, 1) := qr_dec ((qr_bind (qr_u1 (qr_a0 hN hn (len := 0) hl e0))).trans rfl)
theorem qr_o8 {c : ByteArray} {N n pc : Nat} (hN : qr_n c.data.toList = N) (hn : c.size = n) (hl : Nat.ble (pc + 1) n = true) (e0 : N >>> (8 * pc) % 256 = 8) : decode c pc = .ok (.iconst 5, 1) := qr_dec ((qr_bind (qr_u1 (qr_a0 hN hn (len := 0) hl e0))).trans rfl)
theorem qr_o9 {c : ByteArray} {N n pc : Nat} (hN : qr_n c.data.toList = N) (hn : c.size = n) (hl : Nat.ble (pc + 1) n = true) (e0 : N >>> (8 * pc) % 256 = 9) : decode c pc = .ok (.lconst 0, 1) := qr_dec ((qr_bind (qr_u1 (qr_a0 hN hn (len := 0) hl e0))).trans rfl)
theorem qr_o10 {c : ByteArray} {N n pc : Nat} (hN : qr_n c.data.toList = N) (hn : c.size = n) (hl : Nat.ble (pc + 1) n = true) (e0 : N >>> (8 * pc) % 256 = 10) : decode c pc = .ok (.lconst 1, 1) := qr_dec ((qr_bind (qr_u1 (qr_a0 hN hn (len := 0) hl e0))).trans rfl)
theorem qr_o26 {c : ByteArray} {N n pc : Nat} (hN : qr_n c.data.toList = N) (hn : c.size = n) (hl : Nat.ble (pc + 1) n = true) (e0 : N >>> (8 * pc) % 256 = 26) : decode c pc = .ok (.iload_n 0, 1) := qr_dec ((qr_bind (qr_u1 (qr_a0 hN hn (len := 0) hl e0))).trans rfl)
theorem qr_o27 {c : ByteArray} {N n pc : Nat} (hN : qr_n c.data.toList = N) (hn : c.size = n) (hl : Nat.ble (pc + 1) n = true) (e0 : N >>> (8 * pc) % 256 = 27) : decode c pc = .ok (.iload_n 1, 1) := qr_dec ((qr_bind (qr_u1 (qr_a0 hN hn (len := 0) hl e0))).trans rfl)
theorem qr_o28 {c : ByteArray} {N n pc : Nat} (hN : qr_n c.data.toList = N) (hn : c.size = n) (hl : Nat.ble (pc + 1) n = true) (e0 : N >>> (8 * pc) % 256 = 28) : decode c pc = .ok (.iload_n 2, 1) := qr_dec ((qr_bind (qr_u1 (qr_a0 hN hn (len := 0) hl e0))).trans rfl)
theorem qr_o29 {c : ByteArray} {N n pc : Nat} (hN : qr_n c.data.toList = N) (hn : c.size = n) (hl : Nat.ble (pc + 1) n = true) (e0 : N >>> (8 * pc) % 256 = 29) : decode c pc = .ok (.iload_n 3, 1) := qr_dec ((qr_bind (qr_u1 (qr_a0 hN hn (len := 0) hl e0))).trans rfl)
theorem qr_o30 {c : ByteArray} {N n pc : Nat} (hN : qr_n c.data.toList = N) (hn : c.size = n) (hl : Nat.ble (pc + 1) n = true) (e0 : N >>> (8 * pc) % 256 = 30) : decode c pc = .ok (.lload_n 0, 1) := qr_dec ((qr_bind (qr_u1 (qr_a0 hN hn (len := 0) hl e0))).trans rfl)
theorem qr_o31 {c : ByteArray} {N n pc : Nat} (hN : qr_n c.data.toList = N) (hn : c.size = n) (hl : Nat.ble (pc + 1) n = true) (e0 : N >>> (8 * pc) % 256 = 31) : decode c pc = .ok (.lload_n 1, 1) := qr_dec ((qr_bind (qr_u1 (qr_a0 hN hn (len := 0) hl e0))).trans rfl)
theorem qr_o32 {c : ByteArray} {N n pc : Nat} (hN : qr_n c.data.toList = N) (hn : c.size = n) (hl : Nat.ble (pc + 1) n = true) (e0 : N >>> (8 * pc) % 256 = 32) : decode c pc = .ok (.lload_n 2, 1) := qr_dec ((qr_bind (qr_u1 (qr_a0 hN hn (len := 0) hl e0))).trans rfl)
theorem qr_o33 {c : ByteArray} {N n pc : Nat} (hN : qr_n c.data.toList = N) (hn : c.size = n) (hl : Nat.ble (pc + 1) n = true) (e0 : N >>> (8 * pc) % 256 = 33) : decode c pc = .ok (.lload_n 3, 1) := qr_dec ((qr_bind (qr_u1 (qr_a0 hN hn (len := 0) hl e0))).trans rfl)
theorem qr_o42 {c : ByteArray} {N n pc : Nat} (hN : qr_n c.data.toList = N) (hn : c.size = n) (hl : Nat.ble (pc + 1) n = true) (e0 : N >>> (8 * pc) % 256 = 42) : decode c pc = .ok (.aload_n 0, 1) := qr_dec ((qr_bind (qr_u1 (qr_a0 hN hn (len := 0) hl e0))).trans rfl)
theorem qr_o43 {c : ByteArray} {N n pc : Nat} (hN : qr_n c.data.toList = N) (hn : c.size = n) (hl : Nat.ble (pc + 1) n = true) (e0 : N >>> (8 * pc) % 256 = 43) : decode c pc = .ok (.aload_n 1, 1) := qr_dec ((qr_bind (qr_u1 (qr_a0 hN hn (len := 0) hl e0))).trans rfl)
theorem qr_o44 {c : ByteArray} {N n pc : Nat} (hN : qr_n c.data.toList = N) (hn : c.size = n) (hl : Nat.ble (pc + 1) n = true) (e0 : N >>> (8 * pc) % 256 = 44) : decode c pc = .ok (.aload_n 2, 1) := qr_dec ((qr_bind (qr_u1 (qr_a0 hN hn (len := 0) hl e0))).trans rfl)
theorem qr_o45 {c : ByteArray} {N n pc : Nat} (hN : qr_n c.data.toList = N) (hn : c.size = n) (hl : Nat.ble (pc + 1) n = true) (e0 : N >>> (8 * pc) % 256 = 45) : decode c pc = .ok (.aload_n 3, 1) := qr_dec ((qr_bind (qr_u1 (qr_a0 hN hn (len := 0) hl e0))).trans rfl)
theorem qr_o46 {c : ByteArray} {N n pc : Nat} (hN : qr_n c.data.toList = N) (hn : c.size = n) (hl : Nat.ble (pc + 1) n = true) (e0 : N >>> (8 * pc) % 256 = 46) : decode c pc = .ok (.iaload, 1) := qr_dec ((qr_bind (qr_u1 (qr_a0 hN hn (len := 0) hl e0))).trans rfl)
theorem qr_o50 {c : ByteArray} {N n pc : Nat} (hN : qr_n c.data.toList = N) (hn : c.size = n) (hl : Nat.ble (pc + 1) n = true) (e0 : N >>> (8 * pc) % 256 = 50) : decode c pc = .ok (.aaload, 1) := qr_dec ((qr_bind (qr_u1 (qr_a0 hN hn (len := 0) hl e0))).trans rfl)
theorem qr_o51 {c : ByteArray} {N n pc : Nat} (hN : qr_n c.data.toList = N) (hn : c.size = n) (hl : Nat.ble (pc + 1) n = true) (e0 : N >>> (8 * pc) % 256 = 51) : decode c pc = .ok (.baload, 1) := qr_dec ((qr_bind (qr_u1 (qr_a0 hN hn (len := 0) hl e0))).trans rfl)
theorem qr_o52 {c : ByteArray} {N n pc : Nat} (hN : qr_n c.data.toList = N) (hn : c.size = n) (hl : Nat.ble (pc + 1) n = true) (e0 : N >>> (8 * pc) % 256 = 52) : decode c pc = .ok (.caload, 1) := qr_dec ((qr_bind (qr_u1 (qr_a0 hN hn (len := 0) hl e0))).trans rfl)
theorem qr_o59 {c : ByteArray} {N n pc : Nat} (hN : qr_n c.data.toList = N) (hn : c.size = n) (hl : Nat.ble (pc + 1) n = true) (e0 : N >>> (8 * pc) % 256 = 59) : decode c pc = .ok (.istore_n 0, 1) := qr_dec ((qr_bind (qr_u1 (qr_a0 hN hn (len := 0) hl e0))).trans rfl)
theorem qr_o60 {c : ByteArray} {N n pc : Nat} (hN : qr_n c.data.toList = N) (hn : c.size = n) (hl : Nat.ble (pc + 1) n = true) (e0 : N >>> (8 * pc) % 256 = 60) : decode c pc = .ok (.istore_n 1, 1) := qr_dec ((qr_bind (qr_u1 (qr_a0 hN hn (len := 0) hl e0))).trans rfl)
theorem qr_o61 {c : ByteArray} {N n pc : Nat} (hN : qr_n c.data.toList = N) (hn : c.size = n) (hl : Nat.ble (pc + 1) n = true) (e0 : N >>> (8 * pc) % 256 = 61) : decode c pc = .ok (.istore_n 2, 1) := qr_dec ((qr_bind (qr_u1 (qr_a0 hN hn (len := 0) hl e0))).trans rfl)
theorem qr_o62 {c : ByteArray} {N n pc : Nat} (hN : qr_n c.data.toList = N) (hn : c.size = n) (hl : Nat.ble (pc + 1) n = true) (e0 : N >>> (8 * pc) % 256 = 62) : decode c pc = .ok (.istore_n 3, 1) := qr_dec ((qr_bind (qr_u1 (qr_a0 hN hn (len := 0) hl e0))).trans rfl)
theorem qr_o75 {c : ByteArray} {N n pc : Nat} (hN : qr_n c.data.toList = N) (hn : c.size = n) (hl : Nat.ble (pc + 1) n = true) (e0 : N >>> (8 * pc) % 256 = 75) : decode c pc = .ok (.astore_n 0, 1) := qr_dec ((qr_bind (qr_u1 (qr_a0 hN hn (len := 0) hl e0))).trans rfl)
theorem qr_o76 {c : ByteArray} {N n pc : Nat} (hN : qr_n c.data.toList = N) (hn : c.size = n) (hl : Nat.ble (pc + 1) n = true) (e0 : N >>> (8 * pc) % 256 = 76) : decode c pc = .ok (.astore_n 1, 1) := qr_dec ((qr_bind (qr_u1 (qr_a0 hN hn (len := 0) hl e0))).trans rfl)
theorem qr_o77 {c : ByteArray} {N n pc : Nat} (hN : qr_n c.data.toList = N) (hn : c.size = n) (hl : Nat.ble (pc + 1) n = true) (e0 : N >>> (8 * pc) % 256 = 77) : decode c pc = .ok (.astore_n 2, 1) := qr_dec ((qr_bind (qr_u1 (qr_a0 hN hn (len := 0) hl e0))).trans rfl)
theorem qr_o78 {c : ByteArray} {N n pc : Nat} (hN : qr_n c.data.toList = N) (hn : c.size = n) (hl : Nat.ble (pc + 1) n = true) (e0 : N >>> (8 * pc) % 256 = 78) : decode c pc = .ok (.astore_n 3, 1) := qr_dec ((qr_bind (qr_u1 (qr_a0 hN hn (len := 0) hl e0))).trans rfl)
theorem qr_o79 {c : ByteArray} {N n pc : Nat} (hN : qr_n c.data.toList = N) (hn : c.size = n) (hl : Nat.ble (pc + 1) n = true) (e0 : N >>> (8 * pc) % 256 = 79) : decode c pc = .ok (.iastore, 1) := qr_dec ((qr_bind (qr_u1 (qr_a0 hN hn (len := 0) hl e0))).trans rfl)
theorem qr_o83 {c : ByteArray} {N n pc : Nat} (hN : qr_n c.data.toList = N) (hn : c.size = n) (hl : Nat.ble (pc + 1) n = true) (e0 : N >>> (8 * pc) % 256 = 83) : decode c pc = .ok (.aastore, 1) := qr_dec ((qr_bind (qr_u1 (qr_a0 hN hn (len := 0) hl e0))).trans rfl)
theorem qr_o84 {c : ByteArray} {N n pc : Nat} (hN : qr_n c.data.toList = N) (hn : c.size = n) (hl : Nat.ble (pc + 1) n = true) (e0 : N >>> (8 * pc) % 256 = 84) : decode c pc = .ok (.bastore, 1) := qr_dec ((qr_bind (qr_u1 (qr_a0 hN hn (len := 0) hl e0))).trans rfl)
theorem qr_o87 {c : ByteArray} {N n pc : Nat} (hN : qr_n c.data.toList = N) (hn : c.size = n) (hl : Nat.ble (pc + 1) n = true) (e0 : N >>> (8 * pc) % 256 = 87) : decode c pc = .ok (.pop, 1) := qr_dec ((qr_bind (qr_u1 (qr_a0 hN hn (len := 0) hl e0))).trans rfl)
theorem qr_o89 {c : ByteArray} {N n pc : Nat} (hN : qr_n c.data.toList = N) (hn : c.size = n) (hl : Nat.ble (pc + 1) n = true) (e0 : N >>> (8 * pc) % 256 = 89) : decode c pc = .ok (.dup, 1) := qr_dec ((qr_bind (qr_u1 (qr_a0 hN hn (len := 0) hl e0))).trans rfl)
theorem qr_o92 {c : ByteArray} {N n pc : Nat} (hN : qr_n c.data.toList = N) (hn : c.size = n) (hl : Nat.ble (pc + 1) n = true) (e0 : N >>> (8 * pc) % 256 = 92) : decode c pc = .ok (.dup2, 1) := qr_dec ((qr_bind (qr_u1 (qr_a0 hN hn (len := 0) hl e0))).trans rfl)
theorem qr_o96 {c : ByteArray} {N n pc : Nat} (hN : qr_n c.data.toList = N) (hn : c.size = n) (hl : Nat.ble (pc + 1) n = true) (e0 : N >>> (8 * pc) % 256 = 96) : decode c pc = .ok (.iadd, 1) := qr_dec ((qr_bind (qr_u1 (qr_a0 hN hn (len := 0) hl e0))).trans rfl)
theorem qr_o100 {c : ByteArray} {N n pc : Nat} (hN : qr_n c.data.toList = N) (hn : c.size = n) (hl : Nat.ble (pc + 1) n = true) (e0 : N >>> (8 * pc) % 256 = 100) : decode c pc = .ok (.isub, 1) := qr_dec ((qr_bind (qr_u1 (qr_a0 hN hn (len := 0) hl e0))).trans rfl)
theorem qr_o104 {c : ByteArray} {N n pc : Nat} (hN : qr_n c.data.toList = N) (hn : c.size = n) (hl : Nat.ble (pc + 1) n = true) (e0 : N >>> (8 * pc) % 256 = 104) : decode c pc = .ok (.imul, 1) := qr_dec ((qr_bind (qr_u1 (qr_a0 hN hn (len := 0) hl e0))).trans rfl)
theorem qr_o108 {c : ByteArray} {N n pc : Nat} (hN : qr_n c.data.toList = N) (hn : c.size = n) (hl : Nat.ble (pc + 1) n = true) (e0 : N >>> (8 * pc) % 256 = 108) : decode c pc = .ok (.idiv, 1) := qr_dec ((qr_bind (qr_u1 (qr_a0 hN hn (len := 0) hl e0))).trans rfl)
theorem qr_o116 {c : ByteArray} {N n pc : Nat} (hN : qr_n c.data.toList = N) (hn : c.size = n) (hl : Nat.ble (pc + 1) n = true) (e0 : N >>> (8 * pc) % 256 = 116) : decode c pc = .ok (.ineg, 1) := qr_dec ((qr_bind (qr_u1 (qr_a0 hN hn (len := 0) hl e0))).trans rfl)
theorem qr_o120 {c : ByteArray} {N n pc : Nat} (hN : qr_n c.data.toList = N) (hn : c.size = n) (hl : Nat.ble (pc + 1) n = true) (e0 : N >>> (8 * pc) % 256 = 120) : decode c pc = .ok (.ishl, 1) := qr_dec ((qr_bind (qr_u1 (qr_a0 hN hn (len := 0) hl e0))).trans rfl)
theorem qr_o121 {c : ByteArray} {N n pc : Nat} (hN : qr_n c.data.toList = N) (hn : c.size = n) (hl : Nat.ble (pc + 1) n = true) (e0 : N >>> (8 * pc) % 256 = 121) : decode c pc = .ok (.lshl, 1) := qr_dec ((qr_bind (qr_u1 (qr_a0 hN hn (len := 0) hl e0))).trans rfl)
theorem qr_o122 {c : ByteArray} {N n pc : Nat} (hN : qr_n c.data.toList = N) (hn : c.size = n) (hl : Nat.ble (pc + 1) n = true) (e0 : N >>> (8 * pc) % 256 = 122) : decode c pc = .ok (.ishr, 1) := qr_dec ((qr_bind (qr_u1 (qr_a0 hN hn (len := 0) hl e0))).trans rfl)
theorem qr_o123 {c : ByteArray} {N n pc : Nat} (hN : qr_n c.data.toList = N) (hn : c.size = n) (hl : Nat.ble (pc + 1) n = true) (e0 : N >>> (8 * pc) % 256 = 123) : decode c pc = .ok (.lshr, 1) := qr_dec ((qr_bind (qr_u1 (qr_a0 hN hn (len := 0) hl e0))).trans rfl)
theorem qr_o124 {c : ByteArray} {N n pc : Nat} (hN : qr_n c.data.toList = N) (hn : c.size = n) (hl : Nat.ble (pc + 1) n = true) (e0 : N >>> (8 * pc) % 256 = 124) : decode c pc = .ok (.iushr, 1) := qr_dec ((qr_bind (qr_u1 (qr_a0 hN hn (len := 0) hl e0))).trans rfl)
theorem qr_o125 {c : ByteArray} {N n pc : Nat} (hN : qr_n c.data.toList = N) (hn : c.size = n) (hl : Nat.ble (pc + 1) n = true) (e0 : N >>> (8 * pc) % 256 = 125) : decode c pc = .ok (.lushr, 1) := qr_dec ((qr_bind (qr_u1 (qr_a0 hN hn (len := 0) hl e0))).trans rfl)
theorem qr_o126 {c : ByteArray} {N n pc : Nat} (hN : qr_n c.data.toList = N) (hn : c.size = n) (hl : Nat.ble (pc + 1) n = true) (e0 : N >>> (8 * pc) % 256 = 126) : decode c pc = .ok (.iand, 1) := qr_dec ((qr_bind (qr_u1 (qr_a0 hN hn (len := 0) hl e0))).trans rfl)
theorem qr_o127 {c : ByteArray} {N n pc : Nat} (hN : qr_n c.data.toList = N) (hn : c.size = n) (hl : Nat.ble (pc + 1) n = true) (e0 : N >>> (8 * pc) % 256 = 127) : decode c pc = .ok (.land, 1) := qr_dec ((qr_bind (qr_u1 (qr_a0 hN hn (len := 0) hl e0))).trans rfl)
theorem qr_o129 {c : ByteArray} {N n pc : Nat} (hN : qr_n c.data.toList = N) (hn : c.size = n) (hl : Nat.ble (pc + 1) n = true) (e0 : N >>> (8 * pc) % 256 = 129) : decode c pc = .ok (.lor, 1) := qr_dec ((qr_bind (qr_u1 (qr_a0 hN hn (len := 0) hl e0))).trans rfl)
theorem qr_o130 {c : ByteArray} {N n pc : Nat} (hN : qr_n c.data.toList = N) (hn : c.size = n) (hl : Nat.ble (pc + 1) n = true) (e0 : N >>> (8 * pc) % 256 = 130) : decode c pc = .ok (.ixor, 1) := qr_dec ((qr_bind (qr_u1 (qr_a0 hN hn (len := 0) hl e0))).trans rfl)
theorem qr_o133 {c : ByteArray} {N n pc : Nat} (hN : qr_n c.data.toList = N) (hn : c.size = n) (hl : Nat.ble (pc + 1) n = true) (e0 : N >>> (8 * pc) % 256 = 133) : decode c pc = .ok (.i2l, 1) := qr_dec ((qr_bind (qr_u1 (qr_a0 hN hn (len := 0) hl e0))).trans rfl)
theorem qr_o136 {c : ByteArray} {N n pc : Nat} (hN : qr_n c.data.toList = N) (hn : c.size = n) (hl : Nat.ble (pc + 1) n = true) (e0 : N >>> (8 * pc) % 256 = 136) : decode c pc = .ok (.l2i, 1) := qr_dec ((qr_bind (qr_u1 (qr_a0 hN hn (len := 0) hl e0))).trans rfl)
theorem qr_o145 {c : ByteArray} {N n pc : Nat} (hN : qr_n c.data.toList = N) (hn : c.size = n) (hl : Nat.ble (pc + 1) n = true) (e0 : N >>> (8 * pc) % 256 = 145) : decode c pc = .ok (.i2b, 1) := qr_dec ((qr_bind (qr_u1 (qr_a0 hN hn (len := 0) hl e0))).trans rfl)
theorem qr_o147 {c : ByteArray} {N n pc : Nat} (hN : qr_n c.data.toList = N) (hn : c.size = n) (hl : Nat.ble (pc + 1) n = true) (e0 : N >>> (8 * pc) % 256 = 147) : decode c pc = .ok (.i2s, 1) := qr_dec ((qr_bind (qr_u1 (qr_a0 hN hn (len := 0) hl e0))).trans rfl)
theorem qr_o148 {c : ByteArray} {N n pc : Nat} (hN : qr_n c.data.toList = N) (hn : c.size = n) (hl : Nat.ble (pc + 1) n = true) (e0 : N >>> (8 * pc) % 256 = 148) : decode c pc = .ok (.lcmp, 1) := qr_dec ((qr_bind (qr_u1 (qr_a0 hN hn (len := 0) hl e0))).trans rfl)
theorem qr_o172 {c : ByteArray} {N n pc : Nat} (hN : qr_n c.data.toList = N) (hn : c.size = n) (hl : Nat.ble (pc + 1) n = true) (e0 : N >>> (8 * pc) % 256 = 172) : decode c pc = .ok (.ireturn, 1) := qr_dec ((qr_bind (qr_u1 (qr_a0 hN hn (len := 0) hl e0))).trans rfl)
theorem qr_o176 {c : ByteArray} {N n pc : Nat} (hN : qr_n c.data.toList = N) (hn : c.size = n) (hl : Nat.ble (pc + 1) n = true) (e0 : N >>> (8 * pc) % 256 = 176) : decode c pc = .ok (.areturn, 1) := qr_dec ((qr_bind (qr_u1 (qr_a0 hN hn (len := 0) hl e0))).trans rfl)
theorem qr_o177 {c : ByteArray} {N n pc : Nat} (hN : qr_n c.data.toList = N) (hn : c.size = n) (hl : Nat.ble (pc + 1) n = true) (e0 : N >>> (8 * pc) % 256 = 177) : decode c pc = .ok (.return_, 1) := qr_dec ((qr_bind (qr_u1 (qr_a0 hN hn (len := 0) hl e0))).trans rfl)
theorem qr_o190 {c : ByteArray} {N n pc : Nat} (hN : qr_n c.data.toList = N) (hn : c.size = n) (hl : Nat.ble (pc + 1) n = true) (e0 : N >>> (8 * pc) % 256 = 190) : decode c pc = .ok (.arraylength, 1) := qr_dec ((qr_bind (qr_u1 (qr_a0 hN hn (len := 0) hl e0))).trans rfl)
theorem qr_o18 {c : ByteArray} {N n pc : Nat} (a : Nat) (hN : qr_n c.data.toList = N) (hn : c.size = n) (hl : Nat.ble (pc + 2) n = true) (e0 : N >>> (8 * pc) % 256 = 18) (e1 : N >>> (8 * (pc + 1)) % 256 = a) : decode c pc = .ok (.ldc a, 2) := qr_dec ((qr_bind (qr_u1 (qr_a0 hN hn (len := 1) hl e0))).trans ((qr_bind (qr_u1 (qr_a1 hN hn (len := 0) hl e1))).trans rfl))
theorem qr_o21 {c : ByteArray} {N n pc : Nat} (a : Nat) (hN : qr_n c.data.toList = N) (hn : c.size = n) (hl : Nat.ble (pc + 2) n = true) (e0 : N >>> (8 * pc) % 256 = 21) (e1 : N >>> (8 * (pc + 1)) % 256 = a) : decode c pc = .ok (.iload a, 2) := qr_dec ((qr_bind (qr_u1 (qr_a0 hN hn (len := 1) hl e0))).trans ((qr_bind (qr_u1 (qr_a1 hN hn (len := 0) hl e1))).trans rfl))
theorem qr_o22 {c : ByteArray} {N n pc : Nat} (a : Nat) (hN : qr_n c.data.toList = N) (hn : c.size = n) (hl : Nat.ble (pc + 2) n = true) (e0 : N >>> (8 * pc) % 256 = 22) (e1 : N >>> (8 * (pc + 1)) % 256 = a) : decode c pc = .ok (.lload a, 2) := qr_dec ((qr_bind (qr_u1 (qr_a0 hN hn (len := 1) hl e0))).trans ((qr_bind (qr_u1 (qr_a1 hN hn (len := 0) hl e1))).trans rfl))
theorem qr_o25 {c : ByteArray} {N n pc : Nat} (a : Nat) (hN : qr_n c.data.toList = N) (hn : c.size = n) (hl : Nat.ble (pc + 2) n = true) (e0 : N >>> (8 * pc) % 256 = 25) (e1 : N >>> (8 * (pc + 1)) % 256 = a) : decode c pc = .ok (.aload a, 2) := qr_dec ((qr_bind (qr_u1 (qr_a0 hN hn (len := 1) hl e0))).trans ((qr_bind (qr_u1 (qr_a1 hN hn (len := 0) hl e1))).trans rfl))
theorem qr_o54 {c : ByteArray} {N n pc : Nat} (a : Nat) (hN : qr_n c.data.toList = N) (hn : c.size = n) (hl : Nat.ble (pc + 2) n = true) (e0 : N >>> (8 * pc) % 256 = 54) (e1 : N >>> (8 * (pc + 1)) % 256 = a) : decode c pc = .ok (.istore a, 2) := qr_dec ((qr_bind (qr_u1 (qr_a0 hN hn (len := 1) hl e0))).trans ((qr_bind (qr_u1 (qr_a1 hN hn (len := 0) hl e1))).trans rfl))
theorem qr_o58 {c : ByteArray} {N n pc : Nat} (a : Nat) (hN : qr_n c.data.toList = N) (hn : c.size = n) (hl : Nat.ble (pc + 2) n = true) (e0 : N >>> (8 * pc) % 256 = 58) (e1 : N >>> (8 * (pc + 1)) % 256 = a) : decode c pc = .ok (.astore a, 2) := qr_dec ((qr_bind (qr_u1 (qr_a0 hN hn (len := 1) hl e0))).trans ((qr_bind (qr_u1 (qr_a1 hN hn (len := 0) hl e1))).trans rfl))
theorem qr_o19 {c : ByteArray} {N n pc : Nat} (a b : Nat) (hN : qr_n c.data.toList = N) (hn : c.size = n) (hl : Nat.ble (pc + 3) n = true) (e0 : N >>> (8 * pc) % 256 = 19) (e1 : N >>> (8 * (pc + 1)) % 256 = a) (e2 : N >>> (8 * (pc + 2)) % 256 = b) : decode c pc = .ok (.ldc_w (a * 256 + b), 3) := qr_dec ((qr_bind (qr_u1 (qr_a0 hN hn (len := 2) hl e0))).trans ((qr_bind (qr_u2 (qr_a1 hN hn (len := 1) hl e1) (qr_a2 hN hn (len := 0) hl e2))).trans rfl))
theorem qr_o20 {c : ByteArray} {N n pc : Nat} (a b : Nat) (hN : qr_n c.data.toList = N) (hn : c.size = n) (hl : Nat.ble (pc + 3) n = true) (e0 : N >>> (8 * pc) % 256 = 20) (e1 : N >>> (8 * (pc + 1)) % 256 = a) (e2 : N >>> (8 * (pc + 2)) % 256 = b) : decode c pc = .ok (.ldc2_w (a * 256 + b), 3) := qr_dec ((qr_bind (qr_u1 (qr_a0 hN hn (len := 2) hl e0))).trans ((qr_bind (qr_u2 (qr_a1 hN hn (len := 1) hl e1) (qr_a2 hN hn (len := 0) hl e2))).trans rfl))
theorem qr_o178 {c : ByteArray} {N n pc : Nat} (a b : Nat) (hN : qr_n c.data.toList = N) (hn : c.size = n) (hl : Nat.ble (pc + 3) n = true) (e0 : N >>> (8 * pc) % 256 = 178) (e1 : N >>> (8 * (pc + 1)) % 256 = a) (e2 : N >>> (8 * (pc + 2)) % 256 = b) : decode c pc = .ok (.getstatic (a * 256 + b), 3) := qr_dec ((qr_bind (qr_u1 (qr_a0 hN hn (len := 2) hl e0))).trans ((qr_bind (qr_u2 (qr_a1 hN hn (len := 1) hl e1) (qr_a2 hN hn (len := 0) hl e2))).trans rfl))
theorem qr_o180 {c : ByteArray} {N n pc : Nat} (a b : Nat) (hN : qr_n c.data.toList = N) (hn : c.size = n) (hl : Nat.ble (pc + 3) n = true) (e0 : N >>> (8 * pc) % 256 = 180) (e1 : N >>> (8 * (pc + 1)) % 256 = a) (e2 : N >>> (8 * (pc + 2)) % 256 = b) : decode c pc = .ok (.getfield (a * 256 + b), 3) := qr_dec ((qr_bind (qr_u1 (qr_a0 hN hn (len := 2) hl e0))).trans ((qr_bind (qr_u2 (qr_a1 hN hn (len := 1) hl e1) (qr_a2 hN hn (len := 0) hl e2))).trans rfl))
theorem qr_o181 {c : ByteArray} {N n pc : Nat} (a b : Nat) (hN : qr_n c.data.toList = N) (hn : c.size = n) (hl : Nat.ble (pc + 3) n = true) (e0 : N >>> (8 * pc) % 256 = 181) (e1 : N >>> (8 * (pc + 1)) % 256 = a) (e2 : N >>> (8 * (pc + 2)) % 256 = b) : decode c pc = .ok (.putfield (a * 256 + b), 3) := qr_dec ((qr_bind (qr_u1 (qr_a0 hN hn (len := 2) hl e0))).trans ((qr_bind (qr_u2 (qr_a1 hN hn (len := 1) hl e1) (qr_a2 hN hn (len := 0) hl e2))).trans rfl))
theorem qr_o182 {c : ByteArray} {N n pc : Nat} (a b : Nat) (hN : qr_n c.data.toList = N) (hn : c.size = n) (hl : Nat.ble (pc + 3) n = true) (e0 : N >>> (8 * pc) % 256 = 182) (e1 : N >>> (8 * (pc + 1)) % 256 = a) (e2 : N >>> (8 * (pc + 2)) % 256 = b) : decode c pc = .ok (.invokevirtual (a * 256 + b), 3) := qr_dec ((qr_bind (qr_u1 (qr_a0 hN hn (len := 2) hl e0))).trans ((qr_bind (qr_u2 (qr_a1 hN hn (len := 1) hl e1) (qr_a2 hN hn (len := 0) hl e2))).trans rfl))
theorem qr_o183 {c : ByteArray} {N n pc : Nat} (a b : Nat) (hN : qr_n c.data.toList = N) (hn : c.size = n) (hl : Nat.ble (pc + 3) n = true) (e0 : N >>> (8 * pc) % 256 = 183) (e1 : N >>> (8 * (pc + 1)) % 256 = a) (e2 : N >>> (8 * (pc + 2)) % 256 = b) : decode c pc = .ok (.invokespecial (a * 256 + b), 3) := qr_dec ((qr_bind (qr_u1 (qr_a0 hN hn (len := 2) hl e0))).trans ((qr_bind (qr_u2 (qr_a1 hN hn (len := 1) hl e1) (qr_a2 hN hn (len := 0) hl e2))).trans rfl))
theorem qr_o184 {c : ByteArray} {N n pc : Nat} (a b : Nat) (hN : qr_n c.data.toList = N) (hn : c.size = n) (hl : Nat.ble (pc + 3) n = true) (e0 : N >>> (8 * pc) % 256 = 184) (e1 : N >>> (8 * (pc + 1)) % 256 = a) (e2 : N >>> (8 * (pc + 2)) % 256 = b) : decode c pc = .ok (.invokestatic (a * 256 + b), 3) := qr_dec ((qr_bind (qr_u1 (qr_a0 hN hn (len := 2) hl e0))).trans ((qr_bind (qr_u2 (qr_a1 hN hn (len := 1) hl e1) (qr_a2 hN hn (len := 0) hl e2))).trans rfl))
theorem qr_o187 {c : ByteArray} {N n pc : Nat} (a b : Nat) (hN : qr_n c.data.toList = N) (hn : c.size = n) (hl : Nat.ble (pc + 3) n = true) (e0 : N >>> (8 * pc) % 256 = 187) (e1 : N >>> (8 * (pc + 1)) % 256 = a) (e2 : N >>> (8 * (pc + 2)) % 256 = b) : decode c pc = .ok (.new (a * 256 + b), 3) := qr_dec ((qr_bind (qr_u1 (qr_a0 hN hn (len := 2) hl e0))).trans ((qr_bind (qr_u2 (qr_a1 hN hn (len := 1) hl e1) (qr_a2 hN hn (len := 0) hl e2))).trans rfl))
theorem qr_o189 {c : ByteArray} {N n pc : Nat} (a b : Nat) (hN : qr_n c.data.toList = N) (hn : c.size = n) (hl : Nat.ble (pc + 3) n = true) (e0 : N >>> (8 * pc) % 256 = 189) (e1 : N >>> (8 * (pc + 1)) % 256 = a) (e2 : N >>> (8 * (pc + 2)) % 256 = b) : decode c pc = .ok (.anewarray (a * 256 + b), 3) := qr_dec ((qr_bind (qr_u1 (qr_a0 hN hn (len := 2) hl e0))).trans ((qr_bind (qr_u2 (qr_a1 hN hn (len := 1) hl e1) (qr_a2 hN hn (len := 0) hl e2))).trans rfl))
theorem qr_v17 {c : ByteArray} {N n pc : Nat} (a b : Nat) (hN : qr_n c.data.toList = N) (hn : c.size = n) (hl : Nat.ble (pc + 3) n = true) (e0 : N >>> (8 * pc) % 256 = 17) (e1 : N >>> (8 * (pc + 1)) % 256 = a) (e2 : N >>> (8 * (pc + 2)) % 256 = b) : decode c pc = .ok (.sipush (Reader.signed 16 (a * 256 + b)), 3) := qr_dec ((qr_bind (qr_u1 (qr_a0 hN hn (len := 2) hl e0))).trans ((qr_bind (qr_s2 (qr_a1 hN hn (len := 1) hl e1) (qr_a2 hN hn (len := 0) hl e2))).trans rfl))
theorem qr_o17 {c : ByteArray} {N n pc : Nat} (a b : Nat) (h : Nat.ble (a * 256 + b + 1) 32768 = true) (hN : qr_n c.data.toList = N) (hn : c.size = n) (hl : Nat.ble (pc + 3) n = true) (e0 : N >>> (8 * pc) % 256 = 17) (e1 : N >>> (8 * (pc + 1)) % 256 = a) (e2 : N >>> (8 * (pc + 2)) % 256 = b) : decode c pc = .ok (.sipush ((a * 256 + b : Nat) : Int), 3) := (qr_v17 a b hN hn hl e0 e1 e2).trans (by rw [qr_p16 h])
theorem qr_w17 {c : ByteArray} {N n pc : Nat} (a b k : Nat) (h : a * 256 + b + k = 65536) (h2 : Nat.ble k 32768 = true) (hN : qr_n c.data.toList = N) (hn : c.size = n) (hl : Nat.ble (pc + 3) n = true) (e0 : N >>> (8 * pc) % 256 = 17) (e1 : N >>> (8 * (pc + 1)) % 256 = a) (e2 : N >>> (8 * (pc + 2)) % 256 = b) : decode c pc = .ok (.sipush (-(k : Int)), 3) := (qr_v17 a b hN hn hl e0 e1 e2).trans (by rw [qr_m16 h h2])
theorem qr_v153 {c : ByteArray} {N n pc : Nat} (a b : Nat) (hN : qr_n c.data.toList = N) (hn : c.size = n) (hl : Nat.ble (pc + 3) n = true) (e0 : N >>> (8 * pc) % 256 = 153) (e1 : N >>> (8 * (pc + 1)) % 256 = a) (e2 : N >>> (8 * (pc + 2)) % 256 = b) : decode c pc = .ok (.ifCond .eq (Reader.signed 16 (a * 256 + b)), 3) := qr_dec ((qr_bind (qr_u1 (qr_a0 hN hn (len := 2) hl e0))).trans ((qr_bind (qr_s2 (qr_a1 hN hn (len := 1) hl e1) (qr_a2 hN hn (len := 0) hl e2))).trans rfl))
theorem qr_o153 {c : ByteArray} {N n pc : Nat} (a b : Nat) (h : Nat.ble (a * 256 + b + 1) 32768 = true) (hN : qr_n c.data.toList = N) (hn : c.size = n) (hl : Nat.ble (pc + 3) n = true) (e0 : N >>> (8 * pc) % 256 = 153) (e1 : N >>> (8 * (pc + 1)) % 256 = a) (e2 : N >>> (8 * (pc + 2)) % 256 = b) : decode c pc = .ok (.ifCond .eq ((a * 256 + b : Nat) : Int), 3) := (qr_v153 a b hN hn hl e0 e1 e2).trans (by rw [qr_p16 h])
theorem qr_w153 {c : ByteArray} {N n pc : Nat} (a b k : Nat) (h : a * 256 + b + k = 65536) (h2 : Nat.ble k 32768 = true) (hN : qr_n c.data.toList = N) (hn : c.size = n) (hl : Nat.ble (pc + 3) n = true) (e0 : N >>> (8 * pc) % 256 = 153) (e1 : N >>> (8 * (pc + 1)) % 256 = a) (e2 : N >>> (8 * (pc + 2)) % 256 = b) : decode c pc = .ok (.ifCond .eq (-(k : Int)), 3) := (qr_v153 a b hN hn hl e0 e1 e2).trans (by rw [qr_m16 h h2])
theorem qr_v154 {c : ByteArray} {N n pc : Nat} (a b : Nat) (hN : qr_n c.data.toList = N) (hn : c.size = n) (hl : Nat.ble (pc + 3) n = true) (e0 : N >>> (8 * pc) % 256 = 154) (e1 : N >>> (8 * (pc + 1)) % 256 = a) (e2 : N >>> (8 * (pc + 2)) % 256 = b) : decode c pc = .ok (.ifCond .ne (Reader.signed 16 (a * 256 + b)), 3) := qr_dec ((qr_bind (qr_u1 (qr_a0 hN hn (len := 2) hl e0))).trans ((qr_bind (qr_s2 (qr_a1 hN hn (len := 1) hl e1) (qr_a2 hN hn (len := 0) hl e2))).trans rfl))
theorem qr_o154 {c : ByteArray} {N n pc : Nat} (a b : Nat) (h : Nat.ble (a * 256 + b + 1) 32768 = true) (hN : qr_n c.data.toList = N) (hn : c.size = n) (hl : Nat.ble (pc + 3) n = true) (e0 : N >>> (8 * pc) % 256 = 154) (e1 : N >>> (8 * (pc + 1)) % 256 = a) (e2 : N >>> (8 * (pc + 2)) % 256 = b) : decode c pc = .ok (.ifCond .ne ((a * 256 + b : Nat) : Int), 3) := (qr_v154 a b hN hn hl e0 e1 e2).trans (by rw [qr_p16 h])
theorem qr_w154 {c : ByteArray} {N n pc : Nat} (a b k : Nat) (h : a * 256 + b + k = 65536) (h2 : Nat.ble k 32768 = true) (hN : qr_n c.data.toList = N) (hn : c.size = n) (hl : Nat.ble (pc + 3) n = true) (e0 : N >>> (8 * pc) % 256 = 154) (e1 : N >>> (8 * (pc + 1)) % 256 = a) (e2 : N >>> (8 * (pc + 2)) % 256 = b) : decode c pc = .ok (.ifCond .ne (-(k : Int)), 3) := (qr_v154 a b hN hn hl e0 e1 e2).trans (by rw [qr_m16 h h2])
theorem qr_v155 {c : ByteArray} {N n pc : Nat} (a b : Nat) (hN : qr_n c.data.toList = N) (hn : c.size = n) (hl : Nat.ble (pc + 3) n = true) (e0 : N >>> (8 * pc) % 256 = 155) (e1 : N >>> (8 * (pc + 1)) % 256 = a) (e2 : N >>> (8 * (pc + 2)) % 256 = b) : decode c pc = .ok (.ifCond .lt (Reader.signed 16 (a * 256 + b)), 3) := qr_dec ((qr_bind (qr_u1 (qr_a0 hN hn (len := 2) hl e0))).trans ((qr_bind (qr_s2 (qr_a1 hN hn (len := 1) hl e1) (qr_a2 hN hn (len := 0) hl e2))).trans rfl))
theorem qr_o155 {c : ByteArray} {N n pc : Nat} (a b : Nat) (h : Nat.ble (a * 256 + b + 1) 32768 = true) (hN : qr_n c.data.toList = N) (hn : c.size = n) (hl : Nat.ble (pc + 3) n = true) (e0 : N >>> (8 * pc) % 256 = 155) (e1 : N >>> (8 * (pc + 1)) % 256 = a) (e2 : N >>> (8 * (pc + 2)) % 256 = b) : decode c pc = .ok (.ifCond .lt ((a * 256 + b : Nat) : Int), 3) := (qr_v155 a b hN hn hl e0 e1 e2).trans (by rw [qr_p16 h])
theorem qr_w155 {c : ByteArray} {N n pc : Nat} (a b k : Nat) (h : a * 256 + b + k = 65536) (h2 : Nat.ble k 32768 = true) (hN : qr_n c.data.toList = N) (hn : c.size = n) (hl : Nat.ble (pc + 3) n = true) (e0 : N >>> (8 * pc) % 256 = 155) (e1 : N >>> (8 * (pc + 1)) % 256 = a) (e2 : N >>> (8 * (pc + 2)) % 256 = b) : decode c pc = .ok (.ifCond .lt (-(k : Int)), 3) := (qr_v155 a b hN hn hl e0 e1 e2).trans (by rw [qr_m16 h h2])
theorem qr_v156 {c : ByteArray} {N n pc : Nat} (a b : Nat) (hN : qr_n c.data.toList = N) (hn : c.size = n) (hl : Nat.ble (pc + 3) n = true) (e0 : N >>> (8 * pc) % 256 = 156) (e1 : N >>> (8 * (pc + 1)) % 256 = a) (e2 : N >>> (8 * (pc + 2)) % 256 = b) : decode c pc = .ok (.ifCond .ge (Reader.signed 16 (a * 256 + b)), 3) := qr_dec ((qr_bind (qr_u1 (qr_a0 hN hn (len := 2) hl e0))).trans ((qr_bind (qr_s2 (qr_a1 hN hn (len := 1) hl e1) (qr_a2 hN hn (len := 0) hl e2))).trans rfl))
theorem qr_o156 {c : ByteArray} {N n pc : Nat} (a b : Nat) (h : Nat.ble (a * 256 + b + 1) 32768 = true) (hN : qr_n c.data.toList = N) (hn : c.size = n) (hl : Nat.ble (pc + 3) n = true) (e0 : N >>> (8 * pc) % 256 = 156) (e1 : N >>> (8 * (pc + 1)) % 256 = a) (e2 : N >>> (8 * (pc + 2)) % 256 = b) : decode c pc = .ok (.ifCond .ge ((a * 256 + b : Nat) : Int), 3) := (qr_v156 a b hN hn hl e0 e1 e2).trans (by rw [qr_p16 h])
theorem qr_w156 {c : ByteArray} {N n pc : Nat} (a b k : Nat) (h : a * 256 + b + k = 65536) (h2 : Nat.ble k 32768 = true) (hN : qr_n c.data.toList = N) (hn : c.size = n) (hl : Nat.ble (pc + 3) n = true) (e0 : N >>> (8 * pc) % 256 = 156) (e1 : N >>> (8 * (pc + 1)) % 256 = a) (e2 : N >>> (8 * (pc + 2)) % 256 = b) : decode c pc = .ok (.ifCond .ge (-(k : Int)), 3) := (qr_v156 a b hN hn hl e0 e1 e2).trans (by rw [qr_m16 h h2])
theorem qr_v157 {c : ByteArray} {N n pc : Nat} (a b : Nat) (hN : qr_n c.data.toList = N) (hn : c.size = n) (hl : Nat.ble (pc + 3) n = true) (e0 : N >>> (8 * pc) % 256 = 157) (e1 : N >>> (8 * (pc + 1)) % 256 = a) (e2 : N >>> (8 * (pc + 2)) % 256 = b) : decode c pc = .ok (.ifCond .gt (Reader.signed 16 (a * 256 + b)), 3) := qr_dec ((qr_bind (qr_u1 (qr_a0 hN hn (len := 2) hl e0))).trans ((qr_bind (qr_s2 (qr_a1 hN hn (len := 1) hl e1) (qr_a2 hN hn (len := 0) hl e2))).trans rfl))
theorem qr_o157 {c : ByteArray} {N n pc : Nat} (a b : Nat) (h : Nat.ble (a * 256 + b + 1) 32768 = true) (hN : qr_n c.data.toList = N) (hn : c.size = n) (hl : Nat.ble (pc + 3) n = true) (e0 : N >>> (8 * pc) % 256 = 157) (e1 : N >>> (8 * (pc + 1)) % 256 = a) (e2 : N >>> (8 * (pc + 2)) % 256 = b) : decode c pc = .ok (.ifCond .gt ((a * 256 + b : Nat) : Int), 3) := (qr_v157 a b hN hn hl e0 e1 e2).trans (by rw [qr_p16 h])
theorem qr_w157 {c : ByteArray} {N n pc : Nat} (a b k : Nat) (h : a * 256 + b + k = 65536) (h2 : Nat.ble k 32768 = true) (hN : qr_n c.data.toList = N) (hn : c.size = n) (hl : Nat.ble (pc + 3) n = true) (e0 : N >>> (8 * pc) % 256 = 157) (e1 : N >>> (8 * (pc + 1)) % 256 = a) (e2 : N >>> (8 * (pc + 2)) % 256 = b) : decode c pc = .ok (.ifCond .gt (-(k : Int)), 3) := (qr_v157 a b hN hn hl e0 e1 e2).trans (by rw [qr_m16 h h2])
theorem qr_v158 {c : ByteArray} {N n pc : Nat} (a b : Nat) (hN : qr_n c.data.toList = N) (hn : c.size = n) (hl : Nat.ble (pc + 3) n = true) (e0 : N >>> (8 * pc) % 256 = 158) (e1 : N >>> (8 * (pc + 1)) % 256 = a) (e2 : N >>> (8 * (pc + 2)) % 256 = b) : decode c pc = .ok (.ifCond .le (Reader.signed 16 (a * 256 + b)), 3) := qr_dec ((qr_bind (qr_u1 (qr_a0 hN hn (len := 2) hl e0))).trans ((qr_bind (qr_s2 (qr_a1 hN hn (len := 1) hl e1) (qr_a2 hN hn (len := 0) hl e2))).trans rfl))
theorem qr_o158 {c : ByteArray} {N n pc : Nat} (a b : Nat) (h : Nat.ble (a * 256 + b + 1) 32768 = true) (hN : qr_n c.data.toList = N) (hn : c.size = n) (hl : Nat.ble (pc + 3) n = true) (e0 : N >>> (8 * pc) % 256 = 158) (e1 : N >>> (8 * (pc + 1)) % 256 = a) (e2 : N >>> (8 * (pc + 2)) % 256 = b) : decode c pc = .ok (.ifCond .le ((a * 256 + b : Nat) : Int), 3) := (qr_v158 a b hN hn hl e0 e1 e2).trans (by rw [qr_p16 h])
theorem qr_w158 {c : ByteArray} {N n pc : Nat} (a b k : Nat) (h : a * 256 + b + k = 65536) (h2 : Nat.ble k 32768 = true) (hN : qr_n c.data.toList = N) (hn : c.size = n) (hl : Nat.ble (pc + 3) n = true) (e0 : N >>> (8 * pc) % 256 = 158) (e1 : N >>> (8 * (pc + 1)) % 256 = a) (e2 : N >>> (8 * (pc + 2)) % 256 = b) : decode c pc = .ok (.ifCond .le (-(k : Int)), 3) := (qr_v158 a b hN hn hl e0 e1 e2).trans (by rw [qr_m16 h h2])
theorem qr_v159 {c : ByteArray} {N n pc : Nat} (a b : Nat) (hN : qr_n c.data.toList = N) (hn : c.size = n) (hl : Nat.ble (pc + 3) n = true) (e0 : N >>> (8 * pc) % 256 = 159) (e1 : N >>> (8 * (pc + 1)) % 256 = a) (e2 : N >>> (8 * (pc + 2)) % 256 = b) : decode c pc = .ok (.if_icmp .eq (Reader.signed 16 (a * 256 + b)), 3) := qr_dec ((qr_bind (qr_u1 (qr_a0 hN hn (len := 2) hl e0))).trans ((qr_bind (qr_s2 (qr_a1 hN hn (len := 1) hl e1) (qr_a2 hN hn (len := 0) hl e2))).trans rfl))
theorem qr_o159 {c : ByteArray} {N n pc : Nat} (a b : Nat) (h : Nat.ble (a * 256 + b + 1) 32768 = true) (hN : qr_n c.data.toList = N) (hn : c.size = n) (hl : Nat.ble (pc + 3) n = true) (e0 : N >>> (8 * pc) % 256 = 159) (e1 : N >>> (8 * (pc + 1)) % 256 = a) (e2 : N >>> (8 * (pc + 2)) % 256 = b) : decode c pc = .ok (.if_icmp .eq ((a * 256 + b : Nat) : Int), 3) := (qr_v159 a b hN hn hl e0 e1 e2).trans (by rw [qr_p16 h])
theorem qr_w159 {c : ByteArray} {N n pc : Nat} (a b k : Nat) (h : a * 256 + b + k = 65536) (h2 : Nat.ble k 32768 = true) (hN : qr_n c.data.toList = N) (hn : c.size = n) (hl : Nat.ble (pc + 3) n = true) (e0 : N >>> (8 * pc) % 256 = 159) (e1 : N >>> (8 * (pc + 1)) % 256 = a) (e2 : N >>> (8 * (pc + 2)) % 256 = b) : decode c pc = .ok (.if_icmp .eq (-(k : Int)), 3) := (qr_v159 a b hN hn hl e0 e1 e2).trans (by rw [qr_m16 h h2])
theorem qr_v160 {c : ByteArray} {N n pc : Nat} (a b : Nat) (hN : qr_n c.data.toList = N) (hn : c.size = n) (hl : Nat.ble (pc + 3) n = true) (e0 : N >>> (8 * pc) % 256 = 160) (e1 : N >>> (8 * (pc + 1)) % 256 = a) (e2 : N >>> (8 * (pc + 2)) % 256 = b) : decode c pc = .ok (.if_icmp .ne (Reader.signed 16 (a * 256 + b)), 3) := qr_dec ((qr_bind (qr_u1 (qr_a0 hN hn (len := 2) hl e0))).trans ((qr_bind (qr_s2 (qr_a1 hN hn (len := 1) hl e1) (qr_a2 hN hn (len := 0) hl e2))).trans rfl))
theorem qr_o160 {c : ByteArray} {N n pc : Nat} (a b : Nat) (h : Nat.ble (a * 256 + b + 1) 32768 = true) (hN : qr_n c.data.toList = N) (hn : c.size = n) (hl : Nat.ble (pc + 3) n = true) (e0 : N >>> (8 * pc) % 256 = 160) (e1 : N >>> (8 * (pc + 1)) % 256 = a) (e2 : N >>> (8 * (pc + 2)) % 256 = b) : decode c pc = .ok (.if_icmp .ne ((a * 256 + b : Nat) : Int), 3) := (qr_v160 a b hN hn hl e0 e1 e2).trans (by rw [qr_p16 h])
theorem qr_w160 {c : ByteArray} {N n pc : Nat} (a b k : Nat) (h : a * 256 + b + k = 65536) (h2 : Nat.ble k 32768 = true) (hN : qr_n c.data.toList = N) (hn : c.size = n) (hl : Nat.ble (pc + 3) n = true) (e0 : N >>> (8 * pc) % 256 = 160) (e1 : N >>> (8 * (pc + 1)) % 256 = a) (e2 : N >>> (8 * (pc + 2)) % 256 = b) : decode c pc = .ok (.if_icmp .ne (-(k : Int)), 3) := (qr_v160 a b hN hn hl e0 e1 e2).trans (by rw [qr_m16 h h2])
theorem qr_v161 {c : ByteArray} {N n pc : Nat} (a b : Nat) (hN : qr_n c.data.toList = N) (hn : c.size = n) (hl : Nat.ble (pc + 3) n = true) (e0 : N >>> (8 * pc) % 256 = 161) (e1 : N >>> (8 * (pc + 1)) % 256 = a) (e2 : N >>> (8 * (pc + 2)) % 256 = b) : decode c pc = .ok (.if_icmp .lt (Reader.signed 16 (a * 256 + b)), 3) := qr_dec ((qr_bind (qr_u1 (qr_a0 hN hn (len := 2) hl e0))).trans ((qr_bind (qr_s2 (qr_a1 hN hn (len := 1) hl e1) (qr_a2 hN hn (len := 0) hl e2))).trans rfl))
theorem qr_o161 {c : ByteArray} {N n pc : Nat} (a b : Nat) (h : Nat.ble (a * 256 + b + 1) 32768 = true) (hN : qr_n c.data.toList = N) (hn : c.size = n) (hl : Nat.ble (pc + 3) n = true) (e0 : N >>> (8 * pc) % 256 = 161) (e1 : N >>> (8 * (pc + 1)) % 256 = a) (e2 : N >>> (8 * (pc + 2)) % 256 = b) : decode c pc = .ok (.if_icmp .lt ((a * 256 + b : Nat) : Int), 3) := (qr_v161 a b hN hn hl e0 e1 e2).trans (by rw [qr_p16 h])
theorem qr_w161 {c : ByteArray} {N n pc : Nat} (a b k : Nat) (h : a * 256 + b + k = 65536) (h2 : Nat.ble k 32768 = true) (hN : qr_n c.data.toList = N) (hn : c.size = n) (hl : Nat.ble (pc + 3) n = true) (e0 : N >>> (8 * pc) % 256 = 161) (e1 : N >>> (8 * (pc + 1)) % 256 = a) (e2 : N >>> (8 * (pc + 2)) % 256 = b) : decode c pc = .ok (.if_icmp .lt (-(k : Int)), 3) := (qr_v161 a b hN hn hl e0 e1 e2).trans (by rw [qr_m16 h h2])
theorem qr_v162 {c : ByteArray} {N n pc : Nat} (a b : Nat) (hN : qr_n c.data.toList = N) (hn : c.size = n) (hl : Nat.ble (pc + 3) n = true) (e0 : N >>> (8 * pc) % 256 = 162) (e1 : N >>> (8 * (pc + 1)) % 256 = a) (e2 : N >>> (8 * (pc + 2)) % 256 = b) : decode c pc = .ok (.if_icmp .ge (Reader.signed 16 (a * 256 + b)), 3) := qr_dec ((qr_bind (qr_u1 (qr_a0 hN hn (len := 2) hl e0))).trans ((qr_bind (qr_s2 (qr_a1 hN hn (len := 1) hl e1) (qr_a2 hN hn (len := 0) hl e2))).trans rfl))
theorem qr_o162 {c : ByteArray} {N n pc : Nat} (a b : Nat) (h : Nat.ble (a * 256 + b + 1) 32768 = true) (hN : qr_n c.data.toList = N) (hn : c.size = n) (hl : Nat.ble (pc + 3) n = true) (e0 : N >>> (8 * pc) % 256 = 162) (e1 : N >>> (8 * (pc + 1)) % 256 = a) (e2 : N >>> (8 * (pc + 2)) % 256 = b) : decode c pc = .ok (.if_icmp .ge ((a * 256 + b : Nat) : Int), 3) := (qr_v162 a b hN hn hl e0 e1 e2).trans (by rw [qr_p16 h])
theorem qr_w162 {c : ByteArray} {N n pc : Nat} (a b k : Nat) (h : a * 256 + b + k = 65536) (h2 : Nat.ble k 32768 = true) (hN : qr_n c.data.toList = N) (hn : c.size = n) (hl : Nat.ble (pc + 3) n = true) (e0 : N >>> (8 * pc) % 256 = 162) (e1 : N >>> (8 * (pc + 1)) % 256 = a) (e2 : N >>> (8 * (pc + 2)) % 256 = b) : decode c pc = .ok (.if_icmp .ge (-(k : Int)), 3) := (qr_v162 a b hN hn hl e0 e1 e2).trans (by rw [qr_m16 h h2])
theorem qr_v163 {c : ByteArray} {N n pc : Nat} (a b : Nat) (hN : qr_n c.data.toList = N) (hn : c.size = n) (hl : Nat.ble (pc + 3) n = true) (e0 : N >>> (8 * pc) % 256 = 163) (e1 : N >>> (8 * (pc + 1)) % 256 = a) (e2 : N >>> (8 * (pc + 2)) % 256 = b) : decode c pc = .ok (.if_icmp .gt (Reader.signed 16 (a * 256 + b)), 3) := qr_dec ((qr_bind (qr_u1 (qr_a0 hN hn (len := 2) hl e0))).trans ((qr_bind (qr_s2 (qr_a1 hN hn (len := 1) hl e1) (qr_a2 hN hn (len := 0) hl e2))).trans rfl))
theorem qr_o163 {c : ByteArray} {N n pc : Nat} (a b : Nat) (h : Nat.ble (a * 256 + b + 1) 32768 = true) (hN : qr_n c.data.toList = N) (hn : c.size = n) (hl : Nat.ble (pc + 3) n = true) (e0 : N >>> (8 * pc) % 256 = 163) (e1 : N >>> (8 * (pc + 1)) % 256 = a) (e2 : N >>> (8 * (pc + 2)) % 256 = b) : decode c pc = .ok (.if_icmp .gt ((a * 256 + b : Nat) : Int), 3) := (qr_v163 a b hN hn hl e0 e1 e2).trans (by rw [qr_p16 h])
theorem qr_w163 {c : ByteArray} {N n pc : Nat} (a b k : Nat) (h : a * 256 + b + k = 65536) (h2 : Nat.ble k 32768 = true) (hN : qr_n c.data.toList = N) (hn : c.size = n) (hl : Nat.ble (pc + 3) n = true) (e0 : N >>> (8 * pc) % 256 = 163) (e1 : N >>> (8 * (pc + 1)) % 256 = a) (e2 : N >>> (8 * (pc + 2)) % 256 = b) : decode c pc = .ok (.if_icmp .gt (-(k : Int)), 3) := (qr_v163 a b hN hn hl e0 e1 e2).trans (by rw [qr_m16 h h2])
theorem qr_v164 {c : ByteArray} {N n pc : Nat} (a b : Nat) (hN : qr_n c.data.toList = N) (hn : c.size = n) (hl : Nat.ble (pc + 3) n = true) (e0 : N >>> (8 * pc) % 256 = 164) (e1 : N >>> (8 * (pc + 1)) % 256 = a) (e2 : N >>> (8 * (pc + 2)) % 256 = b) : decode c pc = .ok (.if_icmp .le (Reader.signed 16 (a * 256 + b)), 3) := qr_dec ((qr_bind (qr_u1 (qr_a0 hN hn (len := 2) hl e0))).trans ((qr_bind (qr_s2 (qr_a1 hN hn (len := 1) hl e1) (qr_a2 hN hn (len := 0) hl e2))).trans rfl))
theorem qr_o164 {c : ByteArray} {N n pc : Nat} (a b : Nat) (h : Nat.ble (a * 256 + b + 1) 32768 = true) (hN : qr_n c.data.toList = N) (hn : c.size = n) (hl : Nat.ble (pc + 3) n = true) (e0 : N >>> (8 * pc) % 256 = 164) (e1 : N >>> (8 * (pc + 1)) % 256 = a) (e2 : N >>> (8 * (pc + 2)) % 256 = b) : decode c pc = .ok (.if_icmp .le ((a * 256 + b : Nat) : Int), 3) := (qr_v164 a b hN hn hl e0 e1 e2).trans (by rw [qr_p16 h])
theorem qr_w164 {c : ByteArray} {N n pc : Nat} (a b k : Nat) (h : a * 256 + b + k = 65536) (h2 : Nat.ble k 32768 = true) (hN : qr_n c.data.toList = N) (hn : c.size = n) (hl : Nat.ble (pc + 3) n = true) (e0 : N >>> (8 * pc) % 256 = 164) (e1 : N >>> (8 * (pc + 1)) % 256 = a) (e2 : N >>> (8 * (pc + 2)) % 256 = b) : decode c pc = .ok (.if_icmp .le (-(k : Int)), 3) := (qr_v164 a b hN hn hl e0 e1 e2).trans (by rw [qr_m16 h h2])
theorem qr_v165 {c : ByteArray} {N n pc : Nat} (a b : Nat) (hN : qr_n c.data.toList = N) (hn : c.size = n) (hl : Nat.ble (pc + 3) n = true) (e0 : N >>> (8 * pc) % 256 = 165) (e1 : N >>> (8 * (pc + 1)) % 256 = a) (e2 : N >>> (8 * (pc + 2)) % 256 = b) : decode c pc = .ok (.if_acmp .eq (Reader.signed 16 (a * 256 + b)), 3) := qr_dec ((qr_bind (qr_u1 (qr_a0 hN hn (len := 2) hl e0))).trans ((qr_bind (qr_s2 (qr_a1 hN hn (len := 1) hl e1) (qr_a2 hN hn (len := 0) hl e2))).trans rfl))
theorem qr_o165 {c : ByteArray} {N n pc : Nat} (a b : Nat) (h : Nat.ble (a * 256 + b + 1) 32768 = true) (hN : qr_n c.data.toList = N) (hn : c.size = n) (hl : Nat.ble (pc + 3) n = true) (e0 : N >>> (8 * pc) % 256 = 165) (e1 : N >>> (8 * (pc + 1)) % 256 = a) (e2 : N >>> (8 * (pc + 2)) % 256 = b) : decode c pc = .ok (.if_acmp .eq ((a * 256 + b : Nat) : Int), 3) := (qr_v165 a b hN hn hl e0 e1 e2).trans (by rw [qr_p16 h])
theorem qr_w165 {c : ByteArray} {N n pc : Nat} (a b k : Nat) (h : a * 256 + b + k = 65536) (h2 : Nat.ble k 32768 = true) (hN : qr_n c.data.toList = N) (hn : c.size = n) (hl : Nat.ble (pc + 3) n = true) (e0 : N >>> (8 * pc) % 256 = 165) (e1 : N >>> (8 * (pc + 1)) % 256 = a) (e2 : N >>> (8 * (pc + 2)) % 256 = b) : decode c pc = .ok (.if_acmp .eq (-(k : Int)), 3) := (qr_v165 a b hN hn hl e0 e1 e2).trans (by rw [qr_m16 h h2])
theorem qr_v166 {c : ByteArray} {N n pc : Nat} (a b : Nat) (hN : qr_n c.data.toList = N) (hn : c.size = n) (hl : Nat.ble (pc + 3) n = true) (e0 : N >>> (8 * pc) % 256 = 166) (e1 : N >>> (8 * (pc + 1)) % 256 = a) (e2 : N >>> (8 * (pc + 2)) % 256 = b) : decode c pc = .ok (.if_acmp .ne (Reader.signed 16 (a * 256 + b)), 3) := qr_dec ((qr_bind (qr_u1 (qr_a0 hN hn (len := 2) hl e0))).trans ((qr_bind (qr_s2 (qr_a1 hN hn (len := 1) hl e1) (qr_a2 hN hn (len := 0) hl e2))).trans rfl))
theorem qr_o166 {c : ByteArray} {N n pc : Nat} (a b : Nat) (h : Nat.ble (a * 256 + b + 1) 32768 = true) (hN : qr_n c.data.toList = N) (hn : c.size = n) (hl : Nat.ble (pc + 3) n = true) (e0 : N >>> (8 * pc) % 256 = 166) (e1 : N >>> (8 * (pc + 1)) % 256 = a) (e2 : N >>> (8 * (pc + 2)) % 256 = b) : decode c pc = .ok (.if_acmp .ne ((a * 256 + b : Nat) : Int), 3) := (qr_v166 a b hN hn hl e0 e1 e2).trans (by rw [qr_p16 h])
theorem qr_w166 {c : ByteArray} {N n pc : Nat} (a b k : Nat) (h : a * 256 + b + k = 65536) (h2 : Nat.ble k 32768 = true) (hN : qr_n c.data.toList = N) (hn : c.size = n) (hl : Nat.ble (pc + 3) n = true) (e0 : N >>> (8 * pc) % 256 = 166) (e1 : N >>> (8 * (pc + 1)) % 256 = a) (e2 : N >>> (8 * (pc + 2)) % 256 = b) : decode c pc = .ok (.if_acmp .ne (-(k : Int)), 3) := (qr_v166 a b hN hn hl e0 e1 e2).trans (by rw [qr_m16 h h2])
theorem qr_v167 {c : ByteArray} {N n pc : Nat} (a b : Nat) (hN : qr_n c.data.toList = N) (hn : c.size = n) (hl : Nat.ble (pc + 3) n = true) (e0 : N >>> (8 * pc) % 256 = 167) (e1 : N >>> (8 * (pc + 1)) % 256 = a) (e2 : N >>> (8 * (pc + 2)) % 256 = b) : decode c pc = .ok (.goto (Reader.signed 16 (a * 256 + b)), 3) := qr_dec ((qr_bind (qr_u1 (qr_a0 hN hn (len := 2) hl e0))).trans ((qr_bind (qr_s2 (qr_a1 hN hn (len := 1) hl e1) (qr_a2 hN hn (len := 0) hl e2))).trans rfl))
theorem qr_o167 {c : ByteArray} {N n pc : Nat} (a b : Nat) (h : Nat.ble (a * 256 + b + 1) 32768 = true) (hN : qr_n c.data.toList = N) (hn : c.size = n) (hl : Nat.ble (pc + 3) n = true) (e0 : N >>> (8 * pc) % 256 = 167) (e1 : N >>> (8 * (pc + 1)) % 256 = a) (e2 : N >>> (8 * (pc + 2)) % 256 = b) : decode c pc = .ok (.goto ((a * 256 + b : Nat) : Int), 3) := (qr_v167 a b hN hn hl e0 e1 e2).trans (by rw [qr_p16 h])
theorem qr_w167 {c : ByteArray} {N n pc : Nat} (a b k : Nat) (h : a * 256 + b + k = 65536) (h2 : Nat.ble k 32768 = true) (hN : qr_n c.data.toList = N) (hn : c.size = n) (hl : Nat.ble (pc + 3) n = true) (e0 : N >>> (8 * pc) % 256 = 167) (e1 : N >>> (8 * (pc + 1)) % 256 = a) (e2 : N >>> (8 * (pc + 2)) % 256 = b) : decode c pc = .ok (.goto (-(k : Int)), 3) := (qr_v167 a b hN hn hl e0 e1 e2).trans (by rw [qr_m16 h h2])
theorem qr_v198 {c : ByteArray} {N n pc : Nat} (a b : Nat) (hN : qr_n c.data.toList = N) (hn : c.size = n) (hl : Nat.ble (pc + 3) n = true) (e0 : N >>> (8 * pc) % 256 = 198) (e1 : N >>> (8 * (pc + 1)) % 256 = a) (e2 : N >>> (8 * (pc + 2)) % 256 = b) : decode c pc = .ok (.ifnull (Reader.signed 16 (a * 256 + b)), 3) := qr_dec ((qr_bind (qr_u1 (qr_a0 hN hn (len := 2) hl e0))).trans ((qr_bind (qr_s2 (qr_a1 hN hn (len := 1) hl e1) (qr_a2 hN hn (len := 0) hl e2))).trans rfl))
theorem qr_o198 {c : ByteArray} {N n pc : Nat} (a b : Nat) (h : Nat.ble (a * 256 + b + 1) 32768 = true) (hN : qr_n c.data.toList = N) (hn : c.size = n) (hl : Nat.ble (pc + 3) n = true) (e0 : N >>> (8 * pc) % 256 = 198) (e1 : N >>> (8 * (pc + 1)) % 256 = a) (e2 : N >>> (8 * (pc + 2)) % 256 = b) : decode c pc = .ok (.ifnull ((a * 256 + b : Nat) : Int), 3) := (qr_v198 a b hN hn hl e0 e1 e2).trans (by rw [qr_p16 h])
theorem qr_w198 {c : ByteArray} {N n pc : Nat} (a b k : Nat) (h : a * 256 + b + k = 65536) (h2 : Nat.ble k 32768 = true) (hN : qr_n c.data.toList = N) (hn : c.size = n) (hl : Nat.ble (pc + 3) n = true) (e0 : N >>> (8 * pc) % 256 = 198) (e1 : N >>> (8 * (pc + 1)) % 256 = a) (e2 : N >>> (8 * (pc + 2)) % 256 = b) : decode c pc = .ok (.ifnull (-(k : Int)), 3) := (qr_v198 a b hN hn hl e0 e1 e2).trans (by rw [qr_m16 h h2])
theorem qr_v199 {c : ByteArray} {N n pc : Nat} (a b : Nat) (hN : qr_n c.data.toList = N) (hn : c.size = n) (hl : Nat.ble (pc + 3) n = true) (e0 : N >>> (8 * pc) % 256 = 199) (e1 : N >>> (8 * (pc + 1)) % 256 = a) (e2 : N >>> (8 * (pc + 2)) % 256 = b) : decode c pc = .ok (.ifnonnull (Reader.signed 16 (a * 256 + b)), 3) := qr_dec ((qr_bind (qr_u1 (qr_a0 hN hn (len := 2) hl e0))).trans ((qr_bind (qr_s2 (qr_a1 hN hn (len := 1) hl e1) (qr_a2 hN hn (len := 0) hl e2))).trans rfl))
theorem qr_o199 {c : ByteArray} {N n pc : Nat} (a b : Nat) (h : Nat.ble (a * 256 + b + 1) 32768 = true) (hN : qr_n c.data.toList = N) (hn : c.size = n) (hl : Nat.ble (pc + 3) n = true) (e0 : N >>> (8 * pc) % 256 = 199) (e1 : N >>> (8 * (pc + 1)) % 256 = a) (e2 : N >>> (8 * (pc + 2)) % 256 = b) : decode c pc = .ok (.ifnonnull ((a * 256 + b : Nat) : Int), 3) := (qr_v199 a b hN hn hl e0 e1 e2).trans (by rw [qr_p16 h])
theorem qr_w199 {c : ByteArray} {N n pc : Nat} (a b k : Nat) (h : a * 256 + b + k = 65536) (h2 : Nat.ble k 32768 = true) (hN : qr_n c.data.toList = N) (hn : c.size = n) (hl : Nat.ble (pc + 3) n = true) (e0 : N >>> (8 * pc) % 256 = 199) (e1 : N >>> (8 * (pc + 1)) % 256 = a) (e2 : N >>> (8 * (pc + 2)) % 256 = b) : decode c pc = .ok (.ifnonnull (-(k : Int)), 3) := (qr_v199 a b hN hn hl e0 e1 e2).trans (by rw [qr_m16 h h2])
theorem qr_v16 {c : ByteArray} {N n pc : Nat} (a : Nat) (hN : qr_n c.data.toList = N) (hn : c.size = n) (hl : Nat.ble (pc + 2) n = true) (e0 : N >>> (8 * pc) % 256 = 16) (e1 : N >>> (8 * (pc + 1)) % 256 = a) : decode c pc = .ok (.bipush (Reader.signed 8 a), 2) := qr_dec ((qr_bind (qr_u1 (qr_a0 hN hn (len := 1) hl e0))).trans ((qr_bind (qr_s1 (qr_a1 hN hn (len := 0) hl e1))).trans rfl))
theorem qr_o16 {c : ByteArray} {N n pc : Nat} (a : Nat) (h : Nat.ble (a + 1) 128 = true) (hN : qr_n c.data.toList = N) (hn : c.size = n) (hl : Nat.ble (pc + 2) n = true) (e0 : N >>> (8 * pc) % 256 = 16) (e1 : N >>> (8 * (pc + 1)) % 256 = a) : decode c pc = .ok (.bipush (a : Int), 2) := (qr_v16 a hN hn hl e0 e1).trans (by rw [qr_p8 h])
theorem qr_w16 {c : ByteArray} {N n pc : Nat} (a k : Nat) (h : a + k = 256) (h2 : Nat.ble k 128 = true) (hN : qr_n c.data.toList = N) (hn : c.size = n) (hl : Nat.ble (pc + 2) n = true) (e0 : N >>> (8 * pc) % 256 = 16) (e1 : N >>> (8 * (pc + 1)) % 256 = a) : decode c pc = .ok (.bipush (-(k : Int)), 2) := (qr_v16 a hN hn hl e0 e1).trans (by rw [qr_m8 h h2])
theorem qr_v132 {c : ByteArray} {N n pc : Nat} (a b : Nat) (hN : qr_n c.data.toList = N) (hn : c.size = n) (hl : Nat.ble (pc + 3) n = true) (e0 : N >>> (8 * pc) % 256 = 132) (e1 : N >>> (8 * (pc + 1)) % 256 = a) (e2 : N >>> (8 * (pc + 2)) % 256 = b) : decode c pc = .ok (.iinc a (Reader.signed 8 b), 3) := qr_dec ((qr_bind (qr_u1 (qr_a0 hN hn (len := 2) hl e0))).trans ((qr_bind (qr_u1 (qr_a1 hN hn (len := 1) hl e1))).trans ((qr_bind (qr_s1 (qr_a2 hN hn (len := 0) hl e2))).trans rfl)))
theorem qr_o132 {c : ByteArray} {N n pc : Nat} (a b : Nat) (h : Nat.ble (b + 1) 128 = true) (hN : qr_n c.data.toList = N) (hn : c.size = n) (hl : Nat.ble (pc + 3) n = true) (e0 : N >>> (8 * pc) % 256 = 132) (e1 : N >>> (8 * (pc + 1)) % 256 = a) (e2 : N >>> (8 * (pc + 2)) % 256 = b) : decode c pc = .ok (.iinc a (b : Int), 3) := (qr_v132 a b hN hn hl e0 e1 e2).trans (by rw [qr_p8 h])
theorem qr_w132 {c : ByteArray} {N n pc : Nat} (a b k : Nat) (h : b + k = 256) (h2 : Nat.ble k 128 = true) (hN : qr_n c.data.toList = N) (hn : c.size = n) (hl : Nat.ble (pc + 3) n = true) (e0 : N >>> (8 * pc) % 256 = 132) (e1 : N >>> (8 * (pc + 1)) % 256 = a) (e2 : N >>> (8 * (pc + 2)) % 256 = b) : decode c pc = .ok (.iinc a (-(k : Int)), 3) := (qr_v132 a b hN hn hl e0 e1 e2).trans (by rw [qr_m8 h h2])
theorem qr_na4 {c : ByteArray} {N n pc : Nat} (hN : qr_n c.data.toList = N) (hn : c.size = n) (hl : Nat.ble (pc + 2) n = true) (e0 : N >>> (8 * pc) % 256 = 188) (e1 : N >>> (8 * (pc + 1)) % 256 = 4) : decode c pc = .ok (.newarray .boolean, 2) := qr_dec ((qr_bind (qr_u1 (qr_a0 hN hn (len := 1) hl e0))).trans ((qr_bind (qr_u1 (qr_a1 hN hn (len := 0) hl e1))).trans rfl))
theorem qr_na5 {c : ByteArray} {N n pc : Nat} (hN : qr_n c.data.toList = N) (hn : c.size = n) (hl : Nat.ble (pc + 2) n = true) (e0 : N >>> (8 * pc) % 256 = 188) (e1 : N >>> (8 * (pc + 1)) % 256 = 5) : decode c pc = .ok (.newarray .char, 2) := qr_dec ((qr_bind (qr_u1 (qr_a0 hN hn (len := 1) hl e0))).trans ((qr_bind (qr_u1 (qr_a1 hN hn (len := 0) hl e1))).trans rfl))
theorem qr_na8 {c : ByteArray} {N n pc : Nat} (hN : qr_n c.data.toList = N) (hn : c.size = n) (hl : Nat.ble (pc + 2) n = true) (e0 : N >>> (8 * pc) % 256 = 188) (e1 : N >>> (8 * (pc + 1)) % 256 = 8) : decode c pc = .ok (.newarray .byte, 2) := qr_dec ((qr_bind (qr_u1 (qr_a0 hN hn (len := 1) hl e0))).trans ((qr_bind (qr_u1 (qr_a1 hN hn (len := 0) hl e1))).trans rfl))
theorem qr_na10 {c : ByteArray} {N n pc : Nat} (hN : qr_n c.data.toList = N) (hn : c.size = n) (hl : Nat.ble (pc + 2) n = true) (e0 : N >>> (8 * pc) % 256 = 188) (e1 : N >>> (8 * (pc + 1)) % 256 = 10) : decode c pc = .ok (.newarray .int, 2) := qr_dec ((qr_bind (qr_u1 (qr_a0 hN hn (len := 1) hl e0))).trans ((qr_bind (qr_u1 (qr_a1 hN hn (len := 0) hl e1))).trans rfl))
theorem qr_na11 {c : ByteArray} {N n pc : Nat} (hN : qr_n c.data.toList = N) (hn : c.size = n) (hl : Nat.ble (pc + 2) n = true) (e0 : N >>> (8 * pc) % 256 = 188) (e1 : N >>> (8 * (pc + 1)) % 256 = 11) : decode c pc = .ok (.newarray .long, 2) := qr_dec ((qr_bind (qr_u1 (qr_a0 hN hn (len := 1) hl e0))).trans ((qr_bind (qr_u1 (qr_a1 hN hn (len := 0) hl e1))).trans rfl))
end
section
def nN_cX0_init : Nat := 0xb12400b507152a2100b506152a1e00b505152a1b00b504152a1800b51d2a1500b51c2a1200b51b2a0f00b5032a0900b5fc102a0300b72a
theorem hN_cX0_init : qr_n cX0_init.data.toList = nN_cX0_init := by decide +kernel
theorem hn_cX0_init : cX0_init.size = 55 := by decide +kernel
theorem dX0_init_0 : decode cX0_init 0 = .ok (.aload_n 0, 1) := qr_o42 hN_cX0_init hn_cX0_init rfl rfl
theorem dX0_init_1 : decode cX0_init 1 = .ok (.invokespecial 3, 3) := qr_o183 0 3 hN_cX0_init hn_cX0_init rfl rfl rfl rfl
theorem dX0_init_4 : decode cX0_init 4 = .ok (.aload_n 0, 1) := qr_o42 hN_cX0_init hn_cX0_init rfl rfl
theorem dX0_init_5 : decode cX0_init 5 = .ok (.bipush (-4), 2) := qr_w16 252 4 rfl rfl hN_cX0_init hn_cX0_init rfl rfl rfl
theorem dX0_init_7 : decode cX0_init 7 = .ok (.putfield 9, 3) := qr_o181 0 9 hN_cX0_init hn_cX0_init rfl rfl rfl rfl
theorem dX0_init_10 : decode cX0_init 10 = .ok (.aload_n 0, 1) := qr_o42 hN_cX0_init hn_cX0_init rfl rfl
theorem dX0_init_11 : decode cX0_init 11 = .ok (.iconst 0, 1) := qr_o3 hN_cX0_init hn_cX0_init rfl rfl
theorem dX0_init_12 : decode cX0_init 12 = .ok (.putfield 15, 3) := qr_o181 0 15 hN_cX0_init hn_cX0_init rfl rfl rfl rfl
theorem dX0_init_15 : decode cX0_init 15 = .ok (.aload_n 0, 1) := qr_o42 hN_cX0_init hn_cX0_init rfl rfl
theorem dX0_init_16 : decode cX0_init 16 = .ok (.iload_n 1, 1) := qr_o27 hN_cX0_init hn_cX0_init rfl rfl
theorem dX0_init_17 : decode cX0_init 17 = .ok (.putfield 18, 3) := qr_o181 0 18 hN_cX0_init hn_cX0_init rfl rfl rfl rfl
theorem dX0_init_20 : decode cX0_init 20 = .ok (.aload_n 0, 1) := qr_o42 hN_cX0_init hn_cX0_init rfl rfl
theorem dX0_init_21 : decode cX0_init 21 = .ok (.iload_n 2, 1) := qr_o28 hN_cX0_init hn_cX0_init rfl rfl
theorem dX0_init_22 : decode cX0_init 22 = .ok (.putfield 21, 3) := qr_o181 0 21 hN_cX0_init hn_cX0_init rfl rfl rfl rfl
theorem dX0_init_25 : decode cX0_init 25 = .ok (.aload_n 0, 1) := qr_o42 hN_cX0_init hn_cX0_init rfl rfl
theorem dX0_init_26 : decode cX0_init 26 = .ok (.iload_n 3, 1) := qr_o29 hN_cX0_init hn_cX0_init rfl rfl
theorem dX0_init_27 : decode cX0_init 27 = .ok (.putfield 24, 3) := qr_o181 0 24 hN_cX0_init hn_cX0_init rfl rfl rfl rfl
theorem dX0_init_30 : decode cX0_init 30 = .ok (.aload_n 0, 1) := qr_o42 hN_cX0_init hn_cX0_init rfl rfl
theorem dX0_init_31 : decode cX0_init 31 = .ok (.iload 4, 2) := qr_o21 4 hN_cX0_init hn_cX0_init rfl rfl rfl
theorem dX0_init_33 : decode cX0_init 33 = .ok (.putfield 27, 3) := qr_o181 0 27 hN_cX0_init hn_cX0_init rfl rfl rfl rfl
theorem dX0_init_36 : decode cX0_init 36 = .ok (.aload_n 0, 1) := qr_o42 hN_cX0_init hn_cX0_init rfl rfl
theorem dX0_init_37 : decode cX0_init 37 = .ok (.iload 5, 2) := qr_o21 5 hN_cX0_init hn_cX0_init rfl rfl rfl
theorem dX0_init_39 : decode cX0_init 39 = .ok (.putfield 30, 3) := qr_o181 0 30 hN_cX0_init hn_cX0_init rfl rfl rfl rfl
theorem dX0_init_42 : decode cX0_init 42 = .ok (.aload_n 0, 1) := qr_o42 hN_cX0_init hn_cX0_init rfl rfl
theorem dX0_init_43 : decode cX0_init 43 = .ok (.iload 6, 2) := qr_o21 6 hN_cX0_init hn_cX0_init rfl rfl rfl
theorem dX0_init_45 : decode cX0_init 45 = .ok (.putfield 33, 3) := qr_o181 0 33 hN_cX0_init hn_cX0_init rfl rfl rfl rfl
theorem dX0_init_48 : decode cX0_init 48 = .ok (.aload_n 0, 1) := qr_o42 hN_cX0_init hn_cX0_init rfl rfl
theorem dX0_init_49 : decode cX0_init 49 = .ok (.iload 7, 2) := qr_o21 7 hN_cX0_init hn_cX0_init rfl rfl rfl
theorem dX0_init_51 : decode cX0_init 51 = .ok (.putfield 36, 3) := qr_o181 0 36 hN_cX0_init hn_cX0_init rfl rfl rfl rfl
theorem dX0_init_54 : decode cX0_init 54 = .ok (.return_, 1) := qr_o177 hN_cX0_init hn_cX0_init rfl rfl
def nN_cX0_isCalledOff : Nat := 0xac030400a70407009ffc100900b42a
theorem hN_cX0_isCalledOff : qr_n cX0_isCalledOff.data.toList = nN_cX0_isCalledOff := by decide +kernel
theorem hn_cX0_isCalledOff : cX0_isCalledOff.size = 15 := by decide +kernel
theorem dX0_isCalledOff_0 : decode cX0_isCalledOff 0 = .ok (.aload_n 0, 1) := qr_o42 hN_cX0_isCalledOff hn_cX0_isCalledOff rfl rfl
theorem dX0_isCalledOff_1 : decode cX0_isCalledOff 1 = .ok (.getfield 9, 3) := qr_o180 0 9 hN_cX0_isCalledOff hn_cX0_isCalledOff rfl rfl rfl rfl
theorem dX0_isCalledOff_4 : decode cX0_isCalledOff 4 = .ok (.bipush (-4), 2) := qr_w16 252 4 rfl rfl hN_cX0_isCalledOff hn_cX0_isCalledOff rfl rfl rfl
theorem dX0_isCalledOff_6 : decode cX0_isCalledOff 6 = .ok (.if_icmp .eq 7, 3) := qr_o159 0 7 rfl hN_cX0_isCalledOff hn_cX0_isCalledOff rfl rfl rfl rfl
theorem dX0_isCalledOff_9 : decode cX0_isCalledOff 9 = .ok (.iconst 1, 1) := qr_o4 hN_cX0_isCalledOff hn_cX0_isCalledOff rfl rfl
theorem dX0_isCalledOff_10 : decode cX0_isCalledOff 10 = .ok (.goto 4, 3) := qr_o167 0 4 rfl hN_cX0_isCalledOff hn_cX0_isCalledOff rfl rfl rfl rfl
theorem dX0_isCalledOff_13 : decode cX0_isCalledOff 13 = .ok (.iconst 0, 1) := qr_o3 hN_cX0_isCalledOff hn_cX0_isCalledOff rfl rfl
theorem dX0_isCalledOff_14 : decode cX0_isCalledOff 14 = .ok (.ireturn, 1) := qr_o172 hN_cX0_isCalledOff hn_cX0_isCalledOff rfl rfl
def nN_cX0_wentOut : Nat := 0xac030400a7040700990f00b42a
theorem hN_cX0_wentOut : qr_n cX0_wentOut.data.toList = nN_cX0_wentOut := by decide +kernel
theorem hn_cX0_wentOut : cX0_wentOut.size = 13 := by decide +kernel
theorem dX0_wentOut_0 : decode cX0_wentOut 0 = .ok (.aload_n 0, 1) := qr_o42 hN_cX0_wentOut hn_cX0_wentOut rfl rfl
theorem dX0_wentOut_1 : decode cX0_wentOut 1 = .ok (.getfield 15, 3) := qr_o180 0 15 hN_cX0_wentOut hn_cX0_wentOut rfl rfl rfl rfl
theorem dX0_wentOut_4 : decode cX0_wentOut 4 = .ok (.ifCond .eq 7, 3) := qr_o153 0 7 rfl hN_cX0_wentOut hn_cX0_wentOut rfl rfl rfl rfl
theorem dX0_wentOut_7 : decode cX0_wentOut 7 = .ok (.iconst 1, 1) := qr_o4 hN_cX0_wentOut hn_cX0_wentOut rfl rfl
theorem dX0_wentOut_8 : decode cX0_wentOut 8 = .ok (.goto 4, 3) := qr_o167 0 4 rfl hN_cX0_wentOut hn_cX0_wentOut rfl rfl rfl rfl
theorem dX0_wentOut_11 : decode cX0_wentOut 11 = .ok (.iconst 0, 1) := qr_o3 hN_cX0_wentOut hn_cX0_wentOut rfl rfl
theorem dX0_wentOut_12 : decode cX0_wentOut 12 = .ok (.ireturn, 1) := qr_o172 hN_cX0_wentOut hn_cX0_wentOut rfl rfl
def nN_cX0_waits : Nat := 0xac030400a70407009a2b00b62a0e00c72700b42a
theorem hN_cX0_waits : qr_n cX0_waits.data.toList = nN_cX0_waits := by decide +kernel
theorem hn_cX0_waits : cX0_waits.size = 20 := by decide +kernel
theorem dX0_waits_0 : decode cX0_waits 0 = .ok (.aload_n 0, 1) := qr_o42 hN_cX0_waits hn_cX0_waits rfl rfl
theorem dX0_waits_1 : decode cX0_waits 1 = .ok (.getfield 39, 3) := qr_o180 0 39 hN_cX0_waits hn_cX0_waits rfl rfl rfl rfl
theorem dX0_waits_4 : decode cX0_waits 4 = .ok (.ifnonnull 14, 3) := qr_o199 0 14 rfl hN_cX0_waits hn_cX0_waits rfl rfl rfl rfl
theorem dX0_waits_7 : decode cX0_waits 7 = .ok (.aload_n 0, 1) := qr_o42 hN_cX0_waits hn_cX0_waits rfl rfl
theorem dX0_waits_8 : decode cX0_waits 8 = .ok (.invokevirtual 43, 3) := qr_o182 0 43 hN_cX0_waits hn_cX0_waits rfl rfl rfl rfl
theorem dX0_waits_11 : decode cX0_waits 11 = .ok (.ifCond .ne 7, 3) := qr_o154 0 7 rfl hN_cX0_waits hn_cX0_waits rfl rfl rfl rfl
theorem dX0_waits_14 : decode cX0_waits 14 = .ok (.iconst 1, 1) := qr_o4 hN_cX0_waits hn_cX0_waits rfl rfl
theorem dX0_waits_15 : decode cX0_waits 15 = .ok (.goto 4, 3) := qr_o167 0 4 rfl hN_cX0_waits hn_cX0_waits rfl rfl rfl rfl
theorem dX0_waits_18 : decode cX0_waits 18 = .ok (.iconst 0, 1) := qr_o3 hN_cX0_waits hn_cX0_waits rfl rfl
theorem dX0_waits_19 : decode cX0_waits 19 = .ok (.ireturn, 1) := qr_o172 hN_cX0_waits hn_cX0_waits rfl rfl
def nN_cX0_pieceNumber : Nat := 0xac2f00b42700b42a0a00a7fc100800c72700b42a
theorem hN_cX0_pieceNumber : qr_n cX0_pieceNumber.data.toList = nN_cX0_pieceNumber := by decide +kernel
theorem hn_cX0_pieceNumber : cX0_pieceNumber.size = 20 := by decide +kernel
theorem dX0_pieceNumber_0 : decode cX0_pieceNumber 0 = .ok (.aload_n 0, 1) := qr_o42 hN_cX0_pieceNumber hn_cX0_pieceNumber rfl rfl
theorem dX0_pieceNumber_1 : decode cX0_pieceNumber 1 = .ok (.getfield 39, 3) := qr_o180 0 39 hN_cX0_pieceNumber hn_cX0_pieceNumber rfl rfl rfl rfl
theorem dX0_pieceNumber_4 : decode cX0_pieceNumber 4 = .ok (.ifnonnull 8, 3) := qr_o199 0 8 rfl hN_cX0_pieceNumber hn_cX0_pieceNumber rfl rfl rfl rfl
theorem dX0_pieceNumber_7 : decode cX0_pieceNumber 7 = .ok (.bipush (-4), 2) := qr_w16 252 4 rfl rfl hN_cX0_pieceNumber hn_cX0_pieceNumber rfl rfl rfl
theorem dX0_pieceNumber_9 : decode cX0_pieceNumber 9 = .ok (.goto 10, 3) := qr_o167 0 10 rfl hN_cX0_pieceNumber hn_cX0_pieceNumber rfl rfl rfl rfl
theorem dX0_pieceNumber_12 : decode cX0_pieceNumber 12 = .ok (.aload_n 0, 1) := qr_o42 hN_cX0_pieceNumber hn_cX0_pieceNumber rfl rfl
theorem dX0_pieceNumber_13 : decode cX0_pieceNumber 13 = .ok (.getfield 39, 3) := qr_o180 0 39 hN_cX0_pieceNumber hn_cX0_pieceNumber rfl rfl rfl rfl
theorem dX0_pieceNumber_16 : decode cX0_pieceNumber 16 = .ok (.getfield 47, 3) := qr_o180 0 47 hN_cX0_pieceNumber hn_cX0_pieceNumber rfl rfl rfl rfl
theorem dX0_pieceNumber_19 : decode cX0_pieceNumber 19 = .ok (.ireturn, 1) := qr_o172 hN_cX0_pieceNumber hn_cX0_pieceNumber rfl rfl
def nN_cX0_isKnownOn : Nat := 0xac030400a7040700a41b0900b42a0b00992b00b62a1600a31b2100b42a
theorem hN_cX0_isKnownOn : qr_n cX0_isKnownOn.data.toList = nN_cX0_isKnownOn := by decide +kernel
theorem hn_cX0_isKnownOn : cX0_isKnownOn.size = 29 := by decide +kernel
theorem dX0_isKnownOn_0 : decode cX0_isKnownOn 0 = .ok (.aload_n 0, 1) := qr_o42 hN_cX0_isKnownOn hn_cX0_isKnownOn rfl rfl
theorem dX0_isKnownOn_1 : decode cX0_isKnownOn 1 = .ok (.getfield 33, 3) := qr_o180 0 33 hN_cX0_isKnownOn hn_cX0_isKnownOn rfl rfl rfl rfl
theorem dX0_isKnownOn_4 : decode cX0_isKnownOn 4 = .ok (.iload_n 1, 1) := qr_o27 hN_cX0_isKnownOn hn_cX0_isKnownOn rfl rfl
theorem dX0_isKnownOn_5 : decode cX0_isKnownOn 5 = .ok (.if_icmp .gt 22, 3) := qr_o163 0 22 rfl hN_cX0_isKnownOn hn_cX0_isKnownOn rfl rfl rfl rfl
theorem dX0_isKnownOn_8 : decode cX0_isKnownOn 8 = .ok (.aload_n 0, 1) := qr_o42 hN_cX0_isKnownOn hn_cX0_isKnownOn rfl rfl
theorem dX0_isKnownOn_9 : decode cX0_isKnownOn 9 = .ok (.invokevirtual 43, 3) := qr_o182 0 43 hN_cX0_isKnownOn hn_cX0_isKnownOn rfl rfl rfl rfl
theorem dX0_isKnownOn_12 : decode cX0_isKnownOn 12 = .ok (.ifCond .eq 11, 3) := qr_o153 0 11 rfl hN_cX0_isKnownOn hn_cX0_isKnownOn rfl rfl rfl rfl
theorem dX0_isKnownOn_15 : decode cX0_isKnownOn 15 = .ok (.aload_n 0, 1) := qr_o42 hN_cX0_isKnownOn hn_cX0_isKnownOn rfl rfl
theorem dX0_isKnownOn_16 : decode cX0_isKnownOn 16 = .ok (.getfield 9, 3) := qr_o180 0 9 hN_cX0_isKnownOn hn_cX0_isKnownOn rfl rfl rfl rfl
theorem dX0_isKnownOn_19 : decode cX0_isKnownOn 19 = .ok (.iload_n 1, 1) := qr_o27 hN_cX0_isKnownOn hn_cX0_isKnownOn rfl rfl
theorem dX0_isKnownOn_20 : decode cX0_isKnownOn 20 = .ok (.if_icmp .le 7, 3) := qr_o164 0 7 rfl hN_cX0_isKnownOn hn_cX0_isKnownOn rfl rfl rfl rfl
theorem dX0_isKnownOn_23 : decode cX0_isKnownOn 23 = .ok (.iconst 1, 1) := qr_o4 hN_cX0_isKnownOn hn_cX0_isKnownOn rfl rfl
theorem dX0_isKnownOn_24 : decode cX0_isKnownOn 24 = .ok (.goto 4, 3) := qr_o167 0 4 rfl hN_cX0_isKnownOn hn_cX0_isKnownOn rfl rfl rfl rfl
theorem dX0_isKnownOn_27 : decode cX0_isKnownOn 27 = .ok (.iconst 0, 1) := qr_o3 hN_cX0_isKnownOn hn_cX0_isKnownOn rfl rfl
theorem dX0_isKnownOn_28 : decode cX0_isKnownOn 28 = .ok (.ireturn, 1) := qr_o172 hN_cX0_isKnownOn hn_cX0_isKnownOn rfl rfl
def nN_cX0_tally : Nat := 0xac03ac030400a7040700c62700b42aac030400a7040700992b00b62a28000000060000001b0000000500000002000000350000000000ab1b
theorem hN_cX0_tally : qr_n cX0_tally.data.toList = nN_cX0_tally := by decide +kernel
theorem hn_cX0_tally : cX0_tally.size = 56 := by decide +kernel
theorem dX0_tally_0 : decode cX0_tally 0 = .ok (.iload_n 1, 1) := qr_o27 hN_cX0_tally hn_cX0_tally rfl rfl
theorem dX0_tally_1 : decode cX0_tally 1 = .ok (.lookupswitch 53 #[(5, 27), (6, 40)], 27) := by decide +kernel
theorem dX0_tally_28 : decode cX0_tally 28 = .ok (.aload_n 0, 1) := qr_o42 hN_cX0_tally hn_cX0_tally rfl rfl
theorem dX0_tally_29 : decode cX0_tally 29 = .ok (.invokevirtual 43, 3) := qr_o182 0 43 hN_cX0_tally hn_cX0_tally rfl rfl rfl rfl
theorem dX0_tally_32 : decode cX0_tally 32 = .ok (.ifCond .eq 7, 3) := qr_o153 0 7 rfl hN_cX0_tally hn_cX0_tally rfl rfl rfl rfl
theorem dX0_tally_35 : decode cX0_tally 35 = .ok (.iconst 1, 1) := qr_o4 hN_cX0_tally hn_cX0_tally rfl rfl
theorem dX0_tally_36 : decode cX0_tally 36 = .ok (.goto 4, 3) := qr_o167 0 4 rfl hN_cX0_tally hn_cX0_tally rfl rfl rfl rfl
theorem dX0_tally_39 : decode cX0_tally 39 = .ok (.iconst 0, 1) := qr_o3 hN_cX0_tally hn_cX0_tally rfl rfl
theorem dX0_tally_40 : decode cX0_tally 40 = .ok (.ireturn, 1) := qr_o172 hN_cX0_tally hn_cX0_tally rfl rfl
theorem dX0_tally_41 : decode cX0_tally 41 = .ok (.aload_n 0, 1) := qr_o42 hN_cX0_tally hn_cX0_tally rfl rfl
theorem dX0_tally_42 : decode cX0_tally 42 = .ok (.getfield 39, 3) := qr_o180 0 39 hN_cX0_tally hn_cX0_tally rfl rfl rfl rfl
theorem dX0_tally_45 : decode cX0_tally 45 = .ok (.ifnull 7, 3) := qr_o198 0 7 rfl hN_cX0_tally hn_cX0_tally rfl rfl rfl rfl
theorem dX0_tally_48 : decode cX0_tally 48 = .ok (.iconst 1, 1) := qr_o4 hN_cX0_tally hn_cX0_tally rfl rfl
theorem dX0_tally_49 : decode cX0_tally 49 = .ok (.goto 4, 3) := qr_o167 0 4 rfl hN_cX0_tally hn_cX0_tally rfl rfl rfl rfl
theorem dX0_tally_52 : decode cX0_tally 52 = .ok (.iconst 0, 1) := qr_o3 hN_cX0_tally hn_cX0_tally rfl rfl
theorem dX0_tally_53 : decode cX0_tally 53 = .ok (.ireturn, 1) := qr_o172 hN_cX0_tally hn_cX0_tally rfl rfl
theorem dX0_tally_54 : decode cX0_tally 54 = .ok (.iconst 0, 1) := qr_o3 hN_cX0_tally hn_cX0_tally rfl rfl
theorem dX0_tally_55 : decode cX0_tally 55 = .ok (.ireturn, 1) := qr_o172 hN_cX0_tally hn_cX0_tally rfl rfl
def nN_cX0_goOut : Nat := 0xb13500b51c2a3200b51b2a0f00b5042a
theorem hN_cX0_goOut : qr_n cX0_goOut.data.toList = nN_cX0_goOut := by decide +kernel
theorem hn_cX0_goOut : cX0_goOut.size = 16 := by decide +kernel
theorem dX0_goOut_0 : decode cX0_goOut 0 = .ok (.aload_n 0, 1) := qr_o42 hN_cX0_goOut hn_cX0_goOut rfl rfl
theorem dX0_goOut_1 : decode cX0_goOut 1 = .ok (.iconst 1, 1) := qr_o4 hN_cX0_goOut hn_cX0_goOut rfl rfl
theorem dX0_goOut_2 : decode cX0_goOut 2 = .ok (.putfield 15, 3) := qr_o181 0 15 hN_cX0_goOut hn_cX0_goOut rfl rfl rfl rfl
theorem dX0_goOut_5 : decode cX0_goOut 5 = .ok (.aload_n 0, 1) := qr_o42 hN_cX0_goOut hn_cX0_goOut rfl rfl
theorem dX0_goOut_6 : decode cX0_goOut 6 = .ok (.iload_n 1, 1) := qr_o27 hN_cX0_goOut hn_cX0_goOut rfl rfl
theorem dX0_goOut_7 : decode cX0_goOut 7 = .ok (.putfield 50, 3) := qr_o181 0 50 hN_cX0_goOut hn_cX0_goOut rfl rfl rfl rfl
theorem dX0_goOut_10 : decode cX0_goOut 10 = .ok (.aload_n 0, 1) := qr_o42 hN_cX0_goOut hn_cX0_goOut rfl rfl
theorem dX0_goOut_11 : decode cX0_goOut 11 = .ok (.iload_n 2, 1) := qr_o28 hN_cX0_goOut hn_cX0_goOut rfl rfl
theorem dX0_goOut_12 : decode cX0_goOut 12 = .ok (.putfield 53, 3) := qr_o181 0 53 hN_cX0_goOut hn_cX0_goOut rfl rfl rfl rfl
theorem dX0_goOut_15 : decode cX0_goOut 15 = .ok (.return_, 1) := qr_o177 hN_cX0_goOut hn_cX0_goOut rfl rfl
def nN_cX0_comeHome : Nat := 0xb13b00b51c2a3800b51b2a0f00b5052a
theorem hN_cX0_comeHome : qr_n cX0_comeHome.data.toList = nN_cX0_comeHome := by decide +kernel
theorem hn_cX0_comeHome : cX0_comeHome.size = 16 := by decide +kernel
theorem dX0_comeHome_0 : decode cX0_comeHome 0 = .ok (.aload_n 0, 1) := qr_o42 hN_cX0_comeHome hn_cX0_comeHome rfl rfl
theorem dX0_comeHome_1 : decode cX0_comeHome 1 = .ok (.iconst 2, 1) := qr_o5 hN_cX0_comeHome hn_cX0_comeHome rfl rfl
theorem dX0_comeHome_2 : decode cX0_comeHome 2 = .ok (.putfield 15, 3) := qr_o181 0 15 hN_cX0_comeHome hn_cX0_comeHome rfl rfl rfl rfl
theorem dX0_comeHome_5 : decode cX0_comeHome 5 = .ok (.aload_n 0, 1) := qr_o42 hN_cX0_comeHome hn_cX0_comeHome rfl rfl
theorem dX0_comeHome_6 : decode cX0_comeHome 6 = .ok (.iload_n 1, 1) := qr_o27 hN_cX0_comeHome hn_cX0_comeHome rfl rfl
theorem dX0_comeHome_7 : decode cX0_comeHome 7 = .ok (.putfield 56, 3) := qr_o181 0 56 hN_cX0_comeHome hn_cX0_comeHome rfl rfl rfl rfl
theorem dX0_comeHome_10 : decode cX0_comeHome 10 = .ok (.aload_n 0, 1) := qr_o42 hN_cX0_comeHome hn_cX0_comeHome rfl rfl
theorem dX0_comeHome_11 : decode cX0_comeHome 11 = .ok (.iload_n 2, 1) := qr_o28 hN_cX0_comeHome hn_cX0_comeHome rfl rfl
theorem dX0_comeHome_12 : decode cX0_comeHome 12 = .ok (.putfield 59, 3) := qr_o181 0 59 hN_cX0_comeHome hn_cX0_comeHome rfl rfl rfl rfl
theorem dX0_comeHome_15 : decode cX0_comeHome 15 = .ok (.return_, 1) := qr_o177 hN_cX0_comeHome hn_cX0_comeHome rfl rfl
def nN_cX1_init : Nat := 0xb11a00b52b2a1700b50abc072a1400b50abc072a1100b50abc1e102a0b00b50abcd002112a0500b72a
theorem hN_cX1_init : qr_n cX1_init.data.toList = nN_cX1_init := by decide +kernel
theorem hn_cX1_init : cX1_init.size = 41 := by decide +kernel
theorem dX1_init_0 : decode cX1_init 0 = .ok (.aload_n 0, 1) := qr_o42 hN_cX1_init hn_cX1_init rfl rfl
theorem dX1_init_1 : decode cX1_init 1 = .ok (.invokespecial 5, 3) := qr_o183 0 5 hN_cX1_init hn_cX1_init rfl rfl rfl rfl
theorem dX1_init_4 : decode cX1_init 4 = .ok (.aload_n 0, 1) := qr_o42 hN_cX1_init hn_cX1_init rfl rfl
theorem dX1_init_5 : decode cX1_init 5 = .ok (.sipush 720, 3) := qr_o17 2 208 rfl hN_cX1_init hn_cX1_init rfl rfl rfl rfl
theorem dX1_init_8 : decode cX1_init 8 = .ok (.newarray .int, 2) := qr_na10 hN_cX1_init hn_cX1_init rfl rfl rfl
theorem dX1_init_10 : decode cX1_init 10 = .ok (.putfield 11, 3) := qr_o181 0 11 hN_cX1_init hn_cX1_init rfl rfl rfl rfl
theorem dX1_init_13 : decode cX1_init 13 = .ok (.aload_n 0, 1) := qr_o42 hN_cX1_init hn_cX1_init rfl rfl
theorem dX1_init_14 : decode cX1_init 14 = .ok (.bipush 30, 2) := qr_o16 30 rfl hN_cX1_init hn_cX1_init rfl rfl rfl
theorem dX1_init_16 : decode cX1_init 16 = .ok (.newarray .int, 2) := qr_na10 hN_cX1_init hn_cX1_init rfl rfl rfl
theorem dX1_init_18 : decode cX1_init 18 = .ok (.putfield 17, 3) := qr_o181 0 17 hN_cX1_init hn_cX1_init rfl rfl rfl rfl
theorem dX1_init_21 : decode cX1_init 21 = .ok (.aload_n 0, 1) := qr_o42 hN_cX1_init hn_cX1_init rfl rfl
theorem dX1_init_22 : decode cX1_init 22 = .ok (.iconst 4, 1) := qr_o7 hN_cX1_init hn_cX1_init rfl rfl
theorem dX1_init_23 : decode cX1_init 23 = .ok (.newarray .int, 2) := qr_na10 hN_cX1_init hn_cX1_init rfl rfl rfl
theorem dX1_init_25 : decode cX1_init 25 = .ok (.putfield 20, 3) := qr_o181 0 20 hN_cX1_init hn_cX1_init rfl rfl rfl rfl
theorem dX1_init_28 : decode cX1_init 28 = .ok (.aload_n 0, 1) := qr_o42 hN_cX1_init hn_cX1_init rfl rfl
theorem dX1_init_29 : decode cX1_init 29 = .ok (.iconst 4, 1) := qr_o7 hN_cX1_init hn_cX1_init rfl rfl
theorem dX1_init_30 : decode cX1_init 30 = .ok (.newarray .int, 2) := qr_na10 hN_cX1_init hn_cX1_init rfl rfl rfl
theorem dX1_init_32 : decode cX1_init 32 = .ok (.putfield 23, 3) := qr_o181 0 23 hN_cX1_init hn_cX1_init rfl rfl rfl rfl
theorem dX1_init_35 : decode cX1_init 35 = .ok (.aload_n 0, 1) := qr_o42 hN_cX1_init hn_cX1_init rfl rfl
theorem dX1_init_36 : decode cX1_init 36 = .ok (.aload_n 1, 1) := qr_o43 hN_cX1_init hn_cX1_init rfl rfl
theorem dX1_init_37 : decode cX1_init 37 = .ok (.putfield 26, 3) := qr_o181 0 26 hN_cX1_init hn_cX1_init rfl rfl rfl rfl
theorem dX1_init_40 : decode cX1_init 40 = .ok (.return_, 1) := qr_o177 hN_cX1_init hn_cX1_init rfl rfl
def nN_cX1_bookingIn : Nat := 0xac020400a72e1b1400b42a0c00a2071b1100a21e00b42a1b19009b1b
theorem hN_cX1_bookingIn : qr_n cX1_bookingIn.data.toList = nN_cX1_bookingIn := by decide +kernel
theorem hn_cX1_bookingIn : cX1_bookingIn.size = 28 := by decide +kernel
theorem dX1_bookingIn_0 : decode cX1_bookingIn 0 = .ok (.iload_n 1, 1) := qr_o27 hN_cX1_bookingIn hn_cX1_bookingIn rfl rfl
theorem dX1_bookingIn_1 : decode cX1_bookingIn 1 = .ok (.ifCond .lt 25, 3) := qr_o155 0 25 rfl hN_cX1_bookingIn hn_cX1_bookingIn rfl rfl rfl rfl
theorem dX1_bookingIn_4 : decode cX1_bookingIn 4 = .ok (.iload_n 1, 1) := qr_o27 hN_cX1_bookingIn hn_cX1_bookingIn rfl rfl
theorem dX1_bookingIn_5 : decode cX1_bookingIn 5 = .ok (.aload_n 0, 1) := qr_o42 hN_cX1_bookingIn hn_cX1_bookingIn rfl rfl
theorem dX1_bookingIn_6 : decode cX1_bookingIn 6 = .ok (.getfield 30, 3) := qr_o180 0 30 hN_cX1_bookingIn hn_cX1_bookingIn rfl rfl rfl rfl
theorem dX1_bookingIn_9 : decode cX1_bookingIn 9 = .ok (.if_icmp .ge 17, 3) := qr_o162 0 17 rfl hN_cX1_bookingIn hn_cX1_bookingIn rfl rfl rfl rfl
theorem dX1_bookingIn_12 : decode cX1_bookingIn 12 = .ok (.iload_n 1, 1) := qr_o27 hN_cX1_bookingIn hn_cX1_bookingIn rfl rfl
theorem dX1_bookingIn_13 : decode cX1_bookingIn 13 = .ok (.iconst 4, 1) := qr_o7 hN_cX1_bookingIn hn_cX1_bookingIn rfl rfl
theorem dX1_bookingIn_14 : decode cX1_bookingIn 14 = .ok (.if_icmp .ge 12, 3) := qr_o162 0 12 rfl hN_cX1_bookingIn hn_cX1_bookingIn rfl rfl rfl rfl
theorem dX1_bookingIn_17 : decode cX1_bookingIn 17 = .ok (.aload_n 0, 1) := qr_o42 hN_cX1_bookingIn hn_cX1_bookingIn rfl rfl
theorem dX1_bookingIn_18 : decode cX1_bookingIn 18 = .ok (.getfield 20, 3) := qr_o180 0 20 hN_cX1_bookingIn hn_cX1_bookingIn rfl rfl rfl rfl
theorem dX1_bookingIn_21 : decode cX1_bookingIn 21 = .ok (.iload_n 1, 1) := qr_o27 hN_cX1_bookingIn hn_cX1_bookingIn rfl rfl
theorem dX1_bookingIn_22 : decode cX1_bookingIn 22 = .ok (.iaload, 1) := qr_o46 hN_cX1_bookingIn hn_cX1_bookingIn rfl rfl
theorem dX1_bookingIn_23 : decode cX1_bookingIn 23 = .ok (.goto 4, 3) := qr_o167 0 4 rfl hN_cX1_bookingIn hn_cX1_bookingIn rfl rfl rfl rfl
theorem dX1_bookingIn_26 : decode cX1_bookingIn 26 = .ok (.iconst (-1), 1) := qr_o2 hN_cX1_bookingIn hn_cX1_bookingIn rfl rfl
theorem dX1_bookingIn_27 : decode cX1_bookingIn 27 = .ok (.ireturn, 1) := qr_o172 hN_cX1_bookingIn hn_cX1_bookingIn rfl rfl
def nN_cX1_pieceIn : Nat := 0xac020400a72e1b1700b42a0c00a2071b1100a21e00b42a1b19009b1b
theorem hN_cX1_pieceIn : qr_n cX1_pieceIn.data.toList = nN_cX1_pieceIn := by decide +kernel
theorem hn_cX1_pieceIn : cX1_pieceIn.size = 28 := by decide +kernel
theorem dX1_pieceIn_0 : decode cX1_pieceIn 0 = .ok (.iload_n 1, 1) := qr_o27 hN_cX1_pieceIn hn_cX1_pieceIn rfl rfl
theorem dX1_pieceIn_1 : decode cX1_pieceIn 1 = .ok (.ifCond .lt 25, 3) := qr_o155 0 25 rfl hN_cX1_pieceIn hn_cX1_pieceIn rfl rfl rfl rfl
theorem dX1_pieceIn_4 : decode cX1_pieceIn 4 = .ok (.iload_n 1, 1) := qr_o27 hN_cX1_pieceIn hn_cX1_pieceIn rfl rfl
theorem dX1_pieceIn_5 : decode cX1_pieceIn 5 = .ok (.aload_n 0, 1) := qr_o42 hN_cX1_pieceIn hn_cX1_pieceIn rfl rfl
theorem dX1_pieceIn_6 : decode cX1_pieceIn 6 = .ok (.getfield 30, 3) := qr_o180 0 30 hN_cX1_pieceIn hn_cX1_pieceIn rfl rfl rfl rfl
theorem dX1_pieceIn_9 : decode cX1_pieceIn 9 = .ok (.if_icmp .ge 17, 3) := qr_o162 0 17 rfl hN_cX1_pieceIn hn_cX1_pieceIn rfl rfl rfl rfl
theorem dX1_pieceIn_12 : decode cX1_pieceIn 12 = .ok (.iload_n 1, 1) := qr_o27 hN_cX1_pieceIn hn_cX1_pieceIn rfl rfl
theorem dX1_pieceIn_13 : decode cX1_pieceIn 13 = .ok (.iconst 4, 1) := qr_o7 hN_cX1_pieceIn hn_cX1_pieceIn rfl rfl
theorem dX1_pieceIn_14 : decode cX1_pieceIn 14 = .ok (.if_icmp .ge 12, 3) := qr_o162 0 12 rfl hN_cX1_pieceIn hn_cX1_pieceIn rfl rfl rfl rfl
theorem dX1_pieceIn_17 : decode cX1_pieceIn 17 = .ok (.aload_n 0, 1) := qr_o42 hN_cX1_pieceIn hn_cX1_pieceIn rfl rfl
theorem dX1_pieceIn_18 : decode cX1_pieceIn 18 = .ok (.getfield 23, 3) := qr_o180 0 23 hN_cX1_pieceIn hn_cX1_pieceIn rfl rfl rfl rfl
theorem dX1_pieceIn_21 : decode cX1_pieceIn 21 = .ok (.iload_n 1, 1) := qr_o27 hN_cX1_pieceIn hn_cX1_pieceIn rfl rfl
theorem dX1_pieceIn_22 : decode cX1_pieceIn 22 = .ok (.iaload, 1) := qr_o46 hN_cX1_pieceIn hn_cX1_pieceIn rfl rfl
theorem dX1_pieceIn_23 : decode cX1_pieceIn 23 = .ok (.goto 4, 3) := qr_o167 0 4 rfl hN_cX1_pieceIn hn_cX1_pieceIn rfl rfl rfl rfl
theorem dX1_pieceIn_26 : decode cX1_pieceIn 26 = .ok (.iconst (-1), 1) := qr_o2 hN_cX1_pieceIn hn_cX1_pieceIn rfl rfl
theorem dX1_pieceIn_27 : decode cX1_pieceIn 27 = .ok (.ireturn, 1) := qr_o172 hN_cX1_pieceIn hn_cX1_pieceIn rfl rfl
def nN_cX1_find : Nat := 0xacfc10e3ffa7010384ac1e00b42a1e00b560041d2a0f00994500b81d032a1e00a31c1d3e034f4000b42b031400b42af4ffa70103843d00b62a0d00a21c1d3e03e5ffa70103843900b62b3500b61d1a00b42a2a1600a23200b41a00b42a1d3e031e00b5032a3d2c00b8062800b607102200b41a00b42a
theorem hN_cX1_find : qr_n cX1_find.data.toList = nN_cX1_find := by decide +kernel
theorem hn_cX1_find : cX1_find.size = 118 := by decide +kernel
theorem dX1_find_0 : decode cX1_find 0 = .ok (.aload_n 0, 1) := qr_o42 hN_cX1_find hn_cX1_find rfl rfl
theorem dX1_find_1 : decode cX1_find 1 = .ok (.getfield 26, 3) := qr_o180 0 26 hN_cX1_find hn_cX1_find rfl rfl rfl rfl
theorem dX1_find_4 : decode cX1_find 4 = .ok (.getfield 34, 3) := qr_o180 0 34 hN_cX1_find hn_cX1_find rfl rfl rfl rfl
theorem dX1_find_7 : decode cX1_find 7 = .ok (.bipush 7, 2) := qr_o16 7 rfl hN_cX1_find hn_cX1_find rfl rfl rfl
theorem dX1_find_9 : decode cX1_find 9 = .ok (.invokevirtual 40, 3) := qr_o182 0 40 hN_cX1_find hn_cX1_find rfl rfl rfl rfl
theorem dX1_find_12 : decode cX1_find 12 = .ok (.iconst 3, 1) := qr_o6 hN_cX1_find hn_cX1_find rfl rfl
theorem dX1_find_13 : decode cX1_find 13 = .ok (.invokestatic 44, 3) := qr_o184 0 44 hN_cX1_find hn_cX1_find rfl rfl rfl rfl
theorem dX1_find_16 : decode cX1_find 16 = .ok (.istore_n 2, 1) := qr_o61 hN_cX1_find hn_cX1_find rfl rfl
theorem dX1_find_17 : decode cX1_find 17 = .ok (.aload_n 0, 1) := qr_o42 hN_cX1_find hn_cX1_find rfl rfl
theorem dX1_find_18 : decode cX1_find 18 = .ok (.iconst 0, 1) := qr_o3 hN_cX1_find hn_cX1_find rfl rfl
theorem dX1_find_19 : decode cX1_find 19 = .ok (.putfield 30, 3) := qr_o181 0 30 hN_cX1_find hn_cX1_find rfl rfl rfl rfl
theorem dX1_find_22 : decode cX1_find 22 = .ok (.iconst 0, 1) := qr_o3 hN_cX1_find hn_cX1_find rfl rfl
theorem dX1_find_23 : decode cX1_find 23 = .ok (.istore_n 3, 1) := qr_o62 hN_cX1_find hn_cX1_find rfl rfl
theorem dX1_find_24 : decode cX1_find 24 = .ok (.iload_n 3, 1) := qr_o29 hN_cX1_find hn_cX1_find rfl rfl
theorem dX1_find_25 : decode cX1_find 25 = .ok (.aload_n 0, 1) := qr_o42 hN_cX1_find hn_cX1_find rfl rfl
theorem dX1_find_26 : decode cX1_find 26 = .ok (.getfield 26, 3) := qr_o180 0 26 hN_cX1_find hn_cX1_find rfl rfl rfl rfl
theorem dX1_find_29 : decode cX1_find 29 = .ok (.getfield 50, 3) := qr_o180 0 50 hN_cX1_find hn_cX1_find rfl rfl rfl rfl
theorem dX1_find_32 : decode cX1_find 32 = .ok (.if_icmp .ge 22, 3) := qr_o162 0 22 rfl hN_cX1_find hn_cX1_find rfl rfl rfl rfl
theorem dX1_find_35 : decode cX1_find 35 = .ok (.aload_n 0, 1) := qr_o42 hN_cX1_find hn_cX1_find rfl rfl
theorem dX1_find_36 : decode cX1_find 36 = .ok (.aload_n 0, 1) := qr_o42 hN_cX1_find hn_cX1_find rfl rfl
theorem dX1_find_37 : decode cX1_find 37 = .ok (.getfield 26, 3) := qr_o180 0 26 hN_cX1_find hn_cX1_find rfl rfl rfl rfl
theorem dX1_find_40 : decode cX1_find 40 = .ok (.iload_n 3, 1) := qr_o29 hN_cX1_find hn_cX1_find rfl rfl
theorem dX1_find_41 : decode cX1_find 41 = .ok (.invokevirtual 53, 3) := qr_o182 0 53 hN_cX1_find hn_cX1_find rfl rfl rfl rfl
theorem dX1_find_44 : decode cX1_find 44 = .ok (.aload_n 1, 1) := qr_o43 hN_cX1_find hn_cX1_find rfl rfl
theorem dX1_find_45 : decode cX1_find 45 = .ok (.invokevirtual 57, 3) := qr_o182 0 57 hN_cX1_find hn_cX1_find rfl rfl rfl rfl
theorem dX1_find_48 : decode cX1_find 48 = .ok (.iinc 3 1, 3) := qr_o132 3 1 rfl hN_cX1_find hn_cX1_find rfl rfl rfl rfl
theorem dX1_find_51 : decode cX1_find 51 = .ok (.goto (-27), 3) := qr_w167 255 229 27 rfl rfl hN_cX1_find hn_cX1_find rfl rfl rfl rfl
theorem dX1_find_54 : decode cX1_find 54 = .ok (.iconst 0, 1) := qr_o3 hN_cX1_find hn_cX1_find rfl rfl
theorem dX1_find_55 : decode cX1_find 55 = .ok (.istore_n 3, 1) := qr_o62 hN_cX1_find hn_cX1_find rfl rfl
theorem dX1_find_56 : decode cX1_find 56 = .ok (.iload_n 3, 1) := qr_o29 hN_cX1_find hn_cX1_find rfl rfl
theorem dX1_find_57 : decode cX1_find 57 = .ok (.iload_n 2, 1) := qr_o28 hN_cX1_find hn_cX1_find rfl rfl
theorem dX1_find_58 : decode cX1_find 58 = .ok (.if_icmp .ge 13, 3) := qr_o162 0 13 rfl hN_cX1_find hn_cX1_find rfl rfl rfl rfl
theorem dX1_find_61 : decode cX1_find 61 = .ok (.aload_n 0, 1) := qr_o42 hN_cX1_find hn_cX1_find rfl rfl
theorem dX1_find_62 : decode cX1_find 62 = .ok (.invokevirtual 61, 3) := qr_o182 0 61 hN_cX1_find hn_cX1_find rfl rfl rfl rfl
theorem dX1_find_65 : decode cX1_find 65 = .ok (.iinc 3 1, 3) := qr_o132 3 1 rfl hN_cX1_find hn_cX1_find rfl rfl rfl rfl
theorem dX1_find_68 : decode cX1_find 68 = .ok (.goto (-12), 3) := qr_w167 255 244 12 rfl rfl hN_cX1_find hn_cX1_find rfl rfl rfl rfl
theorem dX1_find_71 : decode cX1_find 71 = .ok (.aload_n 0, 1) := qr_o42 hN_cX1_find hn_cX1_find rfl rfl
theorem dX1_find_72 : decode cX1_find 72 = .ok (.getfield 20, 3) := qr_o180 0 20 hN_cX1_find hn_cX1_find rfl rfl rfl rfl
theorem dX1_find_75 : decode cX1_find 75 = .ok (.iconst 0, 1) := qr_o3 hN_cX1_find hn_cX1_find rfl rfl
theorem dX1_find_76 : decode cX1_find 76 = .ok (.aload_n 1, 1) := qr_o43 hN_cX1_find hn_cX1_find rfl rfl
theorem dX1_find_77 : decode cX1_find 77 = .ok (.getfield 64, 3) := qr_o180 0 64 hN_cX1_find hn_cX1_find rfl rfl rfl rfl
theorem dX1_find_80 : decode cX1_find 80 = .ok (.iastore, 1) := qr_o79 hN_cX1_find hn_cX1_find rfl rfl
theorem dX1_find_81 : decode cX1_find 81 = .ok (.iconst 0, 1) := qr_o3 hN_cX1_find hn_cX1_find rfl rfl
theorem dX1_find_82 : decode cX1_find 82 = .ok (.istore_n 3, 1) := qr_o62 hN_cX1_find hn_cX1_find rfl rfl
theorem dX1_find_83 : decode cX1_find 83 = .ok (.iload_n 3, 1) := qr_o29 hN_cX1_find hn_cX1_find rfl rfl
theorem dX1_find_84 : decode cX1_find 84 = .ok (.iload_n 2, 1) := qr_o28 hN_cX1_find hn_cX1_find rfl rfl
theorem dX1_find_85 : decode cX1_find 85 = .ok (.if_icmp .gt 30, 3) := qr_o163 0 30 rfl hN_cX1_find hn_cX1_find rfl rfl rfl rfl
theorem dX1_find_88 : decode cX1_find 88 = .ok (.aload_n 0, 1) := qr_o42 hN_cX1_find hn_cX1_find rfl rfl
theorem dX1_find_89 : decode cX1_find 89 = .ok (.iconst 0, 1) := qr_o3 hN_cX1_find hn_cX1_find rfl rfl
theorem dX1_find_90 : decode cX1_find 90 = .ok (.iload_n 3, 1) := qr_o29 hN_cX1_find hn_cX1_find rfl rfl
theorem dX1_find_91 : decode cX1_find 91 = .ok (.invokestatic 69, 3) := qr_o184 0 69 hN_cX1_find hn_cX1_find rfl rfl rfl rfl
theorem dX1_find_94 : decode cX1_find 94 = .ok (.ifCond .eq 15, 3) := qr_o153 0 15 rfl hN_cX1_find hn_cX1_find rfl rfl rfl rfl
theorem dX1_find_97 : decode cX1_find 97 = .ok (.aload_n 0, 1) := qr_o42 hN_cX1_find hn_cX1_find rfl rfl
theorem dX1_find_98 : decode cX1_find 98 = .ok (.iload_n 3, 1) := qr_o29 hN_cX1_find hn_cX1_find rfl rfl
theorem dX1_find_99 : decode cX1_find 99 = .ok (.iconst 1, 1) := qr_o4 hN_cX1_find hn_cX1_find rfl rfl
theorem dX1_find_100 : decode cX1_find 100 = .ok (.iadd, 1) := qr_o96 hN_cX1_find hn_cX1_find rfl rfl
theorem dX1_find_101 : decode cX1_find 101 = .ok (.putfield 30, 3) := qr_o181 0 30 hN_cX1_find hn_cX1_find rfl rfl rfl rfl
theorem dX1_find_104 : decode cX1_find 104 = .ok (.aload_n 0, 1) := qr_o42 hN_cX1_find hn_cX1_find rfl rfl
theorem dX1_find_105 : decode cX1_find 105 = .ok (.getfield 30, 3) := qr_o180 0 30 hN_cX1_find hn_cX1_find rfl rfl rfl rfl
theorem dX1_find_108 : decode cX1_find 108 = .ok (.ireturn, 1) := qr_o172 hN_cX1_find hn_cX1_find rfl rfl
theorem dX1_find_109 : decode cX1_find 109 = .ok (.iinc 3 1, 3) := qr_o132 3 1 rfl hN_cX1_find hn_cX1_find rfl rfl rfl rfl
theorem dX1_find_112 : decode cX1_find 112 = .ok (.goto (-29), 3) := qr_w167 255 227 29 rfl rfl hN_cX1_find hn_cX1_find rfl rfl rfl rfl
theorem dX1_find_115 : decode cX1_find 115 = .ok (.bipush (-4), 2) := qr_w16 252 4 rfl rfl hN_cX1_find hn_cX1_find rfl rfl rfl
theorem dX1_find_117 : decode cX1_find 117 = .ok (.ireturn, 1) := qr_o172 hN_cX1_find hn_cX1_find rfl rfl
def nN_cX1_perform : Nat := 0xb1ceffa70101845300b52d2c0800c62d0c00c62c4e4f00b64c00b61b2a1a00b42a4d3500b64900b61b2a1a00b42a3000a21e00b42a1b3c03
theorem hN_cX1_perform : qr_n cX1_perform.data.toList = nN_cX1_perform := by decide +kernel
theorem hn_cX1_perform : cX1_perform.size = 56 := by decide +kernel
theorem dX1_perform_0 : decode cX1_perform 0 = .ok (.iconst 0, 1) := qr_o3 hN_cX1_perform hn_cX1_perform rfl rfl
theorem dX1_perform_1 : decode cX1_perform 1 = .ok (.istore_n 1, 1) := qr_o60 hN_cX1_perform hn_cX1_perform rfl rfl
theorem dX1_perform_2 : decode cX1_perform 2 = .ok (.iload_n 1, 1) := qr_o27 hN_cX1_perform hn_cX1_perform rfl rfl
theorem dX1_perform_3 : decode cX1_perform 3 = .ok (.aload_n 0, 1) := qr_o42 hN_cX1_perform hn_cX1_perform rfl rfl
theorem dX1_perform_4 : decode cX1_perform 4 = .ok (.getfield 30, 3) := qr_o180 0 30 hN_cX1_perform hn_cX1_perform rfl rfl rfl rfl
theorem dX1_perform_7 : decode cX1_perform 7 = .ok (.if_icmp .ge 48, 3) := qr_o162 0 48 rfl hN_cX1_perform hn_cX1_perform rfl rfl rfl rfl
theorem dX1_perform_10 : decode cX1_perform 10 = .ok (.aload_n 0, 1) := qr_o42 hN_cX1_perform hn_cX1_perform rfl rfl
theorem dX1_perform_11 : decode cX1_perform 11 = .ok (.getfield 26, 3) := qr_o180 0 26 hN_cX1_perform hn_cX1_perform rfl rfl rfl rfl
theorem dX1_perform_14 : decode cX1_perform 14 = .ok (.aload_n 0, 1) := qr_o42 hN_cX1_perform hn_cX1_perform rfl rfl
theorem dX1_perform_15 : decode cX1_perform 15 = .ok (.iload_n 1, 1) := qr_o27 hN_cX1_perform hn_cX1_perform rfl rfl
theorem dX1_perform_16 : decode cX1_perform 16 = .ok (.invokevirtual 73, 3) := qr_o182 0 73 hN_cX1_perform hn_cX1_perform rfl rfl rfl rfl
theorem dX1_perform_19 : decode cX1_perform 19 = .ok (.invokevirtual 53, 3) := qr_o182 0 53 hN_cX1_perform hn_cX1_perform rfl rfl rfl rfl
theorem dX1_perform_22 : decode cX1_perform 22 = .ok (.astore_n 2, 1) := qr_o77 hN_cX1_perform hn_cX1_perform rfl rfl
theorem dX1_perform_23 : decode cX1_perform 23 = .ok (.aload_n 0, 1) := qr_o42 hN_cX1_perform hn_cX1_perform rfl rfl
theorem dX1_perform_24 : decode cX1_perform 24 = .ok (.getfield 26, 3) := qr_o180 0 26 hN_cX1_perform hn_cX1_perform rfl rfl rfl rfl
theorem dX1_perform_27 : decode cX1_perform 27 = .ok (.aload_n 0, 1) := qr_o42 hN_cX1_perform hn_cX1_perform rfl rfl
theorem dX1_perform_28 : decode cX1_perform 28 = .ok (.iload_n 1, 1) := qr_o27 hN_cX1_perform hn_cX1_perform rfl rfl
theorem dX1_perform_29 : decode cX1_perform 29 = .ok (.invokevirtual 76, 3) := qr_o182 0 76 hN_cX1_perform hn_cX1_perform rfl rfl rfl rfl
theorem dX1_perform_32 : decode cX1_perform 32 = .ok (.invokevirtual 79, 3) := qr_o182 0 79 hN_cX1_perform hn_cX1_perform rfl rfl rfl rfl
theorem dX1_perform_35 : decode cX1_perform 35 = .ok (.astore_n 3, 1) := qr_o78 hN_cX1_perform hn_cX1_perform rfl rfl
theorem dX1_perform_36 : decode cX1_perform 36 = .ok (.aload_n 2, 1) := qr_o44 hN_cX1_perform hn_cX1_perform rfl rfl
theorem dX1_perform_37 : decode cX1_perform 37 = .ok (.ifnull 12, 3) := qr_o198 0 12 rfl hN_cX1_perform hn_cX1_perform rfl rfl rfl rfl
theorem dX1_perform_40 : decode cX1_perform 40 = .ok (.aload_n 3, 1) := qr_o45 hN_cX1_perform hn_cX1_perform rfl rfl
theorem dX1_perform_41 : decode cX1_perform 41 = .ok (.ifnull 8, 3) := qr_o198 0 8 rfl hN_cX1_perform hn_cX1_perform rfl rfl rfl rfl
theorem dX1_perform_44 : decode cX1_perform 44 = .ok (.aload_n 2, 1) := qr_o44 hN_cX1_perform hn_cX1_perform rfl rfl
theorem dX1_perform_45 : decode cX1_perform 45 = .ok (.aload_n 3, 1) := qr_o45 hN_cX1_perform hn_cX1_perform rfl rfl
theorem dX1_perform_46 : decode cX1_perform 46 = .ok (.putfield 83, 3) := qr_o181 0 83 hN_cX1_perform hn_cX1_perform rfl rfl rfl rfl
theorem dX1_perform_49 : decode cX1_perform 49 = .ok (.iinc 1 1, 3) := qr_o132 1 1 rfl hN_cX1_perform hn_cX1_perform rfl rfl rfl rfl
theorem dX1_perform_52 : decode cX1_perform 52 = .ok (.goto (-50), 3) := qr_w167 255 206 50 rfl rfl hN_cX1_perform hn_cX1_perform rfl rfl rfl rfl
theorem dX1_perform_55 : decode cX1_perform 55 = .ok (.return_, 1) := qr_o177 hN_cX1_perform hn_cX1_perform rfl rfl
def nN_cX1_readSources : Nat := 0xb16effa70104844f05156004156818104000b42b0b00b42a4f034000b42b1100b42a0d00a00205150536fe100700996b00b607190f00c60719073a3500b605151a00b42a05366700b62b06191a00b42a0f00996300b62b06191a00b42a1c00995d00b65a00b42b06192800a55300b42b06193100c606193600991d063a4f00b604151a00b42a0536fe108c00a25700b41a00b42a04150436034f63104000b42b1100b42a3e030400a7040700c65300b42b0a00a52c2bb10400c72b
theorem hN_cX1_readSources : qr_n cX1_readSources.data.toList = nN_cX1_readSources := by decide +kernel
theorem hn_cX1_readSources : cX1_readSources.size = 187 := by decide +kernel
theorem dX1_readSources_0 : decode cX1_readSources 0 = .ok (.aload_n 1, 1) := qr_o43 hN_cX1_readSources hn_cX1_readSources rfl rfl
theorem dX1_readSources_1 : decode cX1_readSources 1 = .ok (.ifnonnull 4, 3) := qr_o199 0 4 rfl hN_cX1_readSources hn_cX1_readSources rfl rfl rfl rfl
theorem dX1_readSources_4 : decode cX1_readSources 4 = .ok (.return_, 1) := qr_o177 hN_cX1_readSources hn_cX1_readSources rfl rfl
theorem dX1_readSources_5 : decode cX1_readSources 5 = .ok (.aload_n 1, 1) := qr_o43 hN_cX1_readSources hn_cX1_readSources rfl rfl
theorem dX1_readSources_6 : decode cX1_readSources 6 = .ok (.aload_n 2, 1) := qr_o44 hN_cX1_readSources hn_cX1_readSources rfl rfl
theorem dX1_readSources_7 : decode cX1_readSources 7 = .ok (.if_acmp .eq 10, 3) := qr_o165 0 10 rfl hN_cX1_readSources hn_cX1_readSources rfl rfl rfl rfl
theorem dX1_readSources_10 : decode cX1_readSources 10 = .ok (.aload_n 1, 1) := qr_o43 hN_cX1_readSources hn_cX1_readSources rfl rfl
theorem dX1_readSources_11 : decode cX1_readSources 11 = .ok (.getfield 83, 3) := qr_o180 0 83 hN_cX1_readSources hn_cX1_readSources rfl rfl rfl rfl
theorem dX1_readSources_14 : decode cX1_readSources 14 = .ok (.ifnull 7, 3) := qr_o198 0 7 rfl hN_cX1_readSources hn_cX1_readSources rfl rfl rfl rfl
theorem dX1_readSources_17 : decode cX1_readSources 17 = .ok (.iconst 1, 1) := qr_o4 hN_cX1_readSources hn_cX1_readSources rfl rfl
theorem dX1_readSources_18 : decode cX1_readSources 18 = .ok (.goto 4, 3) := qr_o167 0 4 rfl hN_cX1_readSources hn_cX1_readSources rfl rfl rfl rfl
theorem dX1_readSources_21 : decode cX1_readSources 21 = .ok (.iconst 0, 1) := qr_o3 hN_cX1_readSources hn_cX1_readSources rfl rfl
theorem dX1_readSources_22 : decode cX1_readSources 22 = .ok (.istore_n 3, 1) := qr_o62 hN_cX1_readSources hn_cX1_readSources rfl rfl
theorem dX1_readSources_23 : decode cX1_readSources 23 = .ok (.aload_n 0, 1) := qr_o42 hN_cX1_readSources hn_cX1_readSources rfl rfl
theorem dX1_readSources_24 : decode cX1_readSources 24 = .ok (.getfield 17, 3) := qr_o180 0 17 hN_cX1_readSources hn_cX1_readSources rfl rfl rfl rfl
theorem dX1_readSources_27 : decode cX1_readSources 27 = .ok (.aload_n 1, 1) := qr_o43 hN_cX1_readSources hn_cX1_readSources rfl rfl
theorem dX1_readSources_28 : decode cX1_readSources 28 = .ok (.getfield 64, 3) := qr_o180 0 64 hN_cX1_readSources hn_cX1_readSources rfl rfl rfl rfl
theorem dX1_readSources_31 : decode cX1_readSources 31 = .ok (.bipush 99, 2) := qr_o16 99 rfl hN_cX1_readSources hn_cX1_readSources rfl rfl rfl
theorem dX1_readSources_33 : decode cX1_readSources 33 = .ok (.iastore, 1) := qr_o79 hN_cX1_readSources hn_cX1_readSources rfl rfl
theorem dX1_readSources_34 : decode cX1_readSources 34 = .ok (.iconst 0, 1) := qr_o3 hN_cX1_readSources hn_cX1_readSources rfl rfl
theorem dX1_readSources_35 : decode cX1_readSources 35 = .ok (.istore 4, 2) := qr_o54 4 hN_cX1_readSources hn_cX1_readSources rfl rfl rfl
theorem dX1_readSources_37 : decode cX1_readSources 37 = .ok (.iload 4, 2) := qr_o21 4 hN_cX1_readSources hn_cX1_readSources rfl rfl rfl
theorem dX1_readSources_39 : decode cX1_readSources 39 = .ok (.aload_n 0, 1) := qr_o42 hN_cX1_readSources hn_cX1_readSources rfl rfl
theorem dX1_readSources_40 : decode cX1_readSources 40 = .ok (.getfield 26, 3) := qr_o180 0 26 hN_cX1_readSources hn_cX1_readSources rfl rfl rfl rfl
theorem dX1_readSources_43 : decode cX1_readSources 43 = .ok (.getfield 87, 3) := qr_o180 0 87 hN_cX1_readSources hn_cX1_readSources rfl rfl rfl rfl
theorem dX1_readSources_46 : decode cX1_readSources 46 = .ok (.if_icmp .ge 140, 3) := qr_o162 0 140 rfl hN_cX1_readSources hn_cX1_readSources rfl rfl rfl rfl
theorem dX1_readSources_49 : decode cX1_readSources 49 = .ok (.bipush (-2), 2) := qr_w16 254 2 rfl rfl hN_cX1_readSources hn_cX1_readSources rfl rfl rfl
theorem dX1_readSources_51 : decode cX1_readSources 51 = .ok (.istore 5, 2) := qr_o54 5 hN_cX1_readSources hn_cX1_readSources rfl rfl rfl
theorem dX1_readSources_53 : decode cX1_readSources 53 = .ok (.aload_n 0, 1) := qr_o42 hN_cX1_readSources hn_cX1_readSources rfl rfl
theorem dX1_readSources_54 : decode cX1_readSources 54 = .ok (.getfield 26, 3) := qr_o180 0 26 hN_cX1_readSources hn_cX1_readSources rfl rfl rfl rfl
theorem dX1_readSources_57 : decode cX1_readSources 57 = .ok (.iload 4, 2) := qr_o21 4 hN_cX1_readSources hn_cX1_readSources rfl rfl rfl
theorem dX1_readSources_59 : decode cX1_readSources 59 = .ok (.invokevirtual 79, 3) := qr_o182 0 79 hN_cX1_readSources hn_cX1_readSources rfl rfl rfl rfl
theorem dX1_readSources_62 : decode cX1_readSources 62 = .ok (.astore 6, 2) := qr_o58 6 hN_cX1_readSources hn_cX1_readSources rfl rfl rfl
theorem dX1_readSources_64 : decode cX1_readSources 64 = .ok (.iload_n 3, 1) := qr_o29 hN_cX1_readSources hn_cX1_readSources rfl rfl
theorem dX1_readSources_65 : decode cX1_readSources 65 = .ok (.ifCond .eq 54, 3) := qr_o153 0 54 rfl hN_cX1_readSources hn_cX1_readSources rfl rfl rfl rfl
theorem dX1_readSources_68 : decode cX1_readSources 68 = .ok (.aload 6, 2) := qr_o25 6 hN_cX1_readSources hn_cX1_readSources rfl rfl rfl
theorem dX1_readSources_70 : decode cX1_readSources 70 = .ok (.ifnull 49, 3) := qr_o198 0 49 rfl hN_cX1_readSources hn_cX1_readSources rfl rfl rfl rfl
theorem dX1_readSources_73 : decode cX1_readSources 73 = .ok (.aload 6, 2) := qr_o25 6 hN_cX1_readSources hn_cX1_readSources rfl rfl rfl
theorem dX1_readSources_75 : decode cX1_readSources 75 = .ok (.aload_n 1, 1) := qr_o43 hN_cX1_readSources hn_cX1_readSources rfl rfl
theorem dX1_readSources_76 : decode cX1_readSources 76 = .ok (.getfield 83, 3) := qr_o180 0 83 hN_cX1_readSources hn_cX1_readSources rfl rfl rfl rfl
theorem dX1_readSources_79 : decode cX1_readSources 79 = .ok (.if_acmp .eq 40, 3) := qr_o165 0 40 rfl hN_cX1_readSources hn_cX1_readSources rfl rfl rfl rfl
theorem dX1_readSources_82 : decode cX1_readSources 82 = .ok (.aload 6, 2) := qr_o25 6 hN_cX1_readSources hn_cX1_readSources rfl rfl rfl
theorem dX1_readSources_84 : decode cX1_readSources 84 = .ok (.aload_n 1, 1) := qr_o43 hN_cX1_readSources hn_cX1_readSources rfl rfl
theorem dX1_readSources_85 : decode cX1_readSources 85 = .ok (.getfield 90, 3) := qr_o180 0 90 hN_cX1_readSources hn_cX1_readSources rfl rfl rfl rfl
theorem dX1_readSources_88 : decode cX1_readSources 88 = .ok (.invokevirtual 93, 3) := qr_o182 0 93 hN_cX1_readSources hn_cX1_readSources rfl rfl rfl rfl
theorem dX1_readSources_91 : decode cX1_readSources 91 = .ok (.ifCond .eq 28, 3) := qr_o153 0 28 rfl hN_cX1_readSources hn_cX1_readSources rfl rfl rfl rfl
theorem dX1_readSources_94 : decode cX1_readSources 94 = .ok (.aload_n 0, 1) := qr_o42 hN_cX1_readSources hn_cX1_readSources rfl rfl
theorem dX1_readSources_95 : decode cX1_readSources 95 = .ok (.getfield 26, 3) := qr_o180 0 26 hN_cX1_readSources hn_cX1_readSources rfl rfl rfl rfl
theorem dX1_readSources_98 : decode cX1_readSources 98 = .ok (.aload 6, 2) := qr_o25 6 hN_cX1_readSources hn_cX1_readSources rfl rfl rfl
theorem dX1_readSources_100 : decode cX1_readSources 100 = .ok (.aload_n 1, 1) := qr_o43 hN_cX1_readSources hn_cX1_readSources rfl rfl
theorem dX1_readSources_101 : decode cX1_readSources 101 = .ok (.invokevirtual 99, 3) := qr_o182 0 99 hN_cX1_readSources hn_cX1_readSources rfl rfl rfl rfl
theorem dX1_readSources_104 : decode cX1_readSources 104 = .ok (.ifCond .eq 15, 3) := qr_o153 0 15 rfl hN_cX1_readSources hn_cX1_readSources rfl rfl rfl rfl
theorem dX1_readSources_107 : decode cX1_readSources 107 = .ok (.aload_n 0, 1) := qr_o42 hN_cX1_readSources hn_cX1_readSources rfl rfl
theorem dX1_readSources_108 : decode cX1_readSources 108 = .ok (.getfield 26, 3) := qr_o180 0 26 hN_cX1_readSources hn_cX1_readSources rfl rfl rfl rfl
theorem dX1_readSources_111 : decode cX1_readSources 111 = .ok (.aload 6, 2) := qr_o25 6 hN_cX1_readSources hn_cX1_readSources rfl rfl rfl
theorem dX1_readSources_113 : decode cX1_readSources 113 = .ok (.aload_n 1, 1) := qr_o43 hN_cX1_readSources hn_cX1_readSources rfl rfl
theorem dX1_readSources_114 : decode cX1_readSources 114 = .ok (.invokevirtual 103, 3) := qr_o182 0 103 hN_cX1_readSources hn_cX1_readSources rfl rfl rfl rfl
theorem dX1_readSources_117 : decode cX1_readSources 117 = .ok (.istore 5, 2) := qr_o54 5 hN_cX1_readSources hn_cX1_readSources rfl rfl rfl
theorem dX1_readSources_119 : decode cX1_readSources 119 = .ok (.aload_n 0, 1) := qr_o42 hN_cX1_readSources hn_cX1_readSources rfl rfl
theorem dX1_readSources_120 : decode cX1_readSources 120 = .ok (.getfield 26, 3) := qr_o180 0 26 hN_cX1_readSources hn_cX1_readSources rfl rfl rfl rfl
theorem dX1_readSources_123 : decode cX1_readSources 123 = .ok (.iload 5, 2) := qr_o21 5 hN_cX1_readSources hn_cX1_readSources rfl rfl rfl
theorem dX1_readSources_125 : decode cX1_readSources 125 = .ok (.invokevirtual 53, 3) := qr_o182 0 53 hN_cX1_readSources hn_cX1_readSources rfl rfl rfl rfl
theorem dX1_readSources_128 : decode cX1_readSources 128 = .ok (.astore 7, 2) := qr_o58 7 hN_cX1_readSources hn_cX1_readSources rfl rfl rfl
theorem dX1_readSources_130 : decode cX1_readSources 130 = .ok (.aload 7, 2) := qr_o25 7 hN_cX1_readSources hn_cX1_readSources rfl rfl rfl
theorem dX1_readSources_132 : decode cX1_readSources 132 = .ok (.ifnull 15, 3) := qr_o198 0 15 rfl hN_cX1_readSources hn_cX1_readSources rfl rfl rfl rfl
theorem dX1_readSources_135 : decode cX1_readSources 135 = .ok (.aload 7, 2) := qr_o25 7 hN_cX1_readSources hn_cX1_readSources rfl rfl rfl
theorem dX1_readSources_137 : decode cX1_readSources 137 = .ok (.invokevirtual 107, 3) := qr_o182 0 107 hN_cX1_readSources hn_cX1_readSources rfl rfl rfl rfl
theorem dX1_readSources_140 : decode cX1_readSources 140 = .ok (.ifCond .eq 7, 3) := qr_o153 0 7 rfl hN_cX1_readSources hn_cX1_readSources rfl rfl rfl rfl
theorem dX1_readSources_143 : decode cX1_readSources 143 = .ok (.bipush (-2), 2) := qr_w16 254 2 rfl rfl hN_cX1_readSources hn_cX1_readSources rfl rfl rfl
theorem dX1_readSources_145 : decode cX1_readSources 145 = .ok (.istore 5, 2) := qr_o54 5 hN_cX1_readSources hn_cX1_readSources rfl rfl rfl
theorem dX1_readSources_147 : decode cX1_readSources 147 = .ok (.iload 5, 2) := qr_o21 5 hN_cX1_readSources hn_cX1_readSources rfl rfl rfl
theorem dX1_readSources_149 : decode cX1_readSources 149 = .ok (.iconst (-1), 1) := qr_o2 hN_cX1_readSources hn_cX1_readSources rfl rfl
theorem dX1_readSources_150 : decode cX1_readSources 150 = .ok (.if_icmp .ne 13, 3) := qr_o160 0 13 rfl hN_cX1_readSources hn_cX1_readSources rfl rfl rfl rfl
theorem dX1_readSources_153 : decode cX1_readSources 153 = .ok (.aload_n 0, 1) := qr_o42 hN_cX1_readSources hn_cX1_readSources rfl rfl
theorem dX1_readSources_154 : decode cX1_readSources 154 = .ok (.getfield 17, 3) := qr_o180 0 17 hN_cX1_readSources hn_cX1_readSources rfl rfl rfl rfl
theorem dX1_readSources_157 : decode cX1_readSources 157 = .ok (.aload_n 1, 1) := qr_o43 hN_cX1_readSources hn_cX1_readSources rfl rfl
theorem dX1_readSources_158 : decode cX1_readSources 158 = .ok (.getfield 64, 3) := qr_o180 0 64 hN_cX1_readSources hn_cX1_readSources rfl rfl rfl rfl
theorem dX1_readSources_161 : decode cX1_readSources 161 = .ok (.iconst 0, 1) := qr_o3 hN_cX1_readSources hn_cX1_readSources rfl rfl
theorem dX1_readSources_162 : decode cX1_readSources 162 = .ok (.iastore, 1) := qr_o79 hN_cX1_readSources hn_cX1_readSources rfl rfl
theorem dX1_readSources_163 : decode cX1_readSources 163 = .ok (.aload_n 0, 1) := qr_o42 hN_cX1_readSources hn_cX1_readSources rfl rfl
theorem dX1_readSources_164 : decode cX1_readSources 164 = .ok (.getfield 11, 3) := qr_o180 0 11 hN_cX1_readSources hn_cX1_readSources rfl rfl rfl rfl
theorem dX1_readSources_167 : decode cX1_readSources 167 = .ok (.aload_n 1, 1) := qr_o43 hN_cX1_readSources hn_cX1_readSources rfl rfl
theorem dX1_readSources_168 : decode cX1_readSources 168 = .ok (.getfield 64, 3) := qr_o180 0 64 hN_cX1_readSources hn_cX1_readSources rfl rfl rfl rfl
theorem dX1_readSources_171 : decode cX1_readSources 171 = .ok (.bipush 24, 2) := qr_o16 24 rfl hN_cX1_readSources hn_cX1_readSources rfl rfl rfl
theorem dX1_readSources_173 : decode cX1_readSources 173 = .ok (.imul, 1) := qr_o104 hN_cX1_readSources hn_cX1_readSources rfl rfl
theorem dX1_readSources_174 : decode cX1_readSources 174 = .ok (.iload 4, 2) := qr_o21 4 hN_cX1_readSources hn_cX1_readSources rfl rfl rfl
theorem dX1_readSources_176 : decode cX1_readSources 176 = .ok (.iadd, 1) := qr_o96 hN_cX1_readSources hn_cX1_readSources rfl rfl
theorem dX1_readSources_177 : decode cX1_readSources 177 = .ok (.iload 5, 2) := qr_o21 5 hN_cX1_readSources hn_cX1_readSources rfl rfl rfl
theorem dX1_readSources_179 : decode cX1_readSources 179 = .ok (.iastore, 1) := qr_o79 hN_cX1_readSources hn_cX1_readSources rfl rfl
theorem dX1_readSources_180 : decode cX1_readSources 180 = .ok (.iinc 4 1, 3) := qr_o132 4 1 rfl hN_cX1_readSources hn_cX1_readSources rfl rfl rfl rfl
theorem dX1_readSources_183 : decode cX1_readSources 183 = .ok (.goto (-146), 3) := qr_w167 255 110 146 rfl rfl hN_cX1_readSources hn_cX1_readSources rfl rfl rfl rfl
theorem dX1_readSources_186 : decode cX1_readSources 186 = .ok (.return_, 1) := qr_o177 hN_cX1_readSources hn_cX1_readSources rfl rfl
def nN_cX1_sourceOf : Nat := 0xacfe100500a72e1d0b00b42a0c00a2be0b00b42a1d15009b1d3e601c6818101b
theorem hN_cX1_sourceOf : qr_n cX1_sourceOf.data.toList = nN_cX1_sourceOf := by decide +kernel
theorem hn_cX1_sourceOf : cX1_sourceOf.size = 32 := by decide +kernel
theorem dX1_sourceOf_0 : decode cX1_sourceOf 0 = .ok (.iload_n 1, 1) := qr_o27 hN_cX1_sourceOf hn_cX1_sourceOf rfl rfl
theorem dX1_sourceOf_1 : decode cX1_sourceOf 1 = .ok (.bipush 24, 2) := qr_o16 24 rfl hN_cX1_sourceOf hn_cX1_sourceOf rfl rfl rfl
theorem dX1_sourceOf_3 : decode cX1_sourceOf 3 = .ok (.imul, 1) := qr_o104 hN_cX1_sourceOf hn_cX1_sourceOf rfl rfl
theorem dX1_sourceOf_4 : decode cX1_sourceOf 4 = .ok (.iload_n 2, 1) := qr_o28 hN_cX1_sourceOf hn_cX1_sourceOf rfl rfl
theorem dX1_sourceOf_5 : decode cX1_sourceOf 5 = .ok (.iadd, 1) := qr_o96 hN_cX1_sourceOf hn_cX1_sourceOf rfl rfl
theorem dX1_sourceOf_6 : decode cX1_sourceOf 6 = .ok (.istore_n 3, 1) := qr_o62 hN_cX1_sourceOf hn_cX1_sourceOf rfl rfl
theorem dX1_sourceOf_7 : decode cX1_sourceOf 7 = .ok (.iload_n 3, 1) := qr_o29 hN_cX1_sourceOf hn_cX1_sourceOf rfl rfl
theorem dX1_sourceOf_8 : decode cX1_sourceOf 8 = .ok (.ifCond .lt 21, 3) := qr_o155 0 21 rfl hN_cX1_sourceOf hn_cX1_sourceOf rfl rfl rfl rfl
theorem dX1_sourceOf_11 : decode cX1_sourceOf 11 = .ok (.iload_n 3, 1) := qr_o29 hN_cX1_sourceOf hn_cX1_sourceOf rfl rfl
theorem dX1_sourceOf_12 : decode cX1_sourceOf 12 = .ok (.aload_n 0, 1) := qr_o42 hN_cX1_sourceOf hn_cX1_sourceOf rfl rfl
theorem dX1_sourceOf_13 : decode cX1_sourceOf 13 = .ok (.getfield 11, 3) := qr_o180 0 11 hN_cX1_sourceOf hn_cX1_sourceOf rfl rfl rfl rfl
theorem dX1_sourceOf_16 : decode cX1_sourceOf 16 = .ok (.arraylength, 1) := qr_o190 hN_cX1_sourceOf hn_cX1_sourceOf rfl rfl
theorem dX1_sourceOf_17 : decode cX1_sourceOf 17 = .ok (.if_icmp .ge 12, 3) := qr_o162 0 12 rfl hN_cX1_sourceOf hn_cX1_sourceOf rfl rfl rfl rfl
theorem dX1_sourceOf_20 : decode cX1_sourceOf 20 = .ok (.aload_n 0, 1) := qr_o42 hN_cX1_sourceOf hn_cX1_sourceOf rfl rfl
theorem dX1_sourceOf_21 : decode cX1_sourceOf 21 = .ok (.getfield 11, 3) := qr_o180 0 11 hN_cX1_sourceOf hn_cX1_sourceOf rfl rfl rfl rfl
theorem dX1_sourceOf_24 : decode cX1_sourceOf 24 = .ok (.iload_n 3, 1) := qr_o29 hN_cX1_sourceOf hn_cX1_sourceOf rfl rfl
theorem dX1_sourceOf_25 : decode cX1_sourceOf 25 = .ok (.iaload, 1) := qr_o46 hN_cX1_sourceOf hn_cX1_sourceOf rfl rfl
theorem dX1_sourceOf_26 : decode cX1_sourceOf 26 = .ok (.goto 5, 3) := qr_o167 0 5 rfl hN_cX1_sourceOf hn_cX1_sourceOf rfl rfl rfl rfl
theorem dX1_sourceOf_29 : decode cX1_sourceOf 29 = .ok (.bipush (-2), 2) := qr_w16 254 2 rfl rfl hN_cX1_sourceOf hn_cX1_sourceOf rfl rfl rfl
theorem dX1_sourceOf_31 : decode cX1_sourceOf 31 = .ok (.ireturn, 1) := qr_o172 hN_cX1_sourceOf hn_cX1_sourceOf rfl rfl
def nN_cX1_nearestOf : Nat := 0xac63100500a72e1b1100b42a0c00a2be1100b42a1b15009b1b
theorem hN_cX1_nearestOf : qr_n cX1_nearestOf.data.toList = nN_cX1_nearestOf := by decide +kernel
theorem hn_cX1_nearestOf : cX1_nearestOf.size = 25 := by decide +kernel
theorem dX1_nearestOf_0 : decode cX1_nearestOf 0 = .ok (.iload_n 1, 1) := qr_o27 hN_cX1_nearestOf hn_cX1_nearestOf rfl rfl
theorem dX1_nearestOf_1 : decode cX1_nearestOf 1 = .ok (.ifCond .lt 21, 3) := qr_o155 0 21 rfl hN_cX1_nearestOf hn_cX1_nearestOf rfl rfl rfl rfl
theorem dX1_nearestOf_4 : decode cX1_nearestOf 4 = .ok (.iload_n 1, 1) := qr_o27 hN_cX1_nearestOf hn_cX1_nearestOf rfl rfl
theorem dX1_nearestOf_5 : decode cX1_nearestOf 5 = .ok (.aload_n 0, 1) := qr_o42 hN_cX1_nearestOf hn_cX1_nearestOf rfl rfl
theorem dX1_nearestOf_6 : decode cX1_nearestOf 6 = .ok (.getfield 17, 3) := qr_o180 0 17 hN_cX1_nearestOf hn_cX1_nearestOf rfl rfl rfl rfl
theorem dX1_nearestOf_9 : decode cX1_nearestOf 9 = .ok (.arraylength, 1) := qr_o190 hN_cX1_nearestOf hn_cX1_nearestOf rfl rfl
theorem dX1_nearestOf_10 : decode cX1_nearestOf 10 = .ok (.if_icmp .ge 12, 3) := qr_o162 0 12 rfl hN_cX1_nearestOf hn_cX1_nearestOf rfl rfl rfl rfl
theorem dX1_nearestOf_13 : decode cX1_nearestOf 13 = .ok (.aload_n 0, 1) := qr_o42 hN_cX1_nearestOf hn_cX1_nearestOf rfl rfl
theorem dX1_nearestOf_14 : decode cX1_nearestOf 14 = .ok (.getfield 17, 3) := qr_o180 0 17 hN_cX1_nearestOf hn_cX1_nearestOf rfl rfl rfl rfl
theorem dX1_nearestOf_17 : decode cX1_nearestOf 17 = .ok (.iload_n 1, 1) := qr_o27 hN_cX1_nearestOf hn_cX1_nearestOf rfl rfl
theorem dX1_nearestOf_18 : decode cX1_nearestOf 18 = .ok (.iaload, 1) := qr_o46 hN_cX1_nearestOf hn_cX1_nearestOf rfl rfl
theorem dX1_nearestOf_19 : decode cX1_nearestOf 19 = .ok (.goto 5, 3) := qr_o167 0 5 rfl hN_cX1_nearestOf hn_cX1_nearestOf rfl rfl rfl rfl
theorem dX1_nearestOf_22 : decode cX1_nearestOf 22 = .ok (.bipush 99, 2) := qr_o16 99 rfl hN_cX1_nearestOf hn_cX1_nearestOf rfl rfl rfl
theorem dX1_nearestOf_24 : decode cX1_nearestOf 24 = .ok (.ireturn, 1) := qr_o172 hN_cX1_nearestOf hn_cX1_nearestOf rfl rfl
def nN_cX1_spreadNearest : Nat := 0xb1c2ffa7010184d5ffa70102844f1d1b1100b42a0a00a27200b61b2a1d3e60047200b66f00b61c1b2a2a2600a25700b41a00b42a1c3d033900a23200b41a00b42a1b3c03
theorem hN_cX1_spreadNearest : qr_n cX1_spreadNearest.data.toList = nN_cX1_spreadNearest := by decide +kernel
theorem hn_cX1_spreadNearest : cX1_spreadNearest.size = 68 := by decide +kernel
theorem dX1_spreadNearest_0 : decode cX1_spreadNearest 0 = .ok (.iconst 0, 1) := qr_o3 hN_cX1_spreadNearest hn_cX1_spreadNearest rfl rfl
theorem dX1_spreadNearest_1 : decode cX1_spreadNearest 1 = .ok (.istore_n 1, 1) := qr_o60 hN_cX1_spreadNearest hn_cX1_spreadNearest rfl rfl
theorem dX1_spreadNearest_2 : decode cX1_spreadNearest 2 = .ok (.iload_n 1, 1) := qr_o27 hN_cX1_spreadNearest hn_cX1_spreadNearest rfl rfl
theorem dX1_spreadNearest_3 : decode cX1_spreadNearest 3 = .ok (.aload_n 0, 1) := qr_o42 hN_cX1_spreadNearest hn_cX1_spreadNearest rfl rfl
theorem dX1_spreadNearest_4 : decode cX1_spreadNearest 4 = .ok (.getfield 26, 3) := qr_o180 0 26 hN_cX1_spreadNearest hn_cX1_spreadNearest rfl rfl rfl rfl
theorem dX1_spreadNearest_7 : decode cX1_spreadNearest 7 = .ok (.getfield 50, 3) := qr_o180 0 50 hN_cX1_spreadNearest hn_cX1_spreadNearest rfl rfl rfl rfl
theorem dX1_spreadNearest_10 : decode cX1_spreadNearest 10 = .ok (.if_icmp .ge 57, 3) := qr_o162 0 57 rfl hN_cX1_spreadNearest hn_cX1_spreadNearest rfl rfl rfl rfl
theorem dX1_spreadNearest_13 : decode cX1_spreadNearest 13 = .ok (.iconst 0, 1) := qr_o3 hN_cX1_spreadNearest hn_cX1_spreadNearest rfl rfl
theorem dX1_spreadNearest_14 : decode cX1_spreadNearest 14 = .ok (.istore_n 2, 1) := qr_o61 hN_cX1_spreadNearest hn_cX1_spreadNearest rfl rfl
theorem dX1_spreadNearest_15 : decode cX1_spreadNearest 15 = .ok (.iload_n 2, 1) := qr_o28 hN_cX1_spreadNearest hn_cX1_spreadNearest rfl rfl
theorem dX1_spreadNearest_16 : decode cX1_spreadNearest 16 = .ok (.aload_n 0, 1) := qr_o42 hN_cX1_spreadNearest hn_cX1_spreadNearest rfl rfl
theorem dX1_spreadNearest_17 : decode cX1_spreadNearest 17 = .ok (.getfield 26, 3) := qr_o180 0 26 hN_cX1_spreadNearest hn_cX1_spreadNearest rfl rfl rfl rfl
theorem dX1_spreadNearest_20 : decode cX1_spreadNearest 20 = .ok (.getfield 87, 3) := qr_o180 0 87 hN_cX1_spreadNearest hn_cX1_spreadNearest rfl rfl rfl rfl
theorem dX1_spreadNearest_23 : decode cX1_spreadNearest 23 = .ok (.if_icmp .ge 38, 3) := qr_o162 0 38 rfl hN_cX1_spreadNearest hn_cX1_spreadNearest rfl rfl rfl rfl
theorem dX1_spreadNearest_26 : decode cX1_spreadNearest 26 = .ok (.aload_n 0, 1) := qr_o42 hN_cX1_spreadNearest hn_cX1_spreadNearest rfl rfl
theorem dX1_spreadNearest_27 : decode cX1_spreadNearest 27 = .ok (.aload_n 0, 1) := qr_o42 hN_cX1_spreadNearest hn_cX1_spreadNearest rfl rfl
theorem dX1_spreadNearest_28 : decode cX1_spreadNearest 28 = .ok (.iload_n 1, 1) := qr_o27 hN_cX1_spreadNearest hn_cX1_spreadNearest rfl rfl
theorem dX1_spreadNearest_29 : decode cX1_spreadNearest 29 = .ok (.iload_n 2, 1) := qr_o28 hN_cX1_spreadNearest hn_cX1_spreadNearest rfl rfl
theorem dX1_spreadNearest_30 : decode cX1_spreadNearest 30 = .ok (.invokevirtual 111, 3) := qr_o182 0 111 hN_cX1_spreadNearest hn_cX1_spreadNearest rfl rfl rfl rfl
theorem dX1_spreadNearest_33 : decode cX1_spreadNearest 33 = .ok (.invokevirtual 114, 3) := qr_o182 0 114 hN_cX1_spreadNearest hn_cX1_spreadNearest rfl rfl rfl rfl
theorem dX1_spreadNearest_36 : decode cX1_spreadNearest 36 = .ok (.iconst 1, 1) := qr_o4 hN_cX1_spreadNearest hn_cX1_spreadNearest rfl rfl
theorem dX1_spreadNearest_37 : decode cX1_spreadNearest 37 = .ok (.iadd, 1) := qr_o96 hN_cX1_spreadNearest hn_cX1_spreadNearest rfl rfl
theorem dX1_spreadNearest_38 : decode cX1_spreadNearest 38 = .ok (.istore_n 3, 1) := qr_o62 hN_cX1_spreadNearest hn_cX1_spreadNearest rfl rfl
theorem dX1_spreadNearest_39 : decode cX1_spreadNearest 39 = .ok (.iload_n 3, 1) := qr_o29 hN_cX1_spreadNearest hn_cX1_spreadNearest rfl rfl
theorem dX1_spreadNearest_40 : decode cX1_spreadNearest 40 = .ok (.aload_n 0, 1) := qr_o42 hN_cX1_spreadNearest hn_cX1_spreadNearest rfl rfl
theorem dX1_spreadNearest_41 : decode cX1_spreadNearest 41 = .ok (.iload_n 1, 1) := qr_o27 hN_cX1_spreadNearest hn_cX1_spreadNearest rfl rfl
theorem dX1_spreadNearest_42 : decode cX1_spreadNearest 42 = .ok (.invokevirtual 114, 3) := qr_o182 0 114 hN_cX1_spreadNearest hn_cX1_spreadNearest rfl rfl rfl rfl
theorem dX1_spreadNearest_45 : decode cX1_spreadNearest 45 = .ok (.if_icmp .ge 10, 3) := qr_o162 0 10 rfl hN_cX1_spreadNearest hn_cX1_spreadNearest rfl rfl rfl rfl
theorem dX1_spreadNearest_48 : decode cX1_spreadNearest 48 = .ok (.aload_n 0, 1) := qr_o42 hN_cX1_spreadNearest hn_cX1_spreadNearest rfl rfl
theorem dX1_spreadNearest_49 : decode cX1_spreadNearest 49 = .ok (.getfield 17, 3) := qr_o180 0 17 hN_cX1_spreadNearest hn_cX1_spreadNearest rfl rfl rfl rfl
theorem dX1_spreadNearest_52 : decode cX1_spreadNearest 52 = .ok (.iload_n 1, 1) := qr_o27 hN_cX1_spreadNearest hn_cX1_spreadNearest rfl rfl
theorem dX1_spreadNearest_53 : decode cX1_spreadNearest 53 = .ok (.iload_n 3, 1) := qr_o29 hN_cX1_spreadNearest hn_cX1_spreadNearest rfl rfl
theorem dX1_spreadNearest_54 : decode cX1_spreadNearest 54 = .ok (.iastore, 1) := qr_o79 hN_cX1_spreadNearest hn_cX1_spreadNearest rfl rfl
theorem dX1_spreadNearest_55 : decode cX1_spreadNearest 55 = .ok (.iinc 2 1, 3) := qr_o132 2 1 rfl hN_cX1_spreadNearest hn_cX1_spreadNearest rfl rfl rfl rfl
theorem dX1_spreadNearest_58 : decode cX1_spreadNearest 58 = .ok (.goto (-43), 3) := qr_w167 255 213 43 rfl rfl hN_cX1_spreadNearest hn_cX1_spreadNearest rfl rfl rfl rfl
theorem dX1_spreadNearest_61 : decode cX1_spreadNearest 61 = .ok (.iinc 1 1, 3) := qr_o132 1 1 rfl hN_cX1_spreadNearest hn_cX1_spreadNearest rfl rfl rfl rfl
theorem dX1_spreadNearest_64 : decode cX1_spreadNearest 64 = .ok (.goto (-62), 3) := qr_w167 255 194 62 rfl rfl hN_cX1_spreadNearest hn_cX1_spreadNearest rfl rfl rfl rfl
theorem dX1_spreadNearest_67 : decode cX1_spreadNearest 67 = .ok (.return_, 1) := qr_o177 hN_cX1_spreadNearest hn_cX1_spreadNearest rfl rfl
def nN_cX1_follow : Nat := 0xac038fffa7010484ac040500994500b864041c60041b2a4f051560041b1400b42a0d00a20760041bac0405009a1c4f04151b1700b42a3100a70600997500b61b04152a3e00a0030400a70407009a1c030400a7040700a002051555009ffe10051505366f00b604151d2a6b00a25700b41a00b42a04150436033e2e1b1400b42aac030500a41c7200b62e1b1400b42a2a1100a2071b
theorem hN_cX1_follow : qr_n cX1_follow.data.toList = nN_cX1_follow := by decide +kernel
theorem hn_cX1_follow : cX1_follow.size = 149 := by decide +kernel
theorem dX1_follow_0 : decode cX1_follow 0 = .ok (.iload_n 1, 1) := qr_o27 hN_cX1_follow hn_cX1_follow rfl rfl
theorem dX1_follow_1 : decode cX1_follow 1 = .ok (.iconst 4, 1) := qr_o7 hN_cX1_follow hn_cX1_follow rfl rfl
theorem dX1_follow_2 : decode cX1_follow 2 = .ok (.if_icmp .ge 17, 3) := qr_o162 0 17 rfl hN_cX1_follow hn_cX1_follow rfl rfl rfl rfl
theorem dX1_follow_5 : decode cX1_follow 5 = .ok (.aload_n 0, 1) := qr_o42 hN_cX1_follow hn_cX1_follow rfl rfl
theorem dX1_follow_6 : decode cX1_follow 6 = .ok (.aload_n 0, 1) := qr_o42 hN_cX1_follow hn_cX1_follow rfl rfl
theorem dX1_follow_7 : decode cX1_follow 7 = .ok (.getfield 20, 3) := qr_o180 0 20 hN_cX1_follow hn_cX1_follow rfl rfl rfl rfl
theorem dX1_follow_10 : decode cX1_follow 10 = .ok (.iload_n 1, 1) := qr_o27 hN_cX1_follow hn_cX1_follow rfl rfl
theorem dX1_follow_11 : decode cX1_follow 11 = .ok (.iaload, 1) := qr_o46 hN_cX1_follow hn_cX1_follow rfl rfl
theorem dX1_follow_12 : decode cX1_follow 12 = .ok (.invokevirtual 114, 3) := qr_o182 0 114 hN_cX1_follow hn_cX1_follow rfl rfl rfl rfl
theorem dX1_follow_15 : decode cX1_follow 15 = .ok (.iload_n 2, 1) := qr_o28 hN_cX1_follow hn_cX1_follow rfl rfl
theorem dX1_follow_16 : decode cX1_follow 16 = .ok (.if_icmp .le 5, 3) := qr_o164 0 5 rfl hN_cX1_follow hn_cX1_follow rfl rfl rfl rfl
theorem dX1_follow_19 : decode cX1_follow 19 = .ok (.iconst 0, 1) := qr_o3 hN_cX1_follow hn_cX1_follow rfl rfl
theorem dX1_follow_20 : decode cX1_follow 20 = .ok (.ireturn, 1) := qr_o172 hN_cX1_follow hn_cX1_follow rfl rfl
theorem dX1_follow_21 : decode cX1_follow 21 = .ok (.aload_n 0, 1) := qr_o42 hN_cX1_follow hn_cX1_follow rfl rfl
theorem dX1_follow_22 : decode cX1_follow 22 = .ok (.getfield 20, 3) := qr_o180 0 20 hN_cX1_follow hn_cX1_follow rfl rfl rfl rfl
theorem dX1_follow_25 : decode cX1_follow 25 = .ok (.iload_n 1, 1) := qr_o27 hN_cX1_follow hn_cX1_follow rfl rfl
theorem dX1_follow_26 : decode cX1_follow 26 = .ok (.iaload, 1) := qr_o46 hN_cX1_follow hn_cX1_follow rfl rfl
theorem dX1_follow_27 : decode cX1_follow 27 = .ok (.istore_n 3, 1) := qr_o62 hN_cX1_follow hn_cX1_follow rfl rfl
theorem dX1_follow_28 : decode cX1_follow 28 = .ok (.iconst 0, 1) := qr_o3 hN_cX1_follow hn_cX1_follow rfl rfl
theorem dX1_follow_29 : decode cX1_follow 29 = .ok (.istore 4, 2) := qr_o54 4 hN_cX1_follow hn_cX1_follow rfl rfl rfl
theorem dX1_follow_31 : decode cX1_follow 31 = .ok (.iload 4, 2) := qr_o21 4 hN_cX1_follow hn_cX1_follow rfl rfl rfl
theorem dX1_follow_33 : decode cX1_follow 33 = .ok (.aload_n 0, 1) := qr_o42 hN_cX1_follow hn_cX1_follow rfl rfl
theorem dX1_follow_34 : decode cX1_follow 34 = .ok (.getfield 26, 3) := qr_o180 0 26 hN_cX1_follow hn_cX1_follow rfl rfl rfl rfl
theorem dX1_follow_37 : decode cX1_follow 37 = .ok (.getfield 87, 3) := qr_o180 0 87 hN_cX1_follow hn_cX1_follow rfl rfl rfl rfl
theorem dX1_follow_40 : decode cX1_follow 40 = .ok (.if_icmp .ge 107, 3) := qr_o162 0 107 rfl hN_cX1_follow hn_cX1_follow rfl rfl rfl rfl
theorem dX1_follow_43 : decode cX1_follow 43 = .ok (.aload_n 0, 1) := qr_o42 hN_cX1_follow hn_cX1_follow rfl rfl
theorem dX1_follow_44 : decode cX1_follow 44 = .ok (.iload_n 3, 1) := qr_o29 hN_cX1_follow hn_cX1_follow rfl rfl
theorem dX1_follow_45 : decode cX1_follow 45 = .ok (.iload 4, 2) := qr_o21 4 hN_cX1_follow hn_cX1_follow rfl rfl rfl
theorem dX1_follow_47 : decode cX1_follow 47 = .ok (.invokevirtual 111, 3) := qr_o182 0 111 hN_cX1_follow hn_cX1_follow rfl rfl rfl rfl
theorem dX1_follow_50 : decode cX1_follow 50 = .ok (.istore 5, 2) := qr_o54 5 hN_cX1_follow hn_cX1_follow rfl rfl rfl
theorem dX1_follow_52 : decode cX1_follow 52 = .ok (.iload 5, 2) := qr_o21 5 hN_cX1_follow hn_cX1_follow rfl rfl rfl
theorem dX1_follow_54 : decode cX1_follow 54 = .ok (.bipush (-2), 2) := qr_w16 254 2 rfl rfl hN_cX1_follow hn_cX1_follow rfl rfl rfl
theorem dX1_follow_56 : decode cX1_follow 56 = .ok (.if_icmp .eq 85, 3) := qr_o159 0 85 rfl hN_cX1_follow hn_cX1_follow rfl rfl rfl rfl
theorem dX1_follow_59 : decode cX1_follow 59 = .ok (.iload 5, 2) := qr_o21 5 hN_cX1_follow hn_cX1_follow rfl rfl rfl
theorem dX1_follow_61 : decode cX1_follow 61 = .ok (.iconst (-1), 1) := qr_o2 hN_cX1_follow hn_cX1_follow rfl rfl
theorem dX1_follow_62 : decode cX1_follow 62 = .ok (.if_icmp .ne 7, 3) := qr_o160 0 7 rfl hN_cX1_follow hn_cX1_follow rfl rfl rfl rfl
theorem dX1_follow_65 : decode cX1_follow 65 = .ok (.iconst 1, 1) := qr_o4 hN_cX1_follow hn_cX1_follow rfl rfl
theorem dX1_follow_66 : decode cX1_follow 66 = .ok (.goto 4, 3) := qr_o167 0 4 rfl hN_cX1_follow hn_cX1_follow rfl rfl rfl rfl
theorem dX1_follow_69 : decode cX1_follow 69 = .ok (.iconst 0, 1) := qr_o3 hN_cX1_follow hn_cX1_follow rfl rfl
theorem dX1_follow_70 : decode cX1_follow 70 = .ok (.iload_n 2, 1) := qr_o28 hN_cX1_follow hn_cX1_follow rfl rfl
theorem dX1_follow_71 : decode cX1_follow 71 = .ok (.ifCond .ne 7, 3) := qr_o154 0 7 rfl hN_cX1_follow hn_cX1_follow rfl rfl rfl rfl
theorem dX1_follow_74 : decode cX1_follow 74 = .ok (.iconst 1, 1) := qr_o4 hN_cX1_follow hn_cX1_follow rfl rfl
theorem dX1_follow_75 : decode cX1_follow 75 = .ok (.goto 4, 3) := qr_o167 0 4 rfl hN_cX1_follow hn_cX1_follow rfl rfl rfl rfl
theorem dX1_follow_78 : decode cX1_follow 78 = .ok (.iconst 0, 1) := qr_o3 hN_cX1_follow hn_cX1_follow rfl rfl
theorem dX1_follow_79 : decode cX1_follow 79 = .ok (.if_icmp .ne 62, 3) := qr_o160 0 62 rfl hN_cX1_follow hn_cX1_follow rfl rfl rfl rfl
theorem dX1_follow_82 : decode cX1_follow 82 = .ok (.aload_n 0, 1) := qr_o42 hN_cX1_follow hn_cX1_follow rfl rfl
theorem dX1_follow_83 : decode cX1_follow 83 = .ok (.iload 4, 2) := qr_o21 4 hN_cX1_follow hn_cX1_follow rfl rfl rfl
theorem dX1_follow_85 : decode cX1_follow 85 = .ok (.iload_n 1, 1) := qr_o27 hN_cX1_follow hn_cX1_follow rfl rfl
theorem dX1_follow_86 : decode cX1_follow 86 = .ok (.invokevirtual 117, 3) := qr_o182 0 117 hN_cX1_follow hn_cX1_follow rfl rfl rfl rfl
theorem dX1_follow_89 : decode cX1_follow 89 = .ok (.ifCond .eq 6, 3) := qr_o153 0 6 rfl hN_cX1_follow hn_cX1_follow rfl rfl rfl rfl
theorem dX1_follow_92 : decode cX1_follow 92 = .ok (.goto 49, 3) := qr_o167 0 49 rfl hN_cX1_follow hn_cX1_follow rfl rfl rfl rfl
theorem dX1_follow_95 : decode cX1_follow 95 = .ok (.aload_n 0, 1) := qr_o42 hN_cX1_follow hn_cX1_follow rfl rfl
theorem dX1_follow_96 : decode cX1_follow 96 = .ok (.getfield 23, 3) := qr_o180 0 23 hN_cX1_follow hn_cX1_follow rfl rfl rfl rfl
theorem dX1_follow_99 : decode cX1_follow 99 = .ok (.iload_n 1, 1) := qr_o27 hN_cX1_follow hn_cX1_follow rfl rfl
theorem dX1_follow_100 : decode cX1_follow 100 = .ok (.iload 4, 2) := qr_o21 4 hN_cX1_follow hn_cX1_follow rfl rfl rfl
theorem dX1_follow_102 : decode cX1_follow 102 = .ok (.iastore, 1) := qr_o79 hN_cX1_follow hn_cX1_follow rfl rfl
theorem dX1_follow_103 : decode cX1_follow 103 = .ok (.iload_n 2, 1) := qr_o28 hN_cX1_follow hn_cX1_follow rfl rfl
theorem dX1_follow_104 : decode cX1_follow 104 = .ok (.ifCond .ne 5, 3) := qr_o154 0 5 rfl hN_cX1_follow hn_cX1_follow rfl rfl rfl rfl
theorem dX1_follow_107 : decode cX1_follow 107 = .ok (.iconst 1, 1) := qr_o4 hN_cX1_follow hn_cX1_follow rfl rfl
theorem dX1_follow_108 : decode cX1_follow 108 = .ok (.ireturn, 1) := qr_o172 hN_cX1_follow hn_cX1_follow rfl rfl
theorem dX1_follow_109 : decode cX1_follow 109 = .ok (.iload_n 1, 1) := qr_o27 hN_cX1_follow hn_cX1_follow rfl rfl
theorem dX1_follow_110 : decode cX1_follow 110 = .ok (.iconst 1, 1) := qr_o4 hN_cX1_follow hn_cX1_follow rfl rfl
theorem dX1_follow_111 : decode cX1_follow 111 = .ok (.iadd, 1) := qr_o96 hN_cX1_follow hn_cX1_follow rfl rfl
theorem dX1_follow_112 : decode cX1_follow 112 = .ok (.iconst 4, 1) := qr_o7 hN_cX1_follow hn_cX1_follow rfl rfl
theorem dX1_follow_113 : decode cX1_follow 113 = .ok (.if_icmp .ge 13, 3) := qr_o162 0 13 rfl hN_cX1_follow hn_cX1_follow rfl rfl rfl rfl
theorem dX1_follow_116 : decode cX1_follow 116 = .ok (.aload_n 0, 1) := qr_o42 hN_cX1_follow hn_cX1_follow rfl rfl
theorem dX1_follow_117 : decode cX1_follow 117 = .ok (.getfield 20, 3) := qr_o180 0 20 hN_cX1_follow hn_cX1_follow rfl rfl rfl rfl
theorem dX1_follow_120 : decode cX1_follow 120 = .ok (.iload_n 1, 1) := qr_o27 hN_cX1_follow hn_cX1_follow rfl rfl
theorem dX1_follow_121 : decode cX1_follow 121 = .ok (.iconst 1, 1) := qr_o4 hN_cX1_follow hn_cX1_follow rfl rfl
theorem dX1_follow_122 : decode cX1_follow 122 = .ok (.iadd, 1) := qr_o96 hN_cX1_follow hn_cX1_follow rfl rfl
theorem dX1_follow_123 : decode cX1_follow 123 = .ok (.iload 5, 2) := qr_o21 5 hN_cX1_follow hn_cX1_follow rfl rfl rfl
theorem dX1_follow_125 : decode cX1_follow 125 = .ok (.iastore, 1) := qr_o79 hN_cX1_follow hn_cX1_follow rfl rfl
theorem dX1_follow_126 : decode cX1_follow 126 = .ok (.aload_n 0, 1) := qr_o42 hN_cX1_follow hn_cX1_follow rfl rfl
theorem dX1_follow_127 : decode cX1_follow 127 = .ok (.iload_n 1, 1) := qr_o27 hN_cX1_follow hn_cX1_follow rfl rfl
theorem dX1_follow_128 : decode cX1_follow 128 = .ok (.iconst 1, 1) := qr_o4 hN_cX1_follow hn_cX1_follow rfl rfl
theorem dX1_follow_129 : decode cX1_follow 129 = .ok (.iadd, 1) := qr_o96 hN_cX1_follow hn_cX1_follow rfl rfl
theorem dX1_follow_130 : decode cX1_follow 130 = .ok (.iload_n 2, 1) := qr_o28 hN_cX1_follow hn_cX1_follow rfl rfl
theorem dX1_follow_131 : decode cX1_follow 131 = .ok (.iconst 1, 1) := qr_o4 hN_cX1_follow hn_cX1_follow rfl rfl
theorem dX1_follow_132 : decode cX1_follow 132 = .ok (.isub, 1) := qr_o100 hN_cX1_follow hn_cX1_follow rfl rfl
theorem dX1_follow_133 : decode cX1_follow 133 = .ok (.invokestatic 69, 3) := qr_o184 0 69 hN_cX1_follow hn_cX1_follow rfl rfl rfl rfl
theorem dX1_follow_136 : decode cX1_follow 136 = .ok (.ifCond .eq 5, 3) := qr_o153 0 5 rfl hN_cX1_follow hn_cX1_follow rfl rfl rfl rfl
theorem dX1_follow_139 : decode cX1_follow 139 = .ok (.iconst 1, 1) := qr_o4 hN_cX1_follow hn_cX1_follow rfl rfl
theorem dX1_follow_140 : decode cX1_follow 140 = .ok (.ireturn, 1) := qr_o172 hN_cX1_follow hn_cX1_follow rfl rfl
theorem dX1_follow_141 : decode cX1_follow 141 = .ok (.iinc 4 1, 3) := qr_o132 4 1 rfl hN_cX1_follow hn_cX1_follow rfl rfl rfl rfl
theorem dX1_follow_144 : decode cX1_follow 144 = .ok (.goto (-113), 3) := qr_w167 255 143 113 rfl rfl hN_cX1_follow hn_cX1_follow rfl rfl rfl rfl
theorem dX1_follow_147 : decode cX1_follow 147 = .ok (.iconst 0, 1) := qr_o3 hN_cX1_follow hn_cX1_follow rfl rfl
theorem dX1_follow_148 : decode cX1_follow 148 = .ok (.ireturn, 1) := qr_o172 hN_cX1_follow hn_cX1_follow rfl rfl
def nN_cX1_isTakenAhead : Nat := 0xac03e7ffa7010384ac040500a01b2e1d1700b42a1500a2071d1a00a21c1d3e03
theorem hN_cX1_isTakenAhead : qr_n cX1_isTakenAhead.data.toList = nN_cX1_isTakenAhead := by decide +kernel
theorem hn_cX1_isTakenAhead : cX1_isTakenAhead.size = 32 := by decide +kernel
theorem dX1_isTakenAhead_0 : decode cX1_isTakenAhead 0 = .ok (.iconst 0, 1) := qr_o3 hN_cX1_isTakenAhead hn_cX1_isTakenAhead rfl rfl
theorem dX1_isTakenAhead_1 : decode cX1_isTakenAhead 1 = .ok (.istore_n 3, 1) := qr_o62 hN_cX1_isTakenAhead hn_cX1_isTakenAhead rfl rfl
theorem dX1_isTakenAhead_2 : decode cX1_isTakenAhead 2 = .ok (.iload_n 3, 1) := qr_o29 hN_cX1_isTakenAhead hn_cX1_isTakenAhead rfl rfl
theorem dX1_isTakenAhead_3 : decode cX1_isTakenAhead 3 = .ok (.iload_n 2, 1) := qr_o28 hN_cX1_isTakenAhead hn_cX1_isTakenAhead rfl rfl
theorem dX1_isTakenAhead_4 : decode cX1_isTakenAhead 4 = .ok (.if_icmp .ge 26, 3) := qr_o162 0 26 rfl hN_cX1_isTakenAhead hn_cX1_isTakenAhead rfl rfl rfl rfl
theorem dX1_isTakenAhead_7 : decode cX1_isTakenAhead 7 = .ok (.iload_n 3, 1) := qr_o29 hN_cX1_isTakenAhead hn_cX1_isTakenAhead rfl rfl
theorem dX1_isTakenAhead_8 : decode cX1_isTakenAhead 8 = .ok (.iconst 4, 1) := qr_o7 hN_cX1_isTakenAhead hn_cX1_isTakenAhead rfl rfl
theorem dX1_isTakenAhead_9 : decode cX1_isTakenAhead 9 = .ok (.if_icmp .ge 21, 3) := qr_o162 0 21 rfl hN_cX1_isTakenAhead hn_cX1_isTakenAhead rfl rfl rfl rfl
theorem dX1_isTakenAhead_12 : decode cX1_isTakenAhead 12 = .ok (.aload_n 0, 1) := qr_o42 hN_cX1_isTakenAhead hn_cX1_isTakenAhead rfl rfl
theorem dX1_isTakenAhead_13 : decode cX1_isTakenAhead 13 = .ok (.getfield 23, 3) := qr_o180 0 23 hN_cX1_isTakenAhead hn_cX1_isTakenAhead rfl rfl rfl rfl
theorem dX1_isTakenAhead_16 : decode cX1_isTakenAhead 16 = .ok (.iload_n 3, 1) := qr_o29 hN_cX1_isTakenAhead hn_cX1_isTakenAhead rfl rfl
theorem dX1_isTakenAhead_17 : decode cX1_isTakenAhead 17 = .ok (.iaload, 1) := qr_o46 hN_cX1_isTakenAhead hn_cX1_isTakenAhead rfl rfl
theorem dX1_isTakenAhead_18 : decode cX1_isTakenAhead 18 = .ok (.iload_n 1, 1) := qr_o27 hN_cX1_isTakenAhead hn_cX1_isTakenAhead rfl rfl
theorem dX1_isTakenAhead_19 : decode cX1_isTakenAhead 19 = .ok (.if_icmp .ne 5, 3) := qr_o160 0 5 rfl hN_cX1_isTakenAhead hn_cX1_isTakenAhead rfl rfl rfl rfl
theorem dX1_isTakenAhead_22 : decode cX1_isTakenAhead 22 = .ok (.iconst 1, 1) := qr_o4 hN_cX1_isTakenAhead hn_cX1_isTakenAhead rfl rfl
theorem dX1_isTakenAhead_23 : decode cX1_isTakenAhead 23 = .ok (.ireturn, 1) := qr_o172 hN_cX1_isTakenAhead hn_cX1_isTakenAhead rfl rfl
theorem dX1_isTakenAhead_24 : decode cX1_isTakenAhead 24 = .ok (.iinc 3 1, 3) := qr_o132 3 1 rfl hN_cX1_isTakenAhead hn_cX1_isTakenAhead rfl rfl rfl rfl
theorem dX1_isTakenAhead_27 : decode cX1_isTakenAhead 27 = .ok (.goto (-25), 3) := qr_w167 255 231 25 rfl rfl hN_cX1_isTakenAhead hn_cX1_isTakenAhead rfl rfl rfl rfl
theorem dX1_isTakenAhead_30 : decode cX1_isTakenAhead 30 = .ok (.iconst 0, 1) := qr_o3 hN_cX1_isTakenAhead hn_cX1_isTakenAhead rfl rfl
theorem dX1_isTakenAhead_31 : decode cX1_isTakenAhead 31 = .ok (.ireturn, 1) := qr_o172 hN_cX1_isTakenAhead hn_cX1_isTakenAhead rfl rfl
def nN_cX2_init : Nat := 0xb1d4ffa7010184e2ffa70102844f040400a7030700a01c1b601c6809101b1900b42a1e00a209101c3d032c00a209101b3c032900b504bc1e102a2500b52300bd1e102a1f00b51d00bd18102a1900b50abc51102a1500b51400b7591200bb2a0c00b50b00b7590900bb2a0300b72a
theorem hN_cX2_init : qr_n cX2_init.data.toList = nN_cX2_init := by decide +kernel
theorem hn_cX2_init : cX2_init.size = 110 := by decide +kernel
theorem dX2_init_0 : decode cX2_init 0 = .ok (.aload_n 0, 1) := qr_o42 hN_cX2_init hn_cX2_init rfl rfl
theorem dX2_init_1 : decode cX2_init 1 = .ok (.invokespecial 3, 3) := qr_o183 0 3 hN_cX2_init hn_cX2_init rfl rfl rfl rfl
theorem dX2_init_4 : decode cX2_init 4 = .ok (.aload_n 0, 1) := qr_o42 hN_cX2_init hn_cX2_init rfl rfl
theorem dX2_init_5 : decode cX2_init 5 = .ok (.new 9, 3) := qr_o187 0 9 hN_cX2_init hn_cX2_init rfl rfl rfl rfl
theorem dX2_init_8 : decode cX2_init 8 = .ok (.dup, 1) := qr_o89 hN_cX2_init hn_cX2_init rfl rfl
theorem dX2_init_9 : decode cX2_init 9 = .ok (.invokespecial 11, 3) := qr_o183 0 11 hN_cX2_init hn_cX2_init rfl rfl rfl rfl
theorem dX2_init_12 : decode cX2_init 12 = .ok (.putfield 12, 3) := qr_o181 0 12 hN_cX2_init hn_cX2_init rfl rfl rfl rfl
theorem dX2_init_15 : decode cX2_init 15 = .ok (.aload_n 0, 1) := qr_o42 hN_cX2_init hn_cX2_init rfl rfl
theorem dX2_init_16 : decode cX2_init 16 = .ok (.new 18, 3) := qr_o187 0 18 hN_cX2_init hn_cX2_init rfl rfl rfl rfl
theorem dX2_init_19 : decode cX2_init 19 = .ok (.dup, 1) := qr_o89 hN_cX2_init hn_cX2_init rfl rfl
theorem dX2_init_20 : decode cX2_init 20 = .ok (.invokespecial 20, 3) := qr_o183 0 20 hN_cX2_init hn_cX2_init rfl rfl rfl rfl
theorem dX2_init_23 : decode cX2_init 23 = .ok (.putfield 21, 3) := qr_o181 0 21 hN_cX2_init hn_cX2_init rfl rfl rfl rfl
theorem dX2_init_26 : decode cX2_init 26 = .ok (.aload_n 0, 1) := qr_o42 hN_cX2_init hn_cX2_init rfl rfl
theorem dX2_init_27 : decode cX2_init 27 = .ok (.bipush 81, 2) := qr_o16 81 rfl hN_cX2_init hn_cX2_init rfl rfl rfl
theorem dX2_init_29 : decode cX2_init 29 = .ok (.newarray .int, 2) := qr_na10 hN_cX2_init hn_cX2_init rfl rfl rfl
theorem dX2_init_31 : decode cX2_init 31 = .ok (.putfield 25, 3) := qr_o181 0 25 hN_cX2_init hn_cX2_init rfl rfl rfl rfl
theorem dX2_init_34 : decode cX2_init 34 = .ok (.aload_n 0, 1) := qr_o42 hN_cX2_init hn_cX2_init rfl rfl
theorem dX2_init_35 : decode cX2_init 35 = .ok (.bipush 24, 2) := qr_o16 24 rfl hN_cX2_init hn_cX2_init rfl rfl rfl
theorem dX2_init_37 : decode cX2_init 37 = .ok (.anewarray 29, 3) := qr_o189 0 29 hN_cX2_init hn_cX2_init rfl rfl rfl rfl
theorem dX2_init_40 : decode cX2_init 40 = .ok (.putfield 31, 3) := qr_o181 0 31 hN_cX2_init hn_cX2_init rfl rfl rfl rfl
theorem dX2_init_43 : decode cX2_init 43 = .ok (.aload_n 0, 1) := qr_o42 hN_cX2_init hn_cX2_init rfl rfl
theorem dX2_init_44 : decode cX2_init 44 = .ok (.bipush 30, 2) := qr_o16 30 rfl hN_cX2_init hn_cX2_init rfl rfl rfl
theorem dX2_init_46 : decode cX2_init 46 = .ok (.anewarray 35, 3) := qr_o189 0 35 hN_cX2_init hn_cX2_init rfl rfl rfl rfl
theorem dX2_init_49 : decode cX2_init 49 = .ok (.putfield 37, 3) := qr_o181 0 37 hN_cX2_init hn_cX2_init rfl rfl rfl rfl
theorem dX2_init_52 : decode cX2_init 52 = .ok (.aload_n 0, 1) := qr_o42 hN_cX2_init hn_cX2_init rfl rfl
theorem dX2_init_53 : decode cX2_init 53 = .ok (.bipush 30, 2) := qr_o16 30 rfl hN_cX2_init hn_cX2_init rfl rfl rfl
theorem dX2_init_55 : decode cX2_init 55 = .ok (.newarray .boolean, 2) := qr_na4 hN_cX2_init hn_cX2_init rfl rfl rfl
theorem dX2_init_57 : decode cX2_init 57 = .ok (.putfield 41, 3) := qr_o181 0 41 hN_cX2_init hn_cX2_init rfl rfl rfl rfl
theorem dX2_init_60 : decode cX2_init 60 = .ok (.iconst 0, 1) := qr_o3 hN_cX2_init hn_cX2_init rfl rfl
theorem dX2_init_61 : decode cX2_init 61 = .ok (.istore_n 1, 1) := qr_o60 hN_cX2_init hn_cX2_init rfl rfl
theorem dX2_init_62 : decode cX2_init 62 = .ok (.iload_n 1, 1) := qr_o27 hN_cX2_init hn_cX2_init rfl rfl
theorem dX2_init_63 : decode cX2_init 63 = .ok (.bipush 9, 2) := qr_o16 9 rfl hN_cX2_init hn_cX2_init rfl rfl rfl
theorem dX2_init_65 : decode cX2_init 65 = .ok (.if_icmp .ge 44, 3) := qr_o162 0 44 rfl hN_cX2_init hn_cX2_init rfl rfl rfl rfl
theorem dX2_init_68 : decode cX2_init 68 = .ok (.iconst 0, 1) := qr_o3 hN_cX2_init hn_cX2_init rfl rfl
theorem dX2_init_69 : decode cX2_init 69 = .ok (.istore_n 2, 1) := qr_o61 hN_cX2_init hn_cX2_init rfl rfl
theorem dX2_init_70 : decode cX2_init 70 = .ok (.iload_n 2, 1) := qr_o28 hN_cX2_init hn_cX2_init rfl rfl
theorem dX2_init_71 : decode cX2_init 71 = .ok (.bipush 9, 2) := qr_o16 9 rfl hN_cX2_init hn_cX2_init rfl rfl rfl
theorem dX2_init_73 : decode cX2_init 73 = .ok (.if_icmp .ge 30, 3) := qr_o162 0 30 rfl hN_cX2_init hn_cX2_init rfl rfl rfl rfl
theorem dX2_init_76 : decode cX2_init 76 = .ok (.aload_n 0, 1) := qr_o42 hN_cX2_init hn_cX2_init rfl rfl
theorem dX2_init_77 : decode cX2_init 77 = .ok (.getfield 25, 3) := qr_o180 0 25 hN_cX2_init hn_cX2_init rfl rfl rfl rfl
theorem dX2_init_80 : decode cX2_init 80 = .ok (.iload_n 1, 1) := qr_o27 hN_cX2_init hn_cX2_init rfl rfl
theorem dX2_init_81 : decode cX2_init 81 = .ok (.bipush 9, 2) := qr_o16 9 rfl hN_cX2_init hn_cX2_init rfl rfl rfl
theorem dX2_init_83 : decode cX2_init 83 = .ok (.imul, 1) := qr_o104 hN_cX2_init hn_cX2_init rfl rfl
theorem dX2_init_84 : decode cX2_init 84 = .ok (.iload_n 2, 1) := qr_o28 hN_cX2_init hn_cX2_init rfl rfl
theorem dX2_init_85 : decode cX2_init 85 = .ok (.iadd, 1) := qr_o96 hN_cX2_init hn_cX2_init rfl rfl
theorem dX2_init_86 : decode cX2_init 86 = .ok (.iload_n 1, 1) := qr_o27 hN_cX2_init hn_cX2_init rfl rfl
theorem dX2_init_87 : decode cX2_init 87 = .ok (.iload_n 2, 1) := qr_o28 hN_cX2_init hn_cX2_init rfl rfl
theorem dX2_init_88 : decode cX2_init 88 = .ok (.if_icmp .ne 7, 3) := qr_o160 0 7 rfl hN_cX2_init hn_cX2_init rfl rfl rfl rfl
theorem dX2_init_91 : decode cX2_init 91 = .ok (.iconst 0, 1) := qr_o3 hN_cX2_init hn_cX2_init rfl rfl
theorem dX2_init_92 : decode cX2_init 92 = .ok (.goto 4, 3) := qr_o167 0 4 rfl hN_cX2_init hn_cX2_init rfl rfl rfl rfl
theorem dX2_init_95 : decode cX2_init 95 = .ok (.iconst 1, 1) := qr_o4 hN_cX2_init hn_cX2_init rfl rfl
theorem dX2_init_96 : decode cX2_init 96 = .ok (.iastore, 1) := qr_o79 hN_cX2_init hn_cX2_init rfl rfl
theorem dX2_init_97 : decode cX2_init 97 = .ok (.iinc 2 1, 3) := qr_o132 2 1 rfl hN_cX2_init hn_cX2_init rfl rfl rfl rfl
theorem dX2_init_100 : decode cX2_init 100 = .ok (.goto (-30), 3) := qr_w167 255 226 30 rfl rfl hN_cX2_init hn_cX2_init rfl rfl rfl rfl
theorem dX2_init_103 : decode cX2_init 103 = .ok (.iinc 1 1, 3) := qr_o132 1 1 rfl hN_cX2_init hn_cX2_init rfl rfl rfl rfl
theorem dX2_init_106 : decode cX2_init 106 = .ok (.goto (-44), 3) := qr_w167 255 212 44 rfl rfl hN_cX2_init hn_cX2_init rfl rfl rfl rfl
theorem dX2_init_109 : decode cX2_init 109 = .ok (.return_, 1) := qr_o177 hN_cX2_init hn_cX2_init rfl rfl
def nN_cX2_pieceAt : Nat := 0xb0010400a7321b1f00b42a0c00a218101b1200a22d00b42a1b1a009b1b
theorem hN_cX2_pieceAt : qr_n cX2_pieceAt.data.toList = nN_cX2_pieceAt := by decide +kernel
theorem hn_cX2_pieceAt : cX2_pieceAt.size = 29 := by decide +kernel
theorem dX2_pieceAt_0 : decode cX2_pieceAt 0 = .ok (.iload_n 1, 1) := qr_o27 hN_cX2_pieceAt hn_cX2_pieceAt rfl rfl
theorem dX2_pieceAt_1 : decode cX2_pieceAt 1 = .ok (.ifCond .lt 26, 3) := qr_o155 0 26 rfl hN_cX2_pieceAt hn_cX2_pieceAt rfl rfl rfl rfl
theorem dX2_pieceAt_4 : decode cX2_pieceAt 4 = .ok (.iload_n 1, 1) := qr_o27 hN_cX2_pieceAt hn_cX2_pieceAt rfl rfl
theorem dX2_pieceAt_5 : decode cX2_pieceAt 5 = .ok (.aload_n 0, 1) := qr_o42 hN_cX2_pieceAt hn_cX2_pieceAt rfl rfl
theorem dX2_pieceAt_6 : decode cX2_pieceAt 6 = .ok (.getfield 45, 3) := qr_o180 0 45 hN_cX2_pieceAt hn_cX2_pieceAt rfl rfl rfl rfl
theorem dX2_pieceAt_9 : decode cX2_pieceAt 9 = .ok (.if_icmp .ge 18, 3) := qr_o162 0 18 rfl hN_cX2_pieceAt hn_cX2_pieceAt rfl rfl rfl rfl
theorem dX2_pieceAt_12 : decode cX2_pieceAt 12 = .ok (.iload_n 1, 1) := qr_o27 hN_cX2_pieceAt hn_cX2_pieceAt rfl rfl
theorem dX2_pieceAt_13 : decode cX2_pieceAt 13 = .ok (.bipush 24, 2) := qr_o16 24 rfl hN_cX2_pieceAt hn_cX2_pieceAt rfl rfl rfl
theorem dX2_pieceAt_15 : decode cX2_pieceAt 15 = .ok (.if_icmp .ge 12, 3) := qr_o162 0 12 rfl hN_cX2_pieceAt hn_cX2_pieceAt rfl rfl rfl rfl
theorem dX2_pieceAt_18 : decode cX2_pieceAt 18 = .ok (.aload_n 0, 1) := qr_o42 hN_cX2_pieceAt hn_cX2_pieceAt rfl rfl
theorem dX2_pieceAt_19 : decode cX2_pieceAt 19 = .ok (.getfield 31, 3) := qr_o180 0 31 hN_cX2_pieceAt hn_cX2_pieceAt rfl rfl rfl rfl
theorem dX2_pieceAt_22 : decode cX2_pieceAt 22 = .ok (.iload_n 1, 1) := qr_o27 hN_cX2_pieceAt hn_cX2_pieceAt rfl rfl
theorem dX2_pieceAt_23 : decode cX2_pieceAt 23 = .ok (.aaload, 1) := qr_o50 hN_cX2_pieceAt hn_cX2_pieceAt rfl rfl
theorem dX2_pieceAt_24 : decode cX2_pieceAt 24 = .ok (.goto 4, 3) := qr_o167 0 4 rfl hN_cX2_pieceAt hn_cX2_pieceAt rfl rfl rfl rfl
theorem dX2_pieceAt_27 : decode cX2_pieceAt 27 = .ok (.aconst_null, 1) := qr_o1 hN_cX2_pieceAt hn_cX2_pieceAt rfl rfl
theorem dX2_pieceAt_28 : decode cX2_pieceAt 28 = .ok (.areturn, 1) := qr_o176 hN_cX2_pieceAt hn_cX2_pieceAt rfl rfl
def nN_cX2_bookingAt : Nat := 0xb0010400a7321b2500b42a0c00a21e101b1200a23100b42a1b1a009b1b
theorem hN_cX2_bookingAt : qr_n cX2_bookingAt.data.toList = nN_cX2_bookingAt := by decide +kernel
theorem hn_cX2_bookingAt : cX2_bookingAt.size = 29 := by decide +kernel
theorem dX2_bookingAt_0 : decode cX2_bookingAt 0 = .ok (.iload_n 1, 1) := qr_o27 hN_cX2_bookingAt hn_cX2_bookingAt rfl rfl
theorem dX2_bookingAt_1 : decode cX2_bookingAt 1 = .ok (.ifCond .lt 26, 3) := qr_o155 0 26 rfl hN_cX2_bookingAt hn_cX2_bookingAt rfl rfl rfl rfl
theorem dX2_bookingAt_4 : decode cX2_bookingAt 4 = .ok (.iload_n 1, 1) := qr_o27 hN_cX2_bookingAt hn_cX2_bookingAt rfl rfl
theorem dX2_bookingAt_5 : decode cX2_bookingAt 5 = .ok (.aload_n 0, 1) := qr_o42 hN_cX2_bookingAt hn_cX2_bookingAt rfl rfl
theorem dX2_bookingAt_6 : decode cX2_bookingAt 6 = .ok (.getfield 49, 3) := qr_o180 0 49 hN_cX2_bookingAt hn_cX2_bookingAt rfl rfl rfl rfl
theorem dX2_bookingAt_9 : decode cX2_bookingAt 9 = .ok (.if_icmp .ge 18, 3) := qr_o162 0 18 rfl hN_cX2_bookingAt hn_cX2_bookingAt rfl rfl rfl rfl
theorem dX2_bookingAt_12 : decode cX2_bookingAt 12 = .ok (.iload_n 1, 1) := qr_o27 hN_cX2_bookingAt hn_cX2_bookingAt rfl rfl
theorem dX2_bookingAt_13 : decode cX2_bookingAt 13 = .ok (.bipush 30, 2) := qr_o16 30 rfl hN_cX2_bookingAt hn_cX2_bookingAt rfl rfl rfl
theorem dX2_bookingAt_15 : decode cX2_bookingAt 15 = .ok (.if_icmp .ge 12, 3) := qr_o162 0 12 rfl hN_cX2_bookingAt hn_cX2_bookingAt rfl rfl rfl rfl
theorem dX2_bookingAt_18 : decode cX2_bookingAt 18 = .ok (.aload_n 0, 1) := qr_o42 hN_cX2_bookingAt hn_cX2_bookingAt rfl rfl
theorem dX2_bookingAt_19 : decode cX2_bookingAt 19 = .ok (.getfield 37, 3) := qr_o180 0 37 hN_cX2_bookingAt hn_cX2_bookingAt rfl rfl rfl rfl
theorem dX2_bookingAt_22 : decode cX2_bookingAt 22 = .ok (.iload_n 1, 1) := qr_o27 hN_cX2_bookingAt hn_cX2_bookingAt rfl rfl
theorem dX2_bookingAt_23 : decode cX2_bookingAt 23 = .ok (.aaload, 1) := qr_o50 hN_cX2_bookingAt hn_cX2_bookingAt rfl rfl
theorem dX2_bookingAt_24 : decode cX2_bookingAt 24 = .ok (.goto 4, 3) := qr_o167 0 4 rfl hN_cX2_bookingAt hn_cX2_bookingAt rfl rfl rfl rfl
theorem dX2_bookingAt_27 : decode cX2_bookingAt 27 = .ok (.aconst_null, 1) := qr_o1 hN_cX2_bookingAt hn_cX2_bookingAt rfl rfl
theorem dX2_bookingAt_28 : decode cX2_bookingAt 28 = .ok (.areturn, 1) := qr_o176 hN_cX2_bookingAt hn_cX2_bookingAt rfl rfl
def nN_cX2_keep : Nat := 0xac3400b42b2d00b560042d00b4592a532b2d00b42a1f00b42a3400b52d00b42a2bacfd100600a118102d00b42a
theorem hN_cX2_keep : qr_n cX2_keep.data.toList = nN_cX2_keep := by decide +kernel
theorem hn_cX2_keep : cX2_keep.size = 45 := by decide +kernel
theorem dX2_keep_0 : decode cX2_keep 0 = .ok (.aload_n 0, 1) := qr_o42 hN_cX2_keep hn_cX2_keep rfl rfl
theorem dX2_keep_1 : decode cX2_keep 1 = .ok (.getfield 45, 3) := qr_o180 0 45 hN_cX2_keep hn_cX2_keep rfl rfl rfl rfl
theorem dX2_keep_4 : decode cX2_keep 4 = .ok (.bipush 24, 2) := qr_o16 24 rfl hN_cX2_keep hn_cX2_keep rfl rfl rfl
theorem dX2_keep_6 : decode cX2_keep 6 = .ok (.if_icmp .lt 6, 3) := qr_o161 0 6 rfl hN_cX2_keep hn_cX2_keep rfl rfl rfl rfl
theorem dX2_keep_9 : decode cX2_keep 9 = .ok (.bipush (-3), 2) := qr_w16 253 3 rfl rfl hN_cX2_keep hn_cX2_keep rfl rfl rfl
theorem dX2_keep_11 : decode cX2_keep 11 = .ok (.ireturn, 1) := qr_o172 hN_cX2_keep hn_cX2_keep rfl rfl
theorem dX2_keep_12 : decode cX2_keep 12 = .ok (.aload_n 1, 1) := qr_o43 hN_cX2_keep hn_cX2_keep rfl rfl
theorem dX2_keep_13 : decode cX2_keep 13 = .ok (.aload_n 0, 1) := qr_o42 hN_cX2_keep hn_cX2_keep rfl rfl
theorem dX2_keep_14 : decode cX2_keep 14 = .ok (.getfield 45, 3) := qr_o180 0 45 hN_cX2_keep hn_cX2_keep rfl rfl rfl rfl
theorem dX2_keep_17 : decode cX2_keep 17 = .ok (.putfield 52, 3) := qr_o181 0 52 hN_cX2_keep hn_cX2_keep rfl rfl rfl rfl
theorem dX2_keep_20 : decode cX2_keep 20 = .ok (.aload_n 0, 1) := qr_o42 hN_cX2_keep hn_cX2_keep rfl rfl
theorem dX2_keep_21 : decode cX2_keep 21 = .ok (.getfield 31, 3) := qr_o180 0 31 hN_cX2_keep hn_cX2_keep rfl rfl rfl rfl
theorem dX2_keep_24 : decode cX2_keep 24 = .ok (.aload_n 0, 1) := qr_o42 hN_cX2_keep hn_cX2_keep rfl rfl
theorem dX2_keep_25 : decode cX2_keep 25 = .ok (.getfield 45, 3) := qr_o180 0 45 hN_cX2_keep hn_cX2_keep rfl rfl rfl rfl
theorem dX2_keep_28 : decode cX2_keep 28 = .ok (.aload_n 1, 1) := qr_o43 hN_cX2_keep hn_cX2_keep rfl rfl
theorem dX2_keep_29 : decode cX2_keep 29 = .ok (.aastore, 1) := qr_o83 hN_cX2_keep hn_cX2_keep rfl rfl
theorem dX2_keep_30 : decode cX2_keep 30 = .ok (.aload_n 0, 1) := qr_o42 hN_cX2_keep hn_cX2_keep rfl rfl
theorem dX2_keep_31 : decode cX2_keep 31 = .ok (.dup, 1) := qr_o89 hN_cX2_keep hn_cX2_keep rfl rfl
theorem dX2_keep_32 : decode cX2_keep 32 = .ok (.getfield 45, 3) := qr_o180 0 45 hN_cX2_keep hn_cX2_keep rfl rfl rfl rfl
theorem dX2_keep_35 : decode cX2_keep 35 = .ok (.iconst 1, 1) := qr_o4 hN_cX2_keep hn_cX2_keep rfl rfl
theorem dX2_keep_36 : decode cX2_keep 36 = .ok (.iadd, 1) := qr_o96 hN_cX2_keep hn_cX2_keep rfl rfl
theorem dX2_keep_37 : decode cX2_keep 37 = .ok (.putfield 45, 3) := qr_o181 0 45 hN_cX2_keep hn_cX2_keep rfl rfl rfl rfl
theorem dX2_keep_40 : decode cX2_keep 40 = .ok (.aload_n 1, 1) := qr_o43 hN_cX2_keep hn_cX2_keep rfl rfl
theorem dX2_keep_41 : decode cX2_keep 41 = .ok (.getfield 52, 3) := qr_o180 0 52 hN_cX2_keep hn_cX2_keep rfl rfl rfl rfl
theorem dX2_keep_44 : decode cX2_keep 44 = .ok (.ireturn, 1) := qr_o172 hN_cX2_keep hn_cX2_keep rfl rfl
def nN_cX2_hasRoomForBookings : Nat := 0xac030400a7040700a3643100b42a1e101b
theorem hN_cX2_hasRoomForBookings : qr_n cX2_hasRoomForBookings.data.toList = nN_cX2_hasRoomForBookings := by decide +kernel
theorem hn_cX2_hasRoomForBookings : cX2_hasRoomForBookings.size = 17 := by decide +kernel
theorem dX2_hasRoomForBookings_0 : decode cX2_hasRoomForBookings 0 = .ok (.iload_n 1, 1) := qr_o27 hN_cX2_hasRoomForBookings hn_cX2_hasRoomForBookings rfl rfl
theorem dX2_hasRoomForBookings_1 : decode cX2_hasRoomForBookings 1 = .ok (.bipush 30, 2) := qr_o16 30 rfl hN_cX2_hasRoomForBookings hn_cX2_hasRoomForBookings rfl rfl rfl
theorem dX2_hasRoomForBookings_3 : decode cX2_hasRoomForBookings 3 = .ok (.aload_n 0, 1) := qr_o42 hN_cX2_hasRoomForBookings hn_cX2_hasRoomForBookings rfl rfl
theorem dX2_hasRoomForBookings_4 : decode cX2_hasRoomForBookings 4 = .ok (.getfield 49, 3) := qr_o180 0 49 hN_cX2_hasRoomForBookings hn_cX2_hasRoomForBookings rfl rfl rfl rfl
theorem dX2_hasRoomForBookings_7 : decode cX2_hasRoomForBookings 7 = .ok (.isub, 1) := qr_o100 hN_cX2_hasRoomForBookings hn_cX2_hasRoomForBookings rfl rfl
theorem dX2_hasRoomForBookings_8 : decode cX2_hasRoomForBookings 8 = .ok (.if_icmp .gt 7, 3) := qr_o163 0 7 rfl hN_cX2_hasRoomForBookings hn_cX2_hasRoomForBookings rfl rfl rfl rfl
theorem dX2_hasRoomForBookings_11 : decode cX2_hasRoomForBookings 11 = .ok (.iconst 1, 1) := qr_o4 hN_cX2_hasRoomForBookings hn_cX2_hasRoomForBookings rfl rfl
theorem dX2_hasRoomForBookings_12 : decode cX2_hasRoomForBookings 12 = .ok (.goto 4, 3) := qr_o167 0 4 rfl hN_cX2_hasRoomForBookings hn_cX2_hasRoomForBookings rfl rfl rfl rfl
theorem dX2_hasRoomForBookings_15 : decode cX2_hasRoomForBookings 15 = .ok (.iconst 0, 1) := qr_o3 hN_cX2_hasRoomForBookings hn_cX2_hasRoomForBookings rfl rfl
theorem dX2_hasRoomForBookings_16 : decode cX2_hasRoomForBookings 16 = .ok (.ireturn, 1) := qr_o172 hN_cX2_hasRoomForBookings hn_cX2_hasRoomForBookings rfl rfl
def nN_cX2_addBooking : Nat := 0xb13100b560043100b4592a533b00b70615051504151d1c1b3100b42a592300bb3100b42a2500b42a2a00993700b6042a
theorem hN_cX2_addBooking : qr_n cX2_addBooking.data.toList = nN_cX2_addBooking := by decide +kernel
theorem hn_cX2_addBooking : cX2_addBooking.size = 48 := by decide +kernel
theorem dX2_addBooking_0 : decode cX2_addBooking 0 = .ok (.aload_n 0, 1) := qr_o42 hN_cX2_addBooking hn_cX2_addBooking rfl rfl
theorem dX2_addBooking_1 : decode cX2_addBooking 1 = .ok (.iconst 1, 1) := qr_o4 hN_cX2_addBooking hn_cX2_addBooking rfl rfl
theorem dX2_addBooking_2 : decode cX2_addBooking 2 = .ok (.invokevirtual 55, 3) := qr_o182 0 55 hN_cX2_addBooking hn_cX2_addBooking rfl rfl rfl rfl
theorem dX2_addBooking_5 : decode cX2_addBooking 5 = .ok (.ifCond .eq 42, 3) := qr_o153 0 42 rfl hN_cX2_addBooking hn_cX2_addBooking rfl rfl rfl rfl
theorem dX2_addBooking_8 : decode cX2_addBooking 8 = .ok (.aload_n 0, 1) := qr_o42 hN_cX2_addBooking hn_cX2_addBooking rfl rfl
theorem dX2_addBooking_9 : decode cX2_addBooking 9 = .ok (.getfield 37, 3) := qr_o180 0 37 hN_cX2_addBooking hn_cX2_addBooking rfl rfl rfl rfl
theorem dX2_addBooking_12 : decode cX2_addBooking 12 = .ok (.aload_n 0, 1) := qr_o42 hN_cX2_addBooking hn_cX2_addBooking rfl rfl
theorem dX2_addBooking_13 : decode cX2_addBooking 13 = .ok (.getfield 49, 3) := qr_o180 0 49 hN_cX2_addBooking hn_cX2_addBooking rfl rfl rfl rfl
theorem dX2_addBooking_16 : decode cX2_addBooking 16 = .ok (.new 35, 3) := qr_o187 0 35 hN_cX2_addBooking hn_cX2_addBooking rfl rfl rfl rfl
theorem dX2_addBooking_19 : decode cX2_addBooking 19 = .ok (.dup, 1) := qr_o89 hN_cX2_addBooking hn_cX2_addBooking rfl rfl
theorem dX2_addBooking_20 : decode cX2_addBooking 20 = .ok (.aload_n 0, 1) := qr_o42 hN_cX2_addBooking hn_cX2_addBooking rfl rfl
theorem dX2_addBooking_21 : decode cX2_addBooking 21 = .ok (.getfield 49, 3) := qr_o180 0 49 hN_cX2_addBooking hn_cX2_addBooking rfl rfl rfl rfl
theorem dX2_addBooking_24 : decode cX2_addBooking 24 = .ok (.iload_n 1, 1) := qr_o27 hN_cX2_addBooking hn_cX2_addBooking rfl rfl
theorem dX2_addBooking_25 : decode cX2_addBooking 25 = .ok (.iload_n 2, 1) := qr_o28 hN_cX2_addBooking hn_cX2_addBooking rfl rfl
theorem dX2_addBooking_26 : decode cX2_addBooking 26 = .ok (.iload_n 3, 1) := qr_o29 hN_cX2_addBooking hn_cX2_addBooking rfl rfl
theorem dX2_addBooking_27 : decode cX2_addBooking 27 = .ok (.iload 4, 2) := qr_o21 4 hN_cX2_addBooking hn_cX2_addBooking rfl rfl rfl
theorem dX2_addBooking_29 : decode cX2_addBooking 29 = .ok (.iload 5, 2) := qr_o21 5 hN_cX2_addBooking hn_cX2_addBooking rfl rfl rfl
theorem dX2_addBooking_31 : decode cX2_addBooking 31 = .ok (.iload 6, 2) := qr_o21 6 hN_cX2_addBooking hn_cX2_addBooking rfl rfl rfl
theorem dX2_addBooking_33 : decode cX2_addBooking 33 = .ok (.invokespecial 59, 3) := qr_o183 0 59 hN_cX2_addBooking hn_cX2_addBooking rfl rfl rfl rfl
theorem dX2_addBooking_36 : decode cX2_addBooking 36 = .ok (.aastore, 1) := qr_o83 hN_cX2_addBooking hn_cX2_addBooking rfl rfl
theorem dX2_addBooking_37 : decode cX2_addBooking 37 = .ok (.aload_n 0, 1) := qr_o42 hN_cX2_addBooking hn_cX2_addBooking rfl rfl
theorem dX2_addBooking_38 : decode cX2_addBooking 38 = .ok (.dup, 1) := qr_o89 hN_cX2_addBooking hn_cX2_addBooking rfl rfl
theorem dX2_addBooking_39 : decode cX2_addBooking 39 = .ok (.getfield 49, 3) := qr_o180 0 49 hN_cX2_addBooking hn_cX2_addBooking rfl rfl rfl rfl
theorem dX2_addBooking_42 : decode cX2_addBooking 42 = .ok (.iconst 1, 1) := qr_o4 hN_cX2_addBooking hn_cX2_addBooking rfl rfl
theorem dX2_addBooking_43 : decode cX2_addBooking 43 = .ok (.iadd, 1) := qr_o96 hN_cX2_addBooking hn_cX2_addBooking rfl rfl
theorem dX2_addBooking_44 : decode cX2_addBooking 44 = .ok (.putfield 49, 3) := qr_o181 0 49 hN_cX2_addBooking hn_cX2_addBooking rfl rfl rfl rfl
theorem dX2_addBooking_47 : decode cX2_addBooking 47 = .ok (.return_, 1) := qr_o177 hN_cX2_addBooking hn_cX2_addBooking rfl rfl
def nN_cX2_postBetween : Nat := 0xac030400a72e1d1900b42a0c00a2be1900b42a1d15009b1d3e601c6809101b
theorem hN_cX2_postBetween : qr_n cX2_postBetween.data.toList = nN_cX2_postBetween := by decide +kernel
theorem hn_cX2_postBetween : cX2_postBetween.size = 31 := by decide +kernel
theorem dX2_postBetween_0 : decode cX2_postBetween 0 = .ok (.iload_n 1, 1) := qr_o27 hN_cX2_postBetween hn_cX2_postBetween rfl rfl
theorem dX2_postBetween_1 : decode cX2_postBetween 1 = .ok (.bipush 9, 2) := qr_o16 9 rfl hN_cX2_postBetween hn_cX2_postBetween rfl rfl rfl
theorem dX2_postBetween_3 : decode cX2_postBetween 3 = .ok (.imul, 1) := qr_o104 hN_cX2_postBetween hn_cX2_postBetween rfl rfl
theorem dX2_postBetween_4 : decode cX2_postBetween 4 = .ok (.iload_n 2, 1) := qr_o28 hN_cX2_postBetween hn_cX2_postBetween rfl rfl
theorem dX2_postBetween_5 : decode cX2_postBetween 5 = .ok (.iadd, 1) := qr_o96 hN_cX2_postBetween hn_cX2_postBetween rfl rfl
theorem dX2_postBetween_6 : decode cX2_postBetween 6 = .ok (.istore_n 3, 1) := qr_o62 hN_cX2_postBetween hn_cX2_postBetween rfl rfl
theorem dX2_postBetween_7 : decode cX2_postBetween 7 = .ok (.iload_n 3, 1) := qr_o29 hN_cX2_postBetween hn_cX2_postBetween rfl rfl
theorem dX2_postBetween_8 : decode cX2_postBetween 8 = .ok (.ifCond .lt 21, 3) := qr_o155 0 21 rfl hN_cX2_postBetween hn_cX2_postBetween rfl rfl rfl rfl
theorem dX2_postBetween_11 : decode cX2_postBetween 11 = .ok (.iload_n 3, 1) := qr_o29 hN_cX2_postBetween hn_cX2_postBetween rfl rfl
theorem dX2_postBetween_12 : decode cX2_postBetween 12 = .ok (.aload_n 0, 1) := qr_o42 hN_cX2_postBetween hn_cX2_postBetween rfl rfl
theorem dX2_postBetween_13 : decode cX2_postBetween 13 = .ok (.getfield 25, 3) := qr_o180 0 25 hN_cX2_postBetween hn_cX2_postBetween rfl rfl rfl rfl
theorem dX2_postBetween_16 : decode cX2_postBetween 16 = .ok (.arraylength, 1) := qr_o190 hN_cX2_postBetween hn_cX2_postBetween rfl rfl
theorem dX2_postBetween_17 : decode cX2_postBetween 17 = .ok (.if_icmp .ge 12, 3) := qr_o162 0 12 rfl hN_cX2_postBetween hn_cX2_postBetween rfl rfl rfl rfl
theorem dX2_postBetween_20 : decode cX2_postBetween 20 = .ok (.aload_n 0, 1) := qr_o42 hN_cX2_postBetween hn_cX2_postBetween rfl rfl
theorem dX2_postBetween_21 : decode cX2_postBetween 21 = .ok (.getfield 25, 3) := qr_o180 0 25 hN_cX2_postBetween hn_cX2_postBetween rfl rfl rfl rfl
theorem dX2_postBetween_24 : decode cX2_postBetween 24 = .ok (.iload_n 3, 1) := qr_o29 hN_cX2_postBetween hn_cX2_postBetween rfl rfl
theorem dX2_postBetween_25 : decode cX2_postBetween 25 = .ok (.iaload, 1) := qr_o46 hN_cX2_postBetween hn_cX2_postBetween rfl rfl
theorem dX2_postBetween_26 : decode cX2_postBetween 26 = .ok (.goto 4, 3) := qr_o167 0 4 rfl hN_cX2_postBetween hn_cX2_postBetween rfl rfl rfl rfl
theorem dX2_postBetween_29 : decode cX2_postBetween 29 = .ok (.iconst 0, 1) := qr_o3 hN_cX2_postBetween hn_cX2_postBetween rfl rfl
theorem dX2_postBetween_30 : decode cX2_postBetween 30 = .ok (.ireturn, 1) := qr_o172 hN_cX2_postBetween hn_cX2_postBetween rfl rfl
def nN_cX2_setPost : Nat := 0xb14f1d601b6809101c1900b42a4f1d601c6809101b1900b42a1b00993e00b81c2200993e00b81b
theorem hN_cX2_setPost : qr_n cX2_setPost.data.toList = nN_cX2_setPost := by decide +kernel
theorem hn_cX2_setPost : cX2_setPost.size = 39 := by decide +kernel
theorem dX2_setPost_0 : decode cX2_setPost 0 = .ok (.iload_n 1, 1) := qr_o27 hN_cX2_setPost hn_cX2_setPost rfl rfl
theorem dX2_setPost_1 : decode cX2_setPost 1 = .ok (.invokestatic 62, 3) := qr_o184 0 62 hN_cX2_setPost hn_cX2_setPost rfl rfl rfl rfl
theorem dX2_setPost_4 : decode cX2_setPost 4 = .ok (.ifCond .eq 34, 3) := qr_o153 0 34 rfl hN_cX2_setPost hn_cX2_setPost rfl rfl rfl rfl
theorem dX2_setPost_7 : decode cX2_setPost 7 = .ok (.iload_n 2, 1) := qr_o28 hN_cX2_setPost hn_cX2_setPost rfl rfl
theorem dX2_setPost_8 : decode cX2_setPost 8 = .ok (.invokestatic 62, 3) := qr_o184 0 62 hN_cX2_setPost hn_cX2_setPost rfl rfl rfl rfl
theorem dX2_setPost_11 : decode cX2_setPost 11 = .ok (.ifCond .eq 27, 3) := qr_o153 0 27 rfl hN_cX2_setPost hn_cX2_setPost rfl rfl rfl rfl
theorem dX2_setPost_14 : decode cX2_setPost 14 = .ok (.aload_n 0, 1) := qr_o42 hN_cX2_setPost hn_cX2_setPost rfl rfl
theorem dX2_setPost_15 : decode cX2_setPost 15 = .ok (.getfield 25, 3) := qr_o180 0 25 hN_cX2_setPost hn_cX2_setPost rfl rfl rfl rfl
theorem dX2_setPost_18 : decode cX2_setPost 18 = .ok (.iload_n 1, 1) := qr_o27 hN_cX2_setPost hn_cX2_setPost rfl rfl
theorem dX2_setPost_19 : decode cX2_setPost 19 = .ok (.bipush 9, 2) := qr_o16 9 rfl hN_cX2_setPost hn_cX2_setPost rfl rfl rfl
theorem dX2_setPost_21 : decode cX2_setPost 21 = .ok (.imul, 1) := qr_o104 hN_cX2_setPost hn_cX2_setPost rfl rfl
theorem dX2_setPost_22 : decode cX2_setPost 22 = .ok (.iload_n 2, 1) := qr_o28 hN_cX2_setPost hn_cX2_setPost rfl rfl
theorem dX2_setPost_23 : decode cX2_setPost 23 = .ok (.iadd, 1) := qr_o96 hN_cX2_setPost hn_cX2_setPost rfl rfl
theorem dX2_setPost_24 : decode cX2_setPost 24 = .ok (.iload_n 3, 1) := qr_o29 hN_cX2_setPost hn_cX2_setPost rfl rfl
theorem dX2_setPost_25 : decode cX2_setPost 25 = .ok (.iastore, 1) := qr_o79 hN_cX2_setPost hn_cX2_setPost rfl rfl
theorem dX2_setPost_26 : decode cX2_setPost 26 = .ok (.aload_n 0, 1) := qr_o42 hN_cX2_setPost hn_cX2_setPost rfl rfl
theorem dX2_setPost_27 : decode cX2_setPost 27 = .ok (.getfield 25, 3) := qr_o180 0 25 hN_cX2_setPost hn_cX2_setPost rfl rfl rfl rfl
theorem dX2_setPost_30 : decode cX2_setPost 30 = .ok (.iload_n 2, 1) := qr_o28 hN_cX2_setPost hn_cX2_setPost rfl rfl
theorem dX2_setPost_31 : decode cX2_setPost 31 = .ok (.bipush 9, 2) := qr_o16 9 rfl hN_cX2_setPost hn_cX2_setPost rfl rfl rfl
theorem dX2_setPost_33 : decode cX2_setPost 33 = .ok (.imul, 1) := qr_o104 hN_cX2_setPost hn_cX2_setPost rfl rfl
theorem dX2_setPost_34 : decode cX2_setPost 34 = .ok (.iload_n 1, 1) := qr_o27 hN_cX2_setPost hn_cX2_setPost rfl rfl
theorem dX2_setPost_35 : decode cX2_setPost 35 = .ok (.iadd, 1) := qr_o96 hN_cX2_setPost hn_cX2_setPost rfl rfl
theorem dX2_setPost_36 : decode cX2_setPost 36 = .ok (.iload_n 3, 1) := qr_o29 hN_cX2_setPost hn_cX2_setPost rfl rfl
theorem dX2_setPost_37 : decode cX2_setPost 37 = .ok (.iastore, 1) := qr_o79 hN_cX2_setPost hn_cX2_setPost rfl rfl
theorem dX2_setPost_38 : decode cX2_setPost 38 = .ok (.return_, 1) := qr_o177 hN_cX2_setPost hn_cX2_setPost rfl rfl
def nN_cX2_fitOf : Nat := 0xac030400a7040700a174041506150f00a304150515ac050500a3041506150c00a174041505150636641c605100b42b605400b64b00b42b1500b42a4800b42b0536641c605100b42b604e00b64b00b42b1500b42a4800b42b04364400b6070c00b42aac0305009a4100b61d2b
theorem hN_cX2_fitOf : qr_n cX2_fitOf.data.toList = nN_cX2_fitOf := by decide +kernel
theorem hn_cX2_fitOf : cX2_fitOf.size = 108 := by decide +kernel
theorem dX2_fitOf_0 : decode cX2_fitOf 0 = .ok (.aload_n 1, 1) := qr_o43 hN_cX2_fitOf hn_cX2_fitOf rfl rfl
theorem dX2_fitOf_1 : decode cX2_fitOf 1 = .ok (.iload_n 3, 1) := qr_o29 hN_cX2_fitOf hn_cX2_fitOf rfl rfl
theorem dX2_fitOf_2 : decode cX2_fitOf 2 = .ok (.invokevirtual 65, 3) := qr_o182 0 65 hN_cX2_fitOf hn_cX2_fitOf rfl rfl rfl rfl
theorem dX2_fitOf_5 : decode cX2_fitOf 5 = .ok (.ifCond .ne 5, 3) := qr_o154 0 5 rfl hN_cX2_fitOf hn_cX2_fitOf rfl rfl rfl rfl
theorem dX2_fitOf_8 : decode cX2_fitOf 8 = .ok (.iconst 0, 1) := qr_o3 hN_cX2_fitOf hn_cX2_fitOf rfl rfl
theorem dX2_fitOf_9 : decode cX2_fitOf 9 = .ok (.ireturn, 1) := qr_o172 hN_cX2_fitOf hn_cX2_fitOf rfl rfl
theorem dX2_fitOf_10 : decode cX2_fitOf 10 = .ok (.aload_n 0, 1) := qr_o42 hN_cX2_fitOf hn_cX2_fitOf rfl rfl
theorem dX2_fitOf_11 : decode cX2_fitOf 11 = .ok (.getfield 12, 3) := qr_o180 0 12 hN_cX2_fitOf hn_cX2_fitOf rfl rfl rfl rfl
theorem dX2_fitOf_14 : decode cX2_fitOf 14 = .ok (.iconst 4, 1) := qr_o7 hN_cX2_fitOf hn_cX2_fitOf rfl rfl
theorem dX2_fitOf_15 : decode cX2_fitOf 15 = .ok (.invokevirtual 68, 3) := qr_o182 0 68 hN_cX2_fitOf hn_cX2_fitOf rfl rfl rfl rfl
theorem dX2_fitOf_18 : decode cX2_fitOf 18 = .ok (.istore 4, 2) := qr_o54 4 hN_cX2_fitOf hn_cX2_fitOf rfl rfl rfl
theorem dX2_fitOf_20 : decode cX2_fitOf 20 = .ok (.aload_n 1, 1) := qr_o43 hN_cX2_fitOf hn_cX2_fitOf rfl rfl
theorem dX2_fitOf_21 : decode cX2_fitOf 21 = .ok (.getfield 72, 3) := qr_o180 0 72 hN_cX2_fitOf hn_cX2_fitOf rfl rfl rfl rfl
theorem dX2_fitOf_24 : decode cX2_fitOf 24 = .ok (.aload_n 0, 1) := qr_o42 hN_cX2_fitOf hn_cX2_fitOf rfl rfl
theorem dX2_fitOf_25 : decode cX2_fitOf 25 = .ok (.getfield 21, 3) := qr_o180 0 21 hN_cX2_fitOf hn_cX2_fitOf rfl rfl rfl rfl
theorem dX2_fitOf_28 : decode cX2_fitOf 28 = .ok (.aload_n 1, 1) := qr_o43 hN_cX2_fitOf hn_cX2_fitOf rfl rfl
theorem dX2_fitOf_29 : decode cX2_fitOf 29 = .ok (.getfield 75, 3) := qr_o180 0 75 hN_cX2_fitOf hn_cX2_fitOf rfl rfl rfl rfl
theorem dX2_fitOf_32 : decode cX2_fitOf 32 = .ok (.invokevirtual 78, 3) := qr_o182 0 78 hN_cX2_fitOf hn_cX2_fitOf rfl rfl rfl rfl
theorem dX2_fitOf_35 : decode cX2_fitOf 35 = .ok (.iadd, 1) := qr_o96 hN_cX2_fitOf hn_cX2_fitOf rfl rfl
theorem dX2_fitOf_36 : decode cX2_fitOf 36 = .ok (.aload_n 1, 1) := qr_o43 hN_cX2_fitOf hn_cX2_fitOf rfl rfl
theorem dX2_fitOf_37 : decode cX2_fitOf 37 = .ok (.getfield 81, 3) := qr_o180 0 81 hN_cX2_fitOf hn_cX2_fitOf rfl rfl rfl rfl
theorem dX2_fitOf_40 : decode cX2_fitOf 40 = .ok (.iadd, 1) := qr_o96 hN_cX2_fitOf hn_cX2_fitOf rfl rfl
theorem dX2_fitOf_41 : decode cX2_fitOf 41 = .ok (.iload_n 2, 1) := qr_o28 hN_cX2_fitOf hn_cX2_fitOf rfl rfl
theorem dX2_fitOf_42 : decode cX2_fitOf 42 = .ok (.isub, 1) := qr_o100 hN_cX2_fitOf hn_cX2_fitOf rfl rfl
theorem dX2_fitOf_43 : decode cX2_fitOf 43 = .ok (.istore 5, 2) := qr_o54 5 hN_cX2_fitOf hn_cX2_fitOf rfl rfl rfl
theorem dX2_fitOf_45 : decode cX2_fitOf 45 = .ok (.aload_n 1, 1) := qr_o43 hN_cX2_fitOf hn_cX2_fitOf rfl rfl
theorem dX2_fitOf_46 : decode cX2_fitOf 46 = .ok (.getfield 72, 3) := qr_o180 0 72 hN_cX2_fitOf hn_cX2_fitOf rfl rfl rfl rfl
theorem dX2_fitOf_49 : decode cX2_fitOf 49 = .ok (.aload_n 0, 1) := qr_o42 hN_cX2_fitOf hn_cX2_fitOf rfl rfl
theorem dX2_fitOf_50 : decode cX2_fitOf 50 = .ok (.getfield 21, 3) := qr_o180 0 21 hN_cX2_fitOf hn_cX2_fitOf rfl rfl rfl rfl
theorem dX2_fitOf_53 : decode cX2_fitOf 53 = .ok (.aload_n 1, 1) := qr_o43 hN_cX2_fitOf hn_cX2_fitOf rfl rfl
theorem dX2_fitOf_54 : decode cX2_fitOf 54 = .ok (.getfield 75, 3) := qr_o180 0 75 hN_cX2_fitOf hn_cX2_fitOf rfl rfl rfl rfl
theorem dX2_fitOf_57 : decode cX2_fitOf 57 = .ok (.invokevirtual 84, 3) := qr_o182 0 84 hN_cX2_fitOf hn_cX2_fitOf rfl rfl rfl rfl
theorem dX2_fitOf_60 : decode cX2_fitOf 60 = .ok (.iadd, 1) := qr_o96 hN_cX2_fitOf hn_cX2_fitOf rfl rfl
theorem dX2_fitOf_61 : decode cX2_fitOf 61 = .ok (.aload_n 1, 1) := qr_o43 hN_cX2_fitOf hn_cX2_fitOf rfl rfl
theorem dX2_fitOf_62 : decode cX2_fitOf 62 = .ok (.getfield 81, 3) := qr_o180 0 81 hN_cX2_fitOf hn_cX2_fitOf rfl rfl rfl rfl
theorem dX2_fitOf_65 : decode cX2_fitOf 65 = .ok (.iadd, 1) := qr_o96 hN_cX2_fitOf hn_cX2_fitOf rfl rfl
theorem dX2_fitOf_66 : decode cX2_fitOf 66 = .ok (.iload_n 2, 1) := qr_o28 hN_cX2_fitOf hn_cX2_fitOf rfl rfl
theorem dX2_fitOf_67 : decode cX2_fitOf 67 = .ok (.isub, 1) := qr_o100 hN_cX2_fitOf hn_cX2_fitOf rfl rfl
theorem dX2_fitOf_68 : decode cX2_fitOf 68 = .ok (.istore 6, 2) := qr_o54 6 hN_cX2_fitOf hn_cX2_fitOf rfl rfl rfl
theorem dX2_fitOf_70 : decode cX2_fitOf 70 = .ok (.iload 5, 2) := qr_o21 5 hN_cX2_fitOf hn_cX2_fitOf rfl rfl rfl
theorem dX2_fitOf_72 : decode cX2_fitOf 72 = .ok (.iload 4, 2) := qr_o21 4 hN_cX2_fitOf hn_cX2_fitOf rfl rfl rfl
theorem dX2_fitOf_74 : decode cX2_fitOf 74 = .ok (.ineg, 1) := qr_o116 hN_cX2_fitOf hn_cX2_fitOf rfl rfl
theorem dX2_fitOf_75 : decode cX2_fitOf 75 = .ok (.if_icmp .lt 12, 3) := qr_o161 0 12 rfl hN_cX2_fitOf hn_cX2_fitOf rfl rfl rfl rfl
theorem dX2_fitOf_78 : decode cX2_fitOf 78 = .ok (.iload 6, 2) := qr_o21 6 hN_cX2_fitOf hn_cX2_fitOf rfl rfl rfl
theorem dX2_fitOf_80 : decode cX2_fitOf 80 = .ok (.iload 4, 2) := qr_o21 4 hN_cX2_fitOf hn_cX2_fitOf rfl rfl rfl
theorem dX2_fitOf_82 : decode cX2_fitOf 82 = .ok (.if_icmp .gt 5, 3) := qr_o163 0 5 rfl hN_cX2_fitOf hn_cX2_fitOf rfl rfl rfl rfl
theorem dX2_fitOf_85 : decode cX2_fitOf 85 = .ok (.iconst 2, 1) := qr_o5 hN_cX2_fitOf hn_cX2_fitOf rfl rfl
theorem dX2_fitOf_86 : decode cX2_fitOf 86 = .ok (.ireturn, 1) := qr_o172 hN_cX2_fitOf hn_cX2_fitOf rfl rfl
theorem dX2_fitOf_87 : decode cX2_fitOf 87 = .ok (.iload 5, 2) := qr_o21 5 hN_cX2_fitOf hn_cX2_fitOf rfl rfl rfl
theorem dX2_fitOf_89 : decode cX2_fitOf 89 = .ok (.iload 4, 2) := qr_o21 4 hN_cX2_fitOf hn_cX2_fitOf rfl rfl rfl
theorem dX2_fitOf_91 : decode cX2_fitOf 91 = .ok (.if_icmp .gt 15, 3) := qr_o163 0 15 rfl hN_cX2_fitOf hn_cX2_fitOf rfl rfl rfl rfl
theorem dX2_fitOf_94 : decode cX2_fitOf 94 = .ok (.iload 6, 2) := qr_o21 6 hN_cX2_fitOf hn_cX2_fitOf rfl rfl rfl
theorem dX2_fitOf_96 : decode cX2_fitOf 96 = .ok (.iload 4, 2) := qr_o21 4 hN_cX2_fitOf hn_cX2_fitOf rfl rfl rfl
theorem dX2_fitOf_98 : decode cX2_fitOf 98 = .ok (.ineg, 1) := qr_o116 hN_cX2_fitOf hn_cX2_fitOf rfl rfl
theorem dX2_fitOf_99 : decode cX2_fitOf 99 = .ok (.if_icmp .lt 7, 3) := qr_o161 0 7 rfl hN_cX2_fitOf hn_cX2_fitOf rfl rfl rfl rfl
theorem dX2_fitOf_102 : decode cX2_fitOf 102 = .ok (.iconst 1, 1) := qr_o4 hN_cX2_fitOf hn_cX2_fitOf rfl rfl
theorem dX2_fitOf_103 : decode cX2_fitOf 103 = .ok (.goto 4, 3) := qr_o167 0 4 rfl hN_cX2_fitOf hn_cX2_fitOf rfl rfl rfl rfl
theorem dX2_fitOf_106 : decode cX2_fitOf 106 = .ok (.iconst 0, 1) := qr_o3 hN_cX2_fitOf hn_cX2_fitOf rfl rfl
theorem dX2_fitOf_107 : decode cX2_fitOf 107 = .ok (.ireturn, 1) := qr_o172 hN_cX2_fitOf hn_cX2_fitOf rfl rfl
def nN_cX2_surelyFits : Nat := 0xac030400a7040700a0055d00b65a00b42c5700b42c2b2a
theorem hN_cX2_surelyFits : qr_n cX2_surelyFits.data.toList = nN_cX2_surelyFits := by decide +kernel
theorem hn_cX2_surelyFits : cX2_surelyFits.size = 23 := by decide +kernel
theorem dX2_surelyFits_0 : decode cX2_surelyFits 0 = .ok (.aload_n 0, 1) := qr_o42 hN_cX2_surelyFits hn_cX2_surelyFits rfl rfl
theorem dX2_surelyFits_1 : decode cX2_surelyFits 1 = .ok (.aload_n 1, 1) := qr_o43 hN_cX2_surelyFits hn_cX2_surelyFits rfl rfl
theorem dX2_surelyFits_2 : decode cX2_surelyFits 2 = .ok (.aload_n 2, 1) := qr_o44 hN_cX2_surelyFits hn_cX2_surelyFits rfl rfl
theorem dX2_surelyFits_3 : decode cX2_surelyFits 3 = .ok (.getfield 87, 3) := qr_o180 0 87 hN_cX2_surelyFits hn_cX2_surelyFits rfl rfl rfl rfl
theorem dX2_surelyFits_6 : decode cX2_surelyFits 6 = .ok (.aload_n 2, 1) := qr_o44 hN_cX2_surelyFits hn_cX2_surelyFits rfl rfl
theorem dX2_surelyFits_7 : decode cX2_surelyFits 7 = .ok (.getfield 90, 3) := qr_o180 0 90 hN_cX2_surelyFits hn_cX2_surelyFits rfl rfl rfl rfl
theorem dX2_surelyFits_10 : decode cX2_surelyFits 10 = .ok (.invokevirtual 93, 3) := qr_o182 0 93 hN_cX2_surelyFits hn_cX2_surelyFits rfl rfl rfl rfl
theorem dX2_surelyFits_13 : decode cX2_surelyFits 13 = .ok (.iconst 2, 1) := qr_o5 hN_cX2_surelyFits hn_cX2_surelyFits rfl rfl
theorem dX2_surelyFits_14 : decode cX2_surelyFits 14 = .ok (.if_icmp .ne 7, 3) := qr_o160 0 7 rfl hN_cX2_surelyFits hn_cX2_surelyFits rfl rfl rfl rfl
theorem dX2_surelyFits_17 : decode cX2_surelyFits 17 = .ok (.iconst 1, 1) := qr_o4 hN_cX2_surelyFits hn_cX2_surelyFits rfl rfl
theorem dX2_surelyFits_18 : decode cX2_surelyFits 18 = .ok (.goto 4, 3) := qr_o167 0 4 rfl hN_cX2_surelyFits hn_cX2_surelyFits rfl rfl rfl rfl
theorem dX2_surelyFits_21 : decode cX2_surelyFits 21 = .ok (.iconst 0, 1) := qr_o3 hN_cX2_surelyFits hn_cX2_surelyFits rfl rfl
theorem dX2_surelyFits_22 : decode cX2_surelyFits 22 = .ok (.ireturn, 1) := qr_o172 hN_cX2_surelyFits hn_cX2_surelyFits rfl rfl
def nN_cX2_offBy : Nat := 0xac6100b8645700b42c605100b42b604e00b64b00b42b1500b42a4800b42b
theorem hN_cX2_offBy : qr_n cX2_offBy.data.toList = nN_cX2_offBy := by decide +kernel
theorem hn_cX2_offBy : cX2_offBy.size = 30 := by decide +kernel
theorem dX2_offBy_0 : decode cX2_offBy 0 = .ok (.aload_n 1, 1) := qr_o43 hN_cX2_offBy hn_cX2_offBy rfl rfl
theorem dX2_offBy_1 : decode cX2_offBy 1 = .ok (.getfield 72, 3) := qr_o180 0 72 hN_cX2_offBy hn_cX2_offBy rfl rfl rfl rfl
theorem dX2_offBy_4 : decode cX2_offBy 4 = .ok (.aload_n 0, 1) := qr_o42 hN_cX2_offBy hn_cX2_offBy rfl rfl
theorem dX2_offBy_5 : decode cX2_offBy 5 = .ok (.getfield 21, 3) := qr_o180 0 21 hN_cX2_offBy hn_cX2_offBy rfl rfl rfl rfl
theorem dX2_offBy_8 : decode cX2_offBy 8 = .ok (.aload_n 1, 1) := qr_o43 hN_cX2_offBy hn_cX2_offBy rfl rfl
theorem dX2_offBy_9 : decode cX2_offBy 9 = .ok (.getfield 75, 3) := qr_o180 0 75 hN_cX2_offBy hn_cX2_offBy rfl rfl rfl rfl
theorem dX2_offBy_12 : decode cX2_offBy 12 = .ok (.invokevirtual 78, 3) := qr_o182 0 78 hN_cX2_offBy hn_cX2_offBy rfl rfl rfl rfl
theorem dX2_offBy_15 : decode cX2_offBy 15 = .ok (.iadd, 1) := qr_o96 hN_cX2_offBy hn_cX2_offBy rfl rfl
theorem dX2_offBy_16 : decode cX2_offBy 16 = .ok (.aload_n 1, 1) := qr_o43 hN_cX2_offBy hn_cX2_offBy rfl rfl
theorem dX2_offBy_17 : decode cX2_offBy 17 = .ok (.getfield 81, 3) := qr_o180 0 81 hN_cX2_offBy hn_cX2_offBy rfl rfl rfl rfl
theorem dX2_offBy_20 : decode cX2_offBy 20 = .ok (.iadd, 1) := qr_o96 hN_cX2_offBy hn_cX2_offBy rfl rfl
theorem dX2_offBy_21 : decode cX2_offBy 21 = .ok (.aload_n 2, 1) := qr_o44 hN_cX2_offBy hn_cX2_offBy rfl rfl
theorem dX2_offBy_22 : decode cX2_offBy 22 = .ok (.getfield 87, 3) := qr_o180 0 87 hN_cX2_offBy hn_cX2_offBy rfl rfl rfl rfl
theorem dX2_offBy_25 : decode cX2_offBy 25 = .ok (.isub, 1) := qr_o100 hN_cX2_offBy hn_cX2_offBy rfl rfl
theorem dX2_offBy_26 : decode cX2_offBy 26 = .ok (.invokestatic 97, 3) := qr_o184 0 97 hN_cX2_offBy hn_cX2_offBy rfl rfl rfl rfl
theorem dX2_offBy_29 : decode cX2_offBy 29 = .ok (.ireturn, 1) := qr_o172 hN_cX2_offBy hn_cX2_offBy rfl rfl
def nN_cX2_firstAway : Nat := 0xac646d00b66c00b42c6900b42b2a644400b6030c00b42a6600b42c
theorem hN_cX2_firstAway : qr_n cX2_firstAway.data.toList = nN_cX2_firstAway := by decide +kernel
theorem hn_cX2_firstAway : cX2_firstAway.size = 27 := by decide +kernel
theorem dX2_firstAway_0 : decode cX2_firstAway 0 = .ok (.aload_n 2, 1) := qr_o44 hN_cX2_firstAway hn_cX2_firstAway rfl rfl
theorem dX2_firstAway_1 : decode cX2_firstAway 1 = .ok (.getfield 102, 3) := qr_o180 0 102 hN_cX2_firstAway hn_cX2_firstAway rfl rfl rfl rfl
theorem dX2_firstAway_4 : decode cX2_firstAway 4 = .ok (.aload_n 0, 1) := qr_o42 hN_cX2_firstAway hn_cX2_firstAway rfl rfl
theorem dX2_firstAway_5 : decode cX2_firstAway 5 = .ok (.getfield 12, 3) := qr_o180 0 12 hN_cX2_firstAway hn_cX2_firstAway rfl rfl rfl rfl
theorem dX2_firstAway_8 : decode cX2_firstAway 8 = .ok (.iconst 0, 1) := qr_o3 hN_cX2_firstAway hn_cX2_firstAway rfl rfl
theorem dX2_firstAway_9 : decode cX2_firstAway 9 = .ok (.invokevirtual 68, 3) := qr_o182 0 68 hN_cX2_firstAway hn_cX2_firstAway rfl rfl rfl rfl
theorem dX2_firstAway_12 : decode cX2_firstAway 12 = .ok (.isub, 1) := qr_o100 hN_cX2_firstAway hn_cX2_firstAway rfl rfl
theorem dX2_firstAway_13 : decode cX2_firstAway 13 = .ok (.aload_n 0, 1) := qr_o42 hN_cX2_firstAway hn_cX2_firstAway rfl rfl
theorem dX2_firstAway_14 : decode cX2_firstAway 14 = .ok (.aload_n 1, 1) := qr_o43 hN_cX2_firstAway hn_cX2_firstAway rfl rfl
theorem dX2_firstAway_15 : decode cX2_firstAway 15 = .ok (.getfield 105, 3) := qr_o180 0 105 hN_cX2_firstAway hn_cX2_firstAway rfl rfl rfl rfl
theorem dX2_firstAway_18 : decode cX2_firstAway 18 = .ok (.aload_n 2, 1) := qr_o44 hN_cX2_firstAway hn_cX2_firstAway rfl rfl
theorem dX2_firstAway_19 : decode cX2_firstAway 19 = .ok (.getfield 108, 3) := qr_o180 0 108 hN_cX2_firstAway hn_cX2_firstAway rfl rfl rfl rfl
theorem dX2_firstAway_22 : decode cX2_firstAway 22 = .ok (.invokevirtual 109, 3) := qr_o182 0 109 hN_cX2_firstAway hn_cX2_firstAway rfl rfl rfl rfl
theorem dX2_firstAway_25 : decode cX2_firstAway 25 = .ok (.isub, 1) := qr_o100 hN_cX2_firstAway hn_cX2_firstAway rfl rfl
theorem dX2_firstAway_26 : decode cX2_firstAway 26 = .ok (.ireturn, 1) := qr_o172 hN_cX2_firstAway hn_cX2_firstAway rfl rfl
def nN_cX2_lastAway : Nat := 0xac604400b6040c00b42a606d00b66c00b42c6900b42b2a6600b42c
theorem hN_cX2_lastAway : qr_n cX2_lastAway.data.toList = nN_cX2_lastAway := by decide +kernel
theorem hn_cX2_lastAway : cX2_lastAway.size = 27 := by decide +kernel
theorem dX2_lastAway_0 : decode cX2_lastAway 0 = .ok (.aload_n 2, 1) := qr_o44 hN_cX2_lastAway hn_cX2_lastAway rfl rfl
theorem dX2_lastAway_1 : decode cX2_lastAway 1 = .ok (.getfield 102, 3) := qr_o180 0 102 hN_cX2_lastAway hn_cX2_lastAway rfl rfl rfl rfl
theorem dX2_lastAway_4 : decode cX2_lastAway 4 = .ok (.aload_n 0, 1) := qr_o42 hN_cX2_lastAway hn_cX2_lastAway rfl rfl
theorem dX2_lastAway_5 : decode cX2_lastAway 5 = .ok (.aload_n 1, 1) := qr_o43 hN_cX2_lastAway hn_cX2_lastAway rfl rfl
theorem dX2_lastAway_6 : decode cX2_lastAway 6 = .ok (.getfield 105, 3) := qr_o180 0 105 hN_cX2_lastAway hn_cX2_lastAway rfl rfl rfl rfl
theorem dX2_lastAway_9 : decode cX2_lastAway 9 = .ok (.aload_n 2, 1) := qr_o44 hN_cX2_lastAway hn_cX2_lastAway rfl rfl
theorem dX2_lastAway_10 : decode cX2_lastAway 10 = .ok (.getfield 108, 3) := qr_o180 0 108 hN_cX2_lastAway hn_cX2_lastAway rfl rfl rfl rfl
theorem dX2_lastAway_13 : decode cX2_lastAway 13 = .ok (.invokevirtual 109, 3) := qr_o182 0 109 hN_cX2_lastAway hn_cX2_lastAway rfl rfl rfl rfl
theorem dX2_lastAway_16 : decode cX2_lastAway 16 = .ok (.iadd, 1) := qr_o96 hN_cX2_lastAway hn_cX2_lastAway rfl rfl
theorem dX2_lastAway_17 : decode cX2_lastAway 17 = .ok (.aload_n 0, 1) := qr_o42 hN_cX2_lastAway hn_cX2_lastAway rfl rfl
theorem dX2_lastAway_18 : decode cX2_lastAway 18 = .ok (.getfield 12, 3) := qr_o180 0 12 hN_cX2_lastAway hn_cX2_lastAway rfl rfl rfl rfl
theorem dX2_lastAway_21 : decode cX2_lastAway 21 = .ok (.iconst 1, 1) := qr_o4 hN_cX2_lastAway hn_cX2_lastAway rfl rfl
theorem dX2_lastAway_22 : decode cX2_lastAway 22 = .ok (.invokevirtual 68, 3) := qr_o182 0 68 hN_cX2_lastAway hn_cX2_lastAway rfl rfl rfl rfl
theorem dX2_lastAway_25 : decode cX2_lastAway 25 = .ok (.iadd, 1) := qr_o96 hN_cX2_lastAway hn_cX2_lastAway rfl rfl
theorem dX2_lastAway_26 : decode cX2_lastAway 26 = .ok (.ireturn, 1) := qr_o172 hN_cX2_lastAway hn_cX2_lastAway rfl rfl
def nN_cX2_shareDays : Nat := 0xac030400a7040700a305156100b8646600b42d6600b42c0536604400b6040c00b42a604400b6030c00b42a04150436606d00b66c00b42d6900b42b2a6d00b66c00b42c6900b42b2a
theorem hN_cX2_shareDays : qr_n cX2_shareDays.data.toList = nN_cX2_shareDays := by decide +kernel
theorem hn_cX2_shareDays : cX2_shareDays.size = 72 := by decide +kernel
theorem dX2_shareDays_0 : decode cX2_shareDays 0 = .ok (.aload_n 0, 1) := qr_o42 hN_cX2_shareDays hn_cX2_shareDays rfl rfl
theorem dX2_shareDays_1 : decode cX2_shareDays 1 = .ok (.aload_n 1, 1) := qr_o43 hN_cX2_shareDays hn_cX2_shareDays rfl rfl
theorem dX2_shareDays_2 : decode cX2_shareDays 2 = .ok (.getfield 105, 3) := qr_o180 0 105 hN_cX2_shareDays hn_cX2_shareDays rfl rfl rfl rfl
theorem dX2_shareDays_5 : decode cX2_shareDays 5 = .ok (.aload_n 2, 1) := qr_o44 hN_cX2_shareDays hn_cX2_shareDays rfl rfl
theorem dX2_shareDays_6 : decode cX2_shareDays 6 = .ok (.getfield 108, 3) := qr_o180 0 108 hN_cX2_shareDays hn_cX2_shareDays rfl rfl rfl rfl
theorem dX2_shareDays_9 : decode cX2_shareDays 9 = .ok (.invokevirtual 109, 3) := qr_o182 0 109 hN_cX2_shareDays hn_cX2_shareDays rfl rfl rfl rfl
theorem dX2_shareDays_12 : decode cX2_shareDays 12 = .ok (.aload_n 0, 1) := qr_o42 hN_cX2_shareDays hn_cX2_shareDays rfl rfl
theorem dX2_shareDays_13 : decode cX2_shareDays 13 = .ok (.aload_n 1, 1) := qr_o43 hN_cX2_shareDays hn_cX2_shareDays rfl rfl
theorem dX2_shareDays_14 : decode cX2_shareDays 14 = .ok (.getfield 105, 3) := qr_o180 0 105 hN_cX2_shareDays hn_cX2_shareDays rfl rfl rfl rfl
theorem dX2_shareDays_17 : decode cX2_shareDays 17 = .ok (.aload_n 3, 1) := qr_o45 hN_cX2_shareDays hn_cX2_shareDays rfl rfl
theorem dX2_shareDays_18 : decode cX2_shareDays 18 = .ok (.getfield 108, 3) := qr_o180 0 108 hN_cX2_shareDays hn_cX2_shareDays rfl rfl rfl rfl
theorem dX2_shareDays_21 : decode cX2_shareDays 21 = .ok (.invokevirtual 109, 3) := qr_o182 0 109 hN_cX2_shareDays hn_cX2_shareDays rfl rfl rfl rfl
theorem dX2_shareDays_24 : decode cX2_shareDays 24 = .ok (.iadd, 1) := qr_o96 hN_cX2_shareDays hn_cX2_shareDays rfl rfl
theorem dX2_shareDays_25 : decode cX2_shareDays 25 = .ok (.istore 4, 2) := qr_o54 4 hN_cX2_shareDays hn_cX2_shareDays rfl rfl rfl
theorem dX2_shareDays_27 : decode cX2_shareDays 27 = .ok (.iload 4, 2) := qr_o21 4 hN_cX2_shareDays hn_cX2_shareDays rfl rfl rfl
theorem dX2_shareDays_29 : decode cX2_shareDays 29 = .ok (.aload_n 0, 1) := qr_o42 hN_cX2_shareDays hn_cX2_shareDays rfl rfl
theorem dX2_shareDays_30 : decode cX2_shareDays 30 = .ok (.getfield 12, 3) := qr_o180 0 12 hN_cX2_shareDays hn_cX2_shareDays rfl rfl rfl rfl
theorem dX2_shareDays_33 : decode cX2_shareDays 33 = .ok (.iconst 0, 1) := qr_o3 hN_cX2_shareDays hn_cX2_shareDays rfl rfl
theorem dX2_shareDays_34 : decode cX2_shareDays 34 = .ok (.invokevirtual 68, 3) := qr_o182 0 68 hN_cX2_shareDays hn_cX2_shareDays rfl rfl rfl rfl
theorem dX2_shareDays_37 : decode cX2_shareDays 37 = .ok (.iadd, 1) := qr_o96 hN_cX2_shareDays hn_cX2_shareDays rfl rfl
theorem dX2_shareDays_38 : decode cX2_shareDays 38 = .ok (.aload_n 0, 1) := qr_o42 hN_cX2_shareDays hn_cX2_shareDays rfl rfl
theorem dX2_shareDays_39 : decode cX2_shareDays 39 = .ok (.getfield 12, 3) := qr_o180 0 12 hN_cX2_shareDays hn_cX2_shareDays rfl rfl rfl rfl
theorem dX2_shareDays_42 : decode cX2_shareDays 42 = .ok (.iconst 1, 1) := qr_o4 hN_cX2_shareDays hn_cX2_shareDays rfl rfl
theorem dX2_shareDays_43 : decode cX2_shareDays 43 = .ok (.invokevirtual 68, 3) := qr_o182 0 68 hN_cX2_shareDays hn_cX2_shareDays rfl rfl rfl rfl
theorem dX2_shareDays_46 : decode cX2_shareDays 46 = .ok (.iadd, 1) := qr_o96 hN_cX2_shareDays hn_cX2_shareDays rfl rfl
theorem dX2_shareDays_47 : decode cX2_shareDays 47 = .ok (.istore 5, 2) := qr_o54 5 hN_cX2_shareDays hn_cX2_shareDays rfl rfl rfl
theorem dX2_shareDays_49 : decode cX2_shareDays 49 = .ok (.aload_n 2, 1) := qr_o44 hN_cX2_shareDays hn_cX2_shareDays rfl rfl
theorem dX2_shareDays_50 : decode cX2_shareDays 50 = .ok (.getfield 102, 3) := qr_o180 0 102 hN_cX2_shareDays hn_cX2_shareDays rfl rfl rfl rfl
theorem dX2_shareDays_53 : decode cX2_shareDays 53 = .ok (.aload_n 3, 1) := qr_o45 hN_cX2_shareDays hn_cX2_shareDays rfl rfl
theorem dX2_shareDays_54 : decode cX2_shareDays 54 = .ok (.getfield 102, 3) := qr_o180 0 102 hN_cX2_shareDays hn_cX2_shareDays rfl rfl rfl rfl
theorem dX2_shareDays_57 : decode cX2_shareDays 57 = .ok (.isub, 1) := qr_o100 hN_cX2_shareDays hn_cX2_shareDays rfl rfl
theorem dX2_shareDays_58 : decode cX2_shareDays 58 = .ok (.invokestatic 97, 3) := qr_o184 0 97 hN_cX2_shareDays hn_cX2_shareDays rfl rfl rfl rfl
theorem dX2_shareDays_61 : decode cX2_shareDays 61 = .ok (.iload 5, 2) := qr_o21 5 hN_cX2_shareDays hn_cX2_shareDays rfl rfl rfl
theorem dX2_shareDays_63 : decode cX2_shareDays 63 = .ok (.if_icmp .gt 7, 3) := qr_o163 0 7 rfl hN_cX2_shareDays hn_cX2_shareDays rfl rfl rfl rfl
theorem dX2_shareDays_66 : decode cX2_shareDays 66 = .ok (.iconst 1, 1) := qr_o4 hN_cX2_shareDays hn_cX2_shareDays rfl rfl
theorem dX2_shareDays_67 : decode cX2_shareDays 67 = .ok (.goto 4, 3) := qr_o167 0 4 rfl hN_cX2_shareDays hn_cX2_shareDays rfl rfl rfl rfl
theorem dX2_shareDays_70 : decode cX2_shareDays 70 = .ok (.iconst 0, 1) := qr_o3 hN_cX2_shareDays hn_cX2_shareDays rfl rfl
theorem dX2_shareDays_71 : decode cX2_shareDays 71 = .ok (.ireturn, 1) := qr_o172 hN_cX2_shareDays hn_cX2_shareDays rfl rfl
def nN_cX2_holderInTheWay : Nat := 0xac1dbfffa70104843e0415acfe1006009f021d0e00a706009a7900b605192c2b2a1c00a62b7500b405192500a52c05192b00c60519053a7100b604152a3e00a23100b42a04150436033e02
theorem hN_cX2_holderInTheWay : qr_n cX2_holderInTheWay.data.toList = nN_cX2_holderInTheWay := by decide +kernel
theorem hn_cX2_holderInTheWay : cX2_holderInTheWay.size = 75 := by decide +kernel
theorem dX2_holderInTheWay_0 : decode cX2_holderInTheWay 0 = .ok (.iconst (-1), 1) := qr_o2 hN_cX2_holderInTheWay hn_cX2_holderInTheWay rfl rfl
theorem dX2_holderInTheWay_1 : decode cX2_holderInTheWay 1 = .ok (.istore_n 3, 1) := qr_o62 hN_cX2_holderInTheWay hn_cX2_holderInTheWay rfl rfl
theorem dX2_holderInTheWay_2 : decode cX2_holderInTheWay 2 = .ok (.iconst 0, 1) := qr_o3 hN_cX2_holderInTheWay hn_cX2_holderInTheWay rfl rfl
theorem dX2_holderInTheWay_3 : decode cX2_holderInTheWay 3 = .ok (.istore 4, 2) := qr_o54 4 hN_cX2_holderInTheWay hn_cX2_holderInTheWay rfl rfl rfl
theorem dX2_holderInTheWay_5 : decode cX2_holderInTheWay 5 = .ok (.iload 4, 2) := qr_o21 4 hN_cX2_holderInTheWay hn_cX2_holderInTheWay rfl rfl rfl
theorem dX2_holderInTheWay_7 : decode cX2_holderInTheWay 7 = .ok (.aload_n 0, 1) := qr_o42 hN_cX2_holderInTheWay hn_cX2_holderInTheWay rfl rfl
theorem dX2_holderInTheWay_8 : decode cX2_holderInTheWay 8 = .ok (.getfield 49, 3) := qr_o180 0 49 hN_cX2_holderInTheWay hn_cX2_holderInTheWay rfl rfl rfl rfl
theorem dX2_holderInTheWay_11 : decode cX2_holderInTheWay 11 = .ok (.if_icmp .ge 62, 3) := qr_o162 0 62 rfl hN_cX2_holderInTheWay hn_cX2_holderInTheWay rfl rfl rfl rfl
theorem dX2_holderInTheWay_14 : decode cX2_holderInTheWay 14 = .ok (.aload_n 0, 1) := qr_o42 hN_cX2_holderInTheWay hn_cX2_holderInTheWay rfl rfl
theorem dX2_holderInTheWay_15 : decode cX2_holderInTheWay 15 = .ok (.iload 4, 2) := qr_o21 4 hN_cX2_holderInTheWay hn_cX2_holderInTheWay rfl rfl rfl
theorem dX2_holderInTheWay_17 : decode cX2_holderInTheWay 17 = .ok (.invokevirtual 113, 3) := qr_o182 0 113 hN_cX2_holderInTheWay hn_cX2_holderInTheWay rfl rfl rfl rfl
theorem dX2_holderInTheWay_20 : decode cX2_holderInTheWay 20 = .ok (.astore 5, 2) := qr_o58 5 hN_cX2_holderInTheWay hn_cX2_holderInTheWay rfl rfl rfl
theorem dX2_holderInTheWay_22 : decode cX2_holderInTheWay 22 = .ok (.aload 5, 2) := qr_o25 5 hN_cX2_holderInTheWay hn_cX2_holderInTheWay rfl rfl rfl
theorem dX2_holderInTheWay_24 : decode cX2_holderInTheWay 24 = .ok (.ifnull 43, 3) := qr_o198 0 43 rfl hN_cX2_holderInTheWay hn_cX2_holderInTheWay rfl rfl rfl rfl
theorem dX2_holderInTheWay_27 : decode cX2_holderInTheWay 27 = .ok (.aload 5, 2) := qr_o25 5 hN_cX2_holderInTheWay hn_cX2_holderInTheWay rfl rfl rfl
theorem dX2_holderInTheWay_29 : decode cX2_holderInTheWay 29 = .ok (.aload_n 2, 1) := qr_o44 hN_cX2_holderInTheWay hn_cX2_holderInTheWay rfl rfl
theorem dX2_holderInTheWay_30 : decode cX2_holderInTheWay 30 = .ok (.if_acmp .eq 37, 3) := qr_o165 0 37 rfl hN_cX2_holderInTheWay hn_cX2_holderInTheWay rfl rfl rfl rfl
theorem dX2_holderInTheWay_33 : decode cX2_holderInTheWay 33 = .ok (.aload 5, 2) := qr_o25 5 hN_cX2_holderInTheWay hn_cX2_holderInTheWay rfl rfl rfl
theorem dX2_holderInTheWay_35 : decode cX2_holderInTheWay 35 = .ok (.getfield 117, 3) := qr_o180 0 117 hN_cX2_holderInTheWay hn_cX2_holderInTheWay rfl rfl rfl rfl
theorem dX2_holderInTheWay_38 : decode cX2_holderInTheWay 38 = .ok (.aload_n 1, 1) := qr_o43 hN_cX2_holderInTheWay hn_cX2_holderInTheWay rfl rfl
theorem dX2_holderInTheWay_39 : decode cX2_holderInTheWay 39 = .ok (.if_acmp .ne 28, 3) := qr_o166 0 28 rfl hN_cX2_holderInTheWay hn_cX2_holderInTheWay rfl rfl rfl rfl
theorem dX2_holderInTheWay_42 : decode cX2_holderInTheWay 42 = .ok (.aload_n 0, 1) := qr_o42 hN_cX2_holderInTheWay hn_cX2_holderInTheWay rfl rfl
theorem dX2_holderInTheWay_43 : decode cX2_holderInTheWay 43 = .ok (.aload_n 1, 1) := qr_o43 hN_cX2_holderInTheWay hn_cX2_holderInTheWay rfl rfl
theorem dX2_holderInTheWay_44 : decode cX2_holderInTheWay 44 = .ok (.aload_n 2, 1) := qr_o44 hN_cX2_holderInTheWay hn_cX2_holderInTheWay rfl rfl
theorem dX2_holderInTheWay_45 : decode cX2_holderInTheWay 45 = .ok (.aload 5, 2) := qr_o25 5 hN_cX2_holderInTheWay hn_cX2_holderInTheWay rfl rfl rfl
theorem dX2_holderInTheWay_47 : decode cX2_holderInTheWay 47 = .ok (.invokevirtual 121, 3) := qr_o182 0 121 hN_cX2_holderInTheWay hn_cX2_holderInTheWay rfl rfl rfl rfl
theorem dX2_holderInTheWay_50 : decode cX2_holderInTheWay 50 = .ok (.ifCond .ne 6, 3) := qr_o154 0 6 rfl hN_cX2_holderInTheWay hn_cX2_holderInTheWay rfl rfl rfl rfl
theorem dX2_holderInTheWay_53 : decode cX2_holderInTheWay 53 = .ok (.goto 14, 3) := qr_o167 0 14 rfl hN_cX2_holderInTheWay hn_cX2_holderInTheWay rfl rfl rfl rfl
theorem dX2_holderInTheWay_56 : decode cX2_holderInTheWay 56 = .ok (.iload_n 3, 1) := qr_o29 hN_cX2_holderInTheWay hn_cX2_holderInTheWay rfl rfl
theorem dX2_holderInTheWay_57 : decode cX2_holderInTheWay 57 = .ok (.iconst (-1), 1) := qr_o2 hN_cX2_holderInTheWay hn_cX2_holderInTheWay rfl rfl
theorem dX2_holderInTheWay_58 : decode cX2_holderInTheWay 58 = .ok (.if_icmp .eq 6, 3) := qr_o159 0 6 rfl hN_cX2_holderInTheWay hn_cX2_holderInTheWay rfl rfl rfl rfl
theorem dX2_holderInTheWay_61 : decode cX2_holderInTheWay 61 = .ok (.bipush (-2), 2) := qr_w16 254 2 rfl rfl hN_cX2_holderInTheWay hn_cX2_holderInTheWay rfl rfl rfl
theorem dX2_holderInTheWay_63 : decode cX2_holderInTheWay 63 = .ok (.ireturn, 1) := qr_o172 hN_cX2_holderInTheWay hn_cX2_holderInTheWay rfl rfl
theorem dX2_holderInTheWay_64 : decode cX2_holderInTheWay 64 = .ok (.iload 4, 2) := qr_o21 4 hN_cX2_holderInTheWay hn_cX2_holderInTheWay rfl rfl rfl
theorem dX2_holderInTheWay_66 : decode cX2_holderInTheWay 66 = .ok (.istore_n 3, 1) := qr_o62 hN_cX2_holderInTheWay hn_cX2_holderInTheWay rfl rfl
theorem dX2_holderInTheWay_67 : decode cX2_holderInTheWay 67 = .ok (.iinc 4 1, 3) := qr_o132 4 1 rfl hN_cX2_holderInTheWay hn_cX2_holderInTheWay rfl rfl rfl rfl
theorem dX2_holderInTheWay_70 : decode cX2_holderInTheWay 70 = .ok (.goto (-65), 3) := qr_w167 255 191 65 rfl rfl hN_cX2_holderInTheWay hn_cX2_holderInTheWay rfl rfl rfl rfl
theorem dX2_holderInTheWay_73 : decode cX2_holderInTheWay 73 = .ok (.iload_n 3, 1) := qr_o29 hN_cX2_holderInTheWay hn_cX2_holderInTheWay rfl rfl
theorem dX2_holderInTheWay_74 : decode cX2_holderInTheWay 74 = .ok (.ireturn, 1) := qr_o172 hN_cX2_holderInTheWay hn_cX2_holderInTheWay rfl rfl
def nN_cX2_isFree : Nat := 0xac030400a7040700a0028000b62c2b2a1100997d00b66600b42c2b
theorem hN_cX2_isFree : qr_n cX2_isFree.data.toList = nN_cX2_isFree := by decide +kernel
theorem hn_cX2_isFree : cX2_isFree.size = 27 := by decide +kernel
theorem dX2_isFree_0 : decode cX2_isFree 0 = .ok (.aload_n 1, 1) := qr_o43 hN_cX2_isFree hn_cX2_isFree rfl rfl
theorem dX2_isFree_1 : decode cX2_isFree 1 = .ok (.aload_n 2, 1) := qr_o44 hN_cX2_isFree hn_cX2_isFree rfl rfl
theorem dX2_isFree_2 : decode cX2_isFree 2 = .ok (.getfield 102, 3) := qr_o180 0 102 hN_cX2_isFree hn_cX2_isFree rfl rfl rfl rfl
theorem dX2_isFree_5 : decode cX2_isFree 5 = .ok (.invokevirtual 125, 3) := qr_o182 0 125 hN_cX2_isFree hn_cX2_isFree rfl rfl rfl rfl
theorem dX2_isFree_8 : decode cX2_isFree 8 = .ok (.ifCond .eq 17, 3) := qr_o153 0 17 rfl hN_cX2_isFree hn_cX2_isFree rfl rfl rfl rfl
theorem dX2_isFree_11 : decode cX2_isFree 11 = .ok (.aload_n 0, 1) := qr_o42 hN_cX2_isFree hn_cX2_isFree rfl rfl
theorem dX2_isFree_12 : decode cX2_isFree 12 = .ok (.aload_n 1, 1) := qr_o43 hN_cX2_isFree hn_cX2_isFree rfl rfl
theorem dX2_isFree_13 : decode cX2_isFree 13 = .ok (.aload_n 2, 1) := qr_o44 hN_cX2_isFree hn_cX2_isFree rfl rfl
theorem dX2_isFree_14 : decode cX2_isFree 14 = .ok (.invokevirtual 128, 3) := qr_o182 0 128 hN_cX2_isFree hn_cX2_isFree rfl rfl rfl rfl
theorem dX2_isFree_17 : decode cX2_isFree 17 = .ok (.iconst (-1), 1) := qr_o2 hN_cX2_isFree hn_cX2_isFree rfl rfl
theorem dX2_isFree_18 : decode cX2_isFree 18 = .ok (.if_icmp .ne 7, 3) := qr_o160 0 7 rfl hN_cX2_isFree hn_cX2_isFree rfl rfl rfl rfl
theorem dX2_isFree_21 : decode cX2_isFree 21 = .ok (.iconst 1, 1) := qr_o4 hN_cX2_isFree hn_cX2_isFree rfl rfl
theorem dX2_isFree_22 : decode cX2_isFree 22 = .ok (.goto 4, 3) := qr_o167 0 4 rfl hN_cX2_isFree hn_cX2_isFree rfl rfl rfl rfl
theorem dX2_isFree_25 : decode cX2_isFree 25 = .ok (.iconst 0, 1) := qr_o3 hN_cX2_isFree hn_cX2_isFree rfl rfl
theorem dX2_isFree_26 : decode cX2_isFree 26 = .ok (.ireturn, 1) := qr_o172 hN_cX2_isFree hn_cX2_isFree rfl rfl
def nN_cX2_bestFor : Nat := 0xb02db0ffa70104844e05190600999200b62b2d05192a0e00c62d1500998f00b62b05192a1f00998b00b62b05192a2900a706009f1c8800b405190f009f021c3a00c60519053a8400b604152a4d00a22d00b42a04150436034e01
theorem hN_cX2_bestFor : qr_n cX2_bestFor.data.toList = nN_cX2_bestFor := by decide +kernel
theorem hn_cX2_bestFor : cX2_bestFor.size = 90 := by decide +kernel
theorem dX2_bestFor_0 : decode cX2_bestFor 0 = .ok (.aconst_null, 1) := qr_o1 hN_cX2_bestFor hn_cX2_bestFor rfl rfl
theorem dX2_bestFor_1 : decode cX2_bestFor 1 = .ok (.astore_n 3, 1) := qr_o78 hN_cX2_bestFor hn_cX2_bestFor rfl rfl
theorem dX2_bestFor_2 : decode cX2_bestFor 2 = .ok (.iconst 0, 1) := qr_o3 hN_cX2_bestFor hn_cX2_bestFor rfl rfl
theorem dX2_bestFor_3 : decode cX2_bestFor 3 = .ok (.istore 4, 2) := qr_o54 4 hN_cX2_bestFor hn_cX2_bestFor rfl rfl rfl
theorem dX2_bestFor_5 : decode cX2_bestFor 5 = .ok (.iload 4, 2) := qr_o21 4 hN_cX2_bestFor hn_cX2_bestFor rfl rfl rfl
theorem dX2_bestFor_7 : decode cX2_bestFor 7 = .ok (.aload_n 0, 1) := qr_o42 hN_cX2_bestFor hn_cX2_bestFor rfl rfl
theorem dX2_bestFor_8 : decode cX2_bestFor 8 = .ok (.getfield 45, 3) := qr_o180 0 45 hN_cX2_bestFor hn_cX2_bestFor rfl rfl rfl rfl
theorem dX2_bestFor_11 : decode cX2_bestFor 11 = .ok (.if_icmp .ge 77, 3) := qr_o162 0 77 rfl hN_cX2_bestFor hn_cX2_bestFor rfl rfl rfl rfl
theorem dX2_bestFor_14 : decode cX2_bestFor 14 = .ok (.aload_n 0, 1) := qr_o42 hN_cX2_bestFor hn_cX2_bestFor rfl rfl
theorem dX2_bestFor_15 : decode cX2_bestFor 15 = .ok (.iload 4, 2) := qr_o21 4 hN_cX2_bestFor hn_cX2_bestFor rfl rfl rfl
theorem dX2_bestFor_17 : decode cX2_bestFor 17 = .ok (.invokevirtual 132, 3) := qr_o182 0 132 hN_cX2_bestFor hn_cX2_bestFor rfl rfl rfl rfl
theorem dX2_bestFor_20 : decode cX2_bestFor 20 = .ok (.astore 5, 2) := qr_o58 5 hN_cX2_bestFor hn_cX2_bestFor rfl rfl rfl
theorem dX2_bestFor_22 : decode cX2_bestFor 22 = .ok (.aload 5, 2) := qr_o25 5 hN_cX2_bestFor hn_cX2_bestFor rfl rfl rfl
theorem dX2_bestFor_24 : decode cX2_bestFor 24 = .ok (.ifnull 58, 3) := qr_o198 0 58 rfl hN_cX2_bestFor hn_cX2_bestFor rfl rfl rfl rfl
theorem dX2_bestFor_27 : decode cX2_bestFor 27 = .ok (.iload_n 2, 1) := qr_o28 hN_cX2_bestFor hn_cX2_bestFor rfl rfl
theorem dX2_bestFor_28 : decode cX2_bestFor 28 = .ok (.iconst (-1), 1) := qr_o2 hN_cX2_bestFor hn_cX2_bestFor rfl rfl
theorem dX2_bestFor_29 : decode cX2_bestFor 29 = .ok (.if_icmp .eq 15, 3) := qr_o159 0 15 rfl hN_cX2_bestFor hn_cX2_bestFor rfl rfl rfl rfl
theorem dX2_bestFor_32 : decode cX2_bestFor 32 = .ok (.aload 5, 2) := qr_o25 5 hN_cX2_bestFor hn_cX2_bestFor rfl rfl rfl
theorem dX2_bestFor_34 : decode cX2_bestFor 34 = .ok (.getfield 136, 3) := qr_o180 0 136 hN_cX2_bestFor hn_cX2_bestFor rfl rfl rfl rfl
theorem dX2_bestFor_37 : decode cX2_bestFor 37 = .ok (.iload_n 2, 1) := qr_o28 hN_cX2_bestFor hn_cX2_bestFor rfl rfl
theorem dX2_bestFor_38 : decode cX2_bestFor 38 = .ok (.if_icmp .eq 6, 3) := qr_o159 0 6 rfl hN_cX2_bestFor hn_cX2_bestFor rfl rfl rfl rfl
theorem dX2_bestFor_41 : decode cX2_bestFor 41 = .ok (.goto 41, 3) := qr_o167 0 41 rfl hN_cX2_bestFor hn_cX2_bestFor rfl rfl rfl rfl
theorem dX2_bestFor_44 : decode cX2_bestFor 44 = .ok (.aload_n 0, 1) := qr_o42 hN_cX2_bestFor hn_cX2_bestFor rfl rfl
theorem dX2_bestFor_45 : decode cX2_bestFor 45 = .ok (.aload 5, 2) := qr_o25 5 hN_cX2_bestFor hn_cX2_bestFor rfl rfl rfl
theorem dX2_bestFor_47 : decode cX2_bestFor 47 = .ok (.aload_n 1, 1) := qr_o43 hN_cX2_bestFor hn_cX2_bestFor rfl rfl
theorem dX2_bestFor_48 : decode cX2_bestFor 48 = .ok (.invokevirtual 139, 3) := qr_o182 0 139 hN_cX2_bestFor hn_cX2_bestFor rfl rfl rfl rfl
theorem dX2_bestFor_51 : decode cX2_bestFor 51 = .ok (.ifCond .eq 31, 3) := qr_o153 0 31 rfl hN_cX2_bestFor hn_cX2_bestFor rfl rfl rfl rfl
theorem dX2_bestFor_54 : decode cX2_bestFor 54 = .ok (.aload_n 0, 1) := qr_o42 hN_cX2_bestFor hn_cX2_bestFor rfl rfl
theorem dX2_bestFor_55 : decode cX2_bestFor 55 = .ok (.aload 5, 2) := qr_o25 5 hN_cX2_bestFor hn_cX2_bestFor rfl rfl rfl
theorem dX2_bestFor_57 : decode cX2_bestFor 57 = .ok (.aload_n 1, 1) := qr_o43 hN_cX2_bestFor hn_cX2_bestFor rfl rfl
theorem dX2_bestFor_58 : decode cX2_bestFor 58 = .ok (.invokevirtual 143, 3) := qr_o182 0 143 hN_cX2_bestFor hn_cX2_bestFor rfl rfl rfl rfl
theorem dX2_bestFor_61 : decode cX2_bestFor 61 = .ok (.ifCond .eq 21, 3) := qr_o153 0 21 rfl hN_cX2_bestFor hn_cX2_bestFor rfl rfl rfl rfl
theorem dX2_bestFor_64 : decode cX2_bestFor 64 = .ok (.aload_n 3, 1) := qr_o45 hN_cX2_bestFor hn_cX2_bestFor rfl rfl
theorem dX2_bestFor_65 : decode cX2_bestFor 65 = .ok (.ifnull 14, 3) := qr_o198 0 14 rfl hN_cX2_bestFor hn_cX2_bestFor rfl rfl rfl rfl
theorem dX2_bestFor_68 : decode cX2_bestFor 68 = .ok (.aload_n 0, 1) := qr_o42 hN_cX2_bestFor hn_cX2_bestFor rfl rfl
theorem dX2_bestFor_69 : decode cX2_bestFor 69 = .ok (.aload 5, 2) := qr_o25 5 hN_cX2_bestFor hn_cX2_bestFor rfl rfl rfl
theorem dX2_bestFor_71 : decode cX2_bestFor 71 = .ok (.aload_n 3, 1) := qr_o45 hN_cX2_bestFor hn_cX2_bestFor rfl rfl
theorem dX2_bestFor_72 : decode cX2_bestFor 72 = .ok (.aload_n 1, 1) := qr_o43 hN_cX2_bestFor hn_cX2_bestFor rfl rfl
theorem dX2_bestFor_73 : decode cX2_bestFor 73 = .ok (.invokevirtual 146, 3) := qr_o182 0 146 hN_cX2_bestFor hn_cX2_bestFor rfl rfl rfl rfl
theorem dX2_bestFor_76 : decode cX2_bestFor 76 = .ok (.ifCond .eq 6, 3) := qr_o153 0 6 rfl hN_cX2_bestFor hn_cX2_bestFor rfl rfl rfl rfl
theorem dX2_bestFor_79 : decode cX2_bestFor 79 = .ok (.aload 5, 2) := qr_o25 5 hN_cX2_bestFor hn_cX2_bestFor rfl rfl rfl
theorem dX2_bestFor_81 : decode cX2_bestFor 81 = .ok (.astore_n 3, 1) := qr_o78 hN_cX2_bestFor hn_cX2_bestFor rfl rfl
theorem dX2_bestFor_82 : decode cX2_bestFor 82 = .ok (.iinc 4 1, 3) := qr_o132 4 1 rfl hN_cX2_bestFor hn_cX2_bestFor rfl rfl rfl rfl
theorem dX2_bestFor_85 : decode cX2_bestFor 85 = .ok (.goto (-80), 3) := qr_w167 255 176 80 rfl rfl hN_cX2_bestFor hn_cX2_bestFor rfl rfl rfl rfl
theorem dX2_bestFor_88 : decode cX2_bestFor 88 = .ok (.aload_n 3, 1) := qr_o45 hN_cX2_bestFor hn_cX2_bestFor rfl rfl
theorem dX2_bestFor_89 : decode cX2_bestFor 89 = .ok (.areturn, 1) := qr_o176 hN_cX2_bestFor hn_cX2_bestFor rfl rfl
def nN_cX2_isBetter : Nat := 0xac030400a7040700a26d00b66c00b42d6900b42c2a6d00b66c00b42d6900b42b2aac030400a7040700a20515041510009f0515041505369600b62d2c2a04369600b62d2b2a
theorem hN_cX2_isBetter : qr_n cX2_isBetter.data.toList = nN_cX2_isBetter := by decide +kernel
theorem hn_cX2_isBetter : cX2_isBetter.size = 69 := by decide +kernel
theorem dX2_isBetter_0 : decode cX2_isBetter 0 = .ok (.aload_n 0, 1) := qr_o42 hN_cX2_isBetter hn_cX2_isBetter rfl rfl
theorem dX2_isBetter_1 : decode cX2_isBetter 1 = .ok (.aload_n 1, 1) := qr_o43 hN_cX2_isBetter hn_cX2_isBetter rfl rfl
theorem dX2_isBetter_2 : decode cX2_isBetter 2 = .ok (.aload_n 3, 1) := qr_o45 hN_cX2_isBetter hn_cX2_isBetter rfl rfl
theorem dX2_isBetter_3 : decode cX2_isBetter 3 = .ok (.invokevirtual 150, 3) := qr_o182 0 150 hN_cX2_isBetter hn_cX2_isBetter rfl rfl rfl rfl
theorem dX2_isBetter_6 : decode cX2_isBetter 6 = .ok (.istore 4, 2) := qr_o54 4 hN_cX2_isBetter hn_cX2_isBetter rfl rfl rfl
theorem dX2_isBetter_8 : decode cX2_isBetter 8 = .ok (.aload_n 0, 1) := qr_o42 hN_cX2_isBetter hn_cX2_isBetter rfl rfl
theorem dX2_isBetter_9 : decode cX2_isBetter 9 = .ok (.aload_n 2, 1) := qr_o44 hN_cX2_isBetter hn_cX2_isBetter rfl rfl
theorem dX2_isBetter_10 : decode cX2_isBetter 10 = .ok (.aload_n 3, 1) := qr_o45 hN_cX2_isBetter hn_cX2_isBetter rfl rfl
theorem dX2_isBetter_11 : decode cX2_isBetter 11 = .ok (.invokevirtual 150, 3) := qr_o182 0 150 hN_cX2_isBetter hn_cX2_isBetter rfl rfl rfl rfl
theorem dX2_isBetter_14 : decode cX2_isBetter 14 = .ok (.istore 5, 2) := qr_o54 5 hN_cX2_isBetter hn_cX2_isBetter rfl rfl rfl
theorem dX2_isBetter_16 : decode cX2_isBetter 16 = .ok (.iload 4, 2) := qr_o21 4 hN_cX2_isBetter hn_cX2_isBetter rfl rfl rfl
theorem dX2_isBetter_18 : decode cX2_isBetter 18 = .ok (.iload 5, 2) := qr_o21 5 hN_cX2_isBetter hn_cX2_isBetter rfl rfl rfl
theorem dX2_isBetter_20 : decode cX2_isBetter 20 = .ok (.if_icmp .eq 16, 3) := qr_o159 0 16 rfl hN_cX2_isBetter hn_cX2_isBetter rfl rfl rfl rfl
theorem dX2_isBetter_23 : decode cX2_isBetter 23 = .ok (.iload 4, 2) := qr_o21 4 hN_cX2_isBetter hn_cX2_isBetter rfl rfl rfl
theorem dX2_isBetter_25 : decode cX2_isBetter 25 = .ok (.iload 5, 2) := qr_o21 5 hN_cX2_isBetter hn_cX2_isBetter rfl rfl rfl
theorem dX2_isBetter_27 : decode cX2_isBetter 27 = .ok (.if_icmp .ge 7, 3) := qr_o162 0 7 rfl hN_cX2_isBetter hn_cX2_isBetter rfl rfl rfl rfl
theorem dX2_isBetter_30 : decode cX2_isBetter 30 = .ok (.iconst 1, 1) := qr_o4 hN_cX2_isBetter hn_cX2_isBetter rfl rfl
theorem dX2_isBetter_31 : decode cX2_isBetter 31 = .ok (.goto 4, 3) := qr_o167 0 4 rfl hN_cX2_isBetter hn_cX2_isBetter rfl rfl rfl rfl
theorem dX2_isBetter_34 : decode cX2_isBetter 34 = .ok (.iconst 0, 1) := qr_o3 hN_cX2_isBetter hn_cX2_isBetter rfl rfl
theorem dX2_isBetter_35 : decode cX2_isBetter 35 = .ok (.ireturn, 1) := qr_o172 hN_cX2_isBetter hn_cX2_isBetter rfl rfl
theorem dX2_isBetter_36 : decode cX2_isBetter 36 = .ok (.aload_n 0, 1) := qr_o42 hN_cX2_isBetter hn_cX2_isBetter rfl rfl
theorem dX2_isBetter_37 : decode cX2_isBetter 37 = .ok (.aload_n 1, 1) := qr_o43 hN_cX2_isBetter hn_cX2_isBetter rfl rfl
theorem dX2_isBetter_38 : decode cX2_isBetter 38 = .ok (.getfield 105, 3) := qr_o180 0 105 hN_cX2_isBetter hn_cX2_isBetter rfl rfl rfl rfl
theorem dX2_isBetter_41 : decode cX2_isBetter 41 = .ok (.aload_n 3, 1) := qr_o45 hN_cX2_isBetter hn_cX2_isBetter rfl rfl
theorem dX2_isBetter_42 : decode cX2_isBetter 42 = .ok (.getfield 108, 3) := qr_o180 0 108 hN_cX2_isBetter hn_cX2_isBetter rfl rfl rfl rfl
theorem dX2_isBetter_45 : decode cX2_isBetter 45 = .ok (.invokevirtual 109, 3) := qr_o182 0 109 hN_cX2_isBetter hn_cX2_isBetter rfl rfl rfl rfl
theorem dX2_isBetter_48 : decode cX2_isBetter 48 = .ok (.aload_n 0, 1) := qr_o42 hN_cX2_isBetter hn_cX2_isBetter rfl rfl
theorem dX2_isBetter_49 : decode cX2_isBetter 49 = .ok (.aload_n 2, 1) := qr_o44 hN_cX2_isBetter hn_cX2_isBetter rfl rfl
theorem dX2_isBetter_50 : decode cX2_isBetter 50 = .ok (.getfield 105, 3) := qr_o180 0 105 hN_cX2_isBetter hn_cX2_isBetter rfl rfl rfl rfl
theorem dX2_isBetter_53 : decode cX2_isBetter 53 = .ok (.aload_n 3, 1) := qr_o45 hN_cX2_isBetter hn_cX2_isBetter rfl rfl
theorem dX2_isBetter_54 : decode cX2_isBetter 54 = .ok (.getfield 108, 3) := qr_o180 0 108 hN_cX2_isBetter hn_cX2_isBetter rfl rfl rfl rfl
theorem dX2_isBetter_57 : decode cX2_isBetter 57 = .ok (.invokevirtual 109, 3) := qr_o182 0 109 hN_cX2_isBetter hn_cX2_isBetter rfl rfl rfl rfl
theorem dX2_isBetter_60 : decode cX2_isBetter 60 = .ok (.if_icmp .ge 7, 3) := qr_o162 0 7 rfl hN_cX2_isBetter hn_cX2_isBetter rfl rfl rfl rfl
theorem dX2_isBetter_63 : decode cX2_isBetter 63 = .ok (.iconst 1, 1) := qr_o4 hN_cX2_isBetter hn_cX2_isBetter rfl rfl
theorem dX2_isBetter_64 : decode cX2_isBetter 64 = .ok (.goto 4, 3) := qr_o167 0 4 rfl hN_cX2_isBetter hn_cX2_isBetter rfl rfl rfl rfl
theorem dX2_isBetter_67 : decode cX2_isBetter 67 = .ok (.iconst 0, 1) := qr_o3 hN_cX2_isBetter hn_cX2_isBetter rfl rfl
theorem dX2_isBetter_68 : decode cX2_isBetter 68 = .ok (.ireturn, 1) := qr_o172 hN_cX2_isBetter hn_cX2_isBetter rfl rfl
def nN_cX2_takeFromNights : Nat := 0xac1dc4ffa70104840103847500b50105190c009a9900b605191400a11c6600b405191d00a62b7500b405192600c60519053a7100b604152a3900a23100b42a04150436033e03
theorem hN_cX2_takeFromNights : qr_n cX2_takeFromNights.data.toList = nN_cX2_takeFromNights := by decide +kernel
theorem hn_cX2_takeFromNights : cX2_takeFromNights.size = 70 := by decide +kernel
theorem dX2_takeFromNights_0 : decode cX2_takeFromNights 0 = .ok (.iconst 0, 1) := qr_o3 hN_cX2_takeFromNights hn_cX2_takeFromNights rfl rfl
theorem dX2_takeFromNights_1 : decode cX2_takeFromNights 1 = .ok (.istore_n 3, 1) := qr_o62 hN_cX2_takeFromNights hn_cX2_takeFromNights rfl rfl
theorem dX2_takeFromNights_2 : decode cX2_takeFromNights 2 = .ok (.iconst 0, 1) := qr_o3 hN_cX2_takeFromNights hn_cX2_takeFromNights rfl rfl
theorem dX2_takeFromNights_3 : decode cX2_takeFromNights 3 = .ok (.istore 4, 2) := qr_o54 4 hN_cX2_takeFromNights hn_cX2_takeFromNights rfl rfl rfl
theorem dX2_takeFromNights_5 : decode cX2_takeFromNights 5 = .ok (.iload 4, 2) := qr_o21 4 hN_cX2_takeFromNights hn_cX2_takeFromNights rfl rfl rfl
theorem dX2_takeFromNights_7 : decode cX2_takeFromNights 7 = .ok (.aload_n 0, 1) := qr_o42 hN_cX2_takeFromNights hn_cX2_takeFromNights rfl rfl
theorem dX2_takeFromNights_8 : decode cX2_takeFromNights 8 = .ok (.getfield 49, 3) := qr_o180 0 49 hN_cX2_takeFromNights hn_cX2_takeFromNights rfl rfl rfl rfl
theorem dX2_takeFromNights_11 : decode cX2_takeFromNights 11 = .ok (.if_icmp .ge 57, 3) := qr_o162 0 57 rfl hN_cX2_takeFromNights hn_cX2_takeFromNights rfl rfl rfl rfl
theorem dX2_takeFromNights_14 : decode cX2_takeFromNights 14 = .ok (.aload_n 0, 1) := qr_o42 hN_cX2_takeFromNights hn_cX2_takeFromNights rfl rfl
theorem dX2_takeFromNights_15 : decode cX2_takeFromNights 15 = .ok (.iload 4, 2) := qr_o21 4 hN_cX2_takeFromNights hn_cX2_takeFromNights rfl rfl rfl
theorem dX2_takeFromNights_17 : decode cX2_takeFromNights 17 = .ok (.invokevirtual 113, 3) := qr_o182 0 113 hN_cX2_takeFromNights hn_cX2_takeFromNights rfl rfl rfl rfl
theorem dX2_takeFromNights_20 : decode cX2_takeFromNights 20 = .ok (.astore 5, 2) := qr_o58 5 hN_cX2_takeFromNights hn_cX2_takeFromNights rfl rfl rfl
theorem dX2_takeFromNights_22 : decode cX2_takeFromNights 22 = .ok (.aload 5, 2) := qr_o25 5 hN_cX2_takeFromNights hn_cX2_takeFromNights rfl rfl rfl
theorem dX2_takeFromNights_24 : decode cX2_takeFromNights 24 = .ok (.ifnull 38, 3) := qr_o198 0 38 rfl hN_cX2_takeFromNights hn_cX2_takeFromNights rfl rfl rfl rfl
theorem dX2_takeFromNights_27 : decode cX2_takeFromNights 27 = .ok (.aload 5, 2) := qr_o25 5 hN_cX2_takeFromNights hn_cX2_takeFromNights rfl rfl rfl
theorem dX2_takeFromNights_29 : decode cX2_takeFromNights 29 = .ok (.getfield 117, 3) := qr_o180 0 117 hN_cX2_takeFromNights hn_cX2_takeFromNights rfl rfl rfl rfl
theorem dX2_takeFromNights_32 : decode cX2_takeFromNights 32 = .ok (.aload_n 1, 1) := qr_o43 hN_cX2_takeFromNights hn_cX2_takeFromNights rfl rfl
theorem dX2_takeFromNights_33 : decode cX2_takeFromNights 33 = .ok (.if_acmp .ne 29, 3) := qr_o166 0 29 rfl hN_cX2_takeFromNights hn_cX2_takeFromNights rfl rfl rfl rfl
theorem dX2_takeFromNights_36 : decode cX2_takeFromNights 36 = .ok (.aload 5, 2) := qr_o25 5 hN_cX2_takeFromNights hn_cX2_takeFromNights rfl rfl rfl
theorem dX2_takeFromNights_38 : decode cX2_takeFromNights 38 = .ok (.getfield 102, 3) := qr_o180 0 102 hN_cX2_takeFromNights hn_cX2_takeFromNights rfl rfl rfl rfl
theorem dX2_takeFromNights_41 : decode cX2_takeFromNights 41 = .ok (.iload_n 2, 1) := qr_o28 hN_cX2_takeFromNights hn_cX2_takeFromNights rfl rfl
theorem dX2_takeFromNights_42 : decode cX2_takeFromNights 42 = .ok (.if_icmp .lt 20, 3) := qr_o161 0 20 rfl hN_cX2_takeFromNights hn_cX2_takeFromNights rfl rfl rfl rfl
theorem dX2_takeFromNights_45 : decode cX2_takeFromNights 45 = .ok (.aload 5, 2) := qr_o25 5 hN_cX2_takeFromNights hn_cX2_takeFromNights rfl rfl rfl
theorem dX2_takeFromNights_47 : decode cX2_takeFromNights 47 = .ok (.invokevirtual 153, 3) := qr_o182 0 153 hN_cX2_takeFromNights hn_cX2_takeFromNights rfl rfl rfl rfl
theorem dX2_takeFromNights_50 : decode cX2_takeFromNights 50 = .ok (.ifCond .ne 12, 3) := qr_o154 0 12 rfl hN_cX2_takeFromNights hn_cX2_takeFromNights rfl rfl rfl rfl
theorem dX2_takeFromNights_53 : decode cX2_takeFromNights 53 = .ok (.aload 5, 2) := qr_o25 5 hN_cX2_takeFromNights hn_cX2_takeFromNights rfl rfl rfl
theorem dX2_takeFromNights_55 : decode cX2_takeFromNights 55 = .ok (.aconst_null, 1) := qr_o1 hN_cX2_takeFromNights hn_cX2_takeFromNights rfl rfl
theorem dX2_takeFromNights_56 : decode cX2_takeFromNights 56 = .ok (.putfield 117, 3) := qr_o181 0 117 hN_cX2_takeFromNights hn_cX2_takeFromNights rfl rfl rfl rfl
theorem dX2_takeFromNights_59 : decode cX2_takeFromNights 59 = .ok (.iinc 3 1, 3) := qr_o132 3 1 rfl hN_cX2_takeFromNights hn_cX2_takeFromNights rfl rfl rfl rfl
theorem dX2_takeFromNights_62 : decode cX2_takeFromNights 62 = .ok (.iinc 4 1, 3) := qr_o132 4 1 rfl hN_cX2_takeFromNights hn_cX2_takeFromNights rfl rfl rfl rfl
theorem dX2_takeFromNights_65 : decode cX2_takeFromNights 65 = .ok (.goto (-60), 3) := qr_w167 255 196 60 rfl rfl hN_cX2_takeFromNights hn_cX2_takeFromNights rfl rfl rfl rfl
theorem dX2_takeFromNights_68 : decode cX2_takeFromNights 68 = .ok (.iload_n 3, 1) := qr_o29 hN_cX2_takeFromNights hn_cX2_takeFromNights rfl rfl
theorem dX2_takeFromNights_69 : decode cX2_takeFromNights 69 = .ok (.ireturn, 1) := qr_o172 hN_cX2_takeFromNights hn_cX2_takeFromNights rfl rfl
def nN_cX2_isMember : Nat := 0xac030400a70407009aa000b62b0e00a01c9d00b42b1600c62b
theorem hN_cX2_isMember : qr_n cX2_isMember.data.toList = nN_cX2_isMember := by decide +kernel
theorem hn_cX2_isMember : cX2_isMember.size = 25 := by decide +kernel
theorem dX2_isMember_0 : decode cX2_isMember 0 = .ok (.aload_n 1, 1) := qr_o43 hN_cX2_isMember hn_cX2_isMember rfl rfl
theorem dX2_isMember_1 : decode cX2_isMember 1 = .ok (.ifnull 22, 3) := qr_o198 0 22 rfl hN_cX2_isMember hn_cX2_isMember rfl rfl rfl rfl
theorem dX2_isMember_4 : decode cX2_isMember 4 = .ok (.aload_n 1, 1) := qr_o43 hN_cX2_isMember hn_cX2_isMember rfl rfl
theorem dX2_isMember_5 : decode cX2_isMember 5 = .ok (.getfield 157, 3) := qr_o180 0 157 hN_cX2_isMember hn_cX2_isMember rfl rfl rfl rfl
theorem dX2_isMember_8 : decode cX2_isMember 8 = .ok (.iload_n 2, 1) := qr_o28 hN_cX2_isMember hn_cX2_isMember rfl rfl
theorem dX2_isMember_9 : decode cX2_isMember 9 = .ok (.if_icmp .ne 14, 3) := qr_o160 0 14 rfl hN_cX2_isMember hn_cX2_isMember rfl rfl rfl rfl
theorem dX2_isMember_12 : decode cX2_isMember 12 = .ok (.aload_n 1, 1) := qr_o43 hN_cX2_isMember hn_cX2_isMember rfl rfl
theorem dX2_isMember_13 : decode cX2_isMember 13 = .ok (.invokevirtual 160, 3) := qr_o182 0 160 hN_cX2_isMember hn_cX2_isMember rfl rfl rfl rfl
theorem dX2_isMember_16 : decode cX2_isMember 16 = .ok (.ifCond .ne 7, 3) := qr_o154 0 7 rfl hN_cX2_isMember hn_cX2_isMember rfl rfl rfl rfl
theorem dX2_isMember_19 : decode cX2_isMember 19 = .ok (.iconst 1, 1) := qr_o4 hN_cX2_isMember hn_cX2_isMember rfl rfl
theorem dX2_isMember_20 : decode cX2_isMember 20 = .ok (.goto 4, 3) := qr_o167 0 4 rfl hN_cX2_isMember hn_cX2_isMember rfl rfl rfl rfl
theorem dX2_isMember_23 : decode cX2_isMember 23 = .ok (.iconst 0, 1) := qr_o3 hN_cX2_isMember hn_cX2_isMember rfl rfl
theorem dX2_isMember_24 : decode cX2_isMember 24 = .ok (.ireturn, 1) := qr_o172 hN_cX2_isMember hn_cX2_isMember rfl rfl
def nN_cX2_membersOf : Nat := 0xac1ce5ffa7010384010284060099a300b61b7100b61d2a2a1900a23100b42a1d3e033d03
theorem hN_cX2_membersOf : qr_n cX2_membersOf.data.toList = nN_cX2_membersOf := by decide +kernel
theorem hn_cX2_membersOf : cX2_membersOf.size = 36 := by decide +kernel
theorem dX2_membersOf_0 : decode cX2_membersOf 0 = .ok (.iconst 0, 1) := qr_o3 hN_cX2_membersOf hn_cX2_membersOf rfl rfl
theorem dX2_membersOf_1 : decode cX2_membersOf 1 = .ok (.istore_n 2, 1) := qr_o61 hN_cX2_membersOf hn_cX2_membersOf rfl rfl
theorem dX2_membersOf_2 : decode cX2_membersOf 2 = .ok (.iconst 0, 1) := qr_o3 hN_cX2_membersOf hn_cX2_membersOf rfl rfl
theorem dX2_membersOf_3 : decode cX2_membersOf 3 = .ok (.istore_n 3, 1) := qr_o62 hN_cX2_membersOf hn_cX2_membersOf rfl rfl
theorem dX2_membersOf_4 : decode cX2_membersOf 4 = .ok (.iload_n 3, 1) := qr_o29 hN_cX2_membersOf hn_cX2_membersOf rfl rfl
theorem dX2_membersOf_5 : decode cX2_membersOf 5 = .ok (.aload_n 0, 1) := qr_o42 hN_cX2_membersOf hn_cX2_membersOf rfl rfl
theorem dX2_membersOf_6 : decode cX2_membersOf 6 = .ok (.getfield 49, 3) := qr_o180 0 49 hN_cX2_membersOf hn_cX2_membersOf rfl rfl rfl rfl
theorem dX2_membersOf_9 : decode cX2_membersOf 9 = .ok (.if_icmp .ge 25, 3) := qr_o162 0 25 rfl hN_cX2_membersOf hn_cX2_membersOf rfl rfl rfl rfl
theorem dX2_membersOf_12 : decode cX2_membersOf 12 = .ok (.aload_n 0, 1) := qr_o42 hN_cX2_membersOf hn_cX2_membersOf rfl rfl
theorem dX2_membersOf_13 : decode cX2_membersOf 13 = .ok (.aload_n 0, 1) := qr_o42 hN_cX2_membersOf hn_cX2_membersOf rfl rfl
theorem dX2_membersOf_14 : decode cX2_membersOf 14 = .ok (.iload_n 3, 1) := qr_o29 hN_cX2_membersOf hn_cX2_membersOf rfl rfl
theorem dX2_membersOf_15 : decode cX2_membersOf 15 = .ok (.invokevirtual 113, 3) := qr_o182 0 113 hN_cX2_membersOf hn_cX2_membersOf rfl rfl rfl rfl
theorem dX2_membersOf_18 : decode cX2_membersOf 18 = .ok (.iload_n 1, 1) := qr_o27 hN_cX2_membersOf hn_cX2_membersOf rfl rfl
theorem dX2_membersOf_19 : decode cX2_membersOf 19 = .ok (.invokevirtual 163, 3) := qr_o182 0 163 hN_cX2_membersOf hn_cX2_membersOf rfl rfl rfl rfl
theorem dX2_membersOf_22 : decode cX2_membersOf 22 = .ok (.ifCond .eq 6, 3) := qr_o153 0 6 rfl hN_cX2_membersOf hn_cX2_membersOf rfl rfl rfl rfl
theorem dX2_membersOf_25 : decode cX2_membersOf 25 = .ok (.iinc 2 1, 3) := qr_o132 2 1 rfl hN_cX2_membersOf hn_cX2_membersOf rfl rfl rfl rfl
theorem dX2_membersOf_28 : decode cX2_membersOf 28 = .ok (.iinc 3 1, 3) := qr_o132 3 1 rfl hN_cX2_membersOf hn_cX2_membersOf rfl rfl rfl rfl
theorem dX2_membersOf_31 : decode cX2_membersOf 31 = .ok (.goto (-27), 3) := qr_w167 255 229 27 rfl rfl hN_cX2_membersOf hn_cX2_membersOf rfl rfl rfl rfl
theorem dX2_membersOf_34 : decode cX2_membersOf 34 = .ok (.iload_n 2, 1) := qr_o28 hN_cX2_membersOf hn_cX2_membersOf rfl rfl
theorem dX2_membersOf_35 : decode cX2_membersOf 35 = .ok (.ireturn, 1) := qr_o172 hN_cX2_membersOf hn_cX2_membersOf rfl rfl
def nN_cX2_matchedIn : Nat := 0xac1dab00b62aacffa70104840103840600a01c8800b47500b405191200c67500b40519540404152900b42a7500b5a700b61c05192a05191700c77500b405193600a706009aa300b61b05192a053a7100b604152a5100a23100b42a04150436033e03
theorem hN_cX2_matchedIn : qr_n cX2_matchedIn.data.toList = nN_cX2_matchedIn := by decide +kernel
theorem hn_cX2_matchedIn : cX2_matchedIn.size = 98 := by decide +kernel
theorem dX2_matchedIn_0 : decode cX2_matchedIn 0 = .ok (.iconst 0, 1) := qr_o3 hN_cX2_matchedIn hn_cX2_matchedIn rfl rfl
theorem dX2_matchedIn_1 : decode cX2_matchedIn 1 = .ok (.istore_n 3, 1) := qr_o62 hN_cX2_matchedIn hn_cX2_matchedIn rfl rfl
theorem dX2_matchedIn_2 : decode cX2_matchedIn 2 = .ok (.iconst 0, 1) := qr_o3 hN_cX2_matchedIn hn_cX2_matchedIn rfl rfl
theorem dX2_matchedIn_3 : decode cX2_matchedIn 3 = .ok (.istore 4, 2) := qr_o54 4 hN_cX2_matchedIn hn_cX2_matchedIn rfl rfl rfl
theorem dX2_matchedIn_5 : decode cX2_matchedIn 5 = .ok (.iload 4, 2) := qr_o21 4 hN_cX2_matchedIn hn_cX2_matchedIn rfl rfl rfl
theorem dX2_matchedIn_7 : decode cX2_matchedIn 7 = .ok (.aload_n 0, 1) := qr_o42 hN_cX2_matchedIn hn_cX2_matchedIn rfl rfl
theorem dX2_matchedIn_8 : decode cX2_matchedIn 8 = .ok (.getfield 49, 3) := qr_o180 0 49 hN_cX2_matchedIn hn_cX2_matchedIn rfl rfl rfl rfl
theorem dX2_matchedIn_11 : decode cX2_matchedIn 11 = .ok (.if_icmp .ge 81, 3) := qr_o162 0 81 rfl hN_cX2_matchedIn hn_cX2_matchedIn rfl rfl rfl rfl
theorem dX2_matchedIn_14 : decode cX2_matchedIn 14 = .ok (.aload_n 0, 1) := qr_o42 hN_cX2_matchedIn hn_cX2_matchedIn rfl rfl
theorem dX2_matchedIn_15 : decode cX2_matchedIn 15 = .ok (.iload 4, 2) := qr_o21 4 hN_cX2_matchedIn hn_cX2_matchedIn rfl rfl rfl
theorem dX2_matchedIn_17 : decode cX2_matchedIn 17 = .ok (.invokevirtual 113, 3) := qr_o182 0 113 hN_cX2_matchedIn hn_cX2_matchedIn rfl rfl rfl rfl
theorem dX2_matchedIn_20 : decode cX2_matchedIn 20 = .ok (.astore 5, 2) := qr_o58 5 hN_cX2_matchedIn hn_cX2_matchedIn rfl rfl rfl
theorem dX2_matchedIn_22 : decode cX2_matchedIn 22 = .ok (.aload_n 0, 1) := qr_o42 hN_cX2_matchedIn hn_cX2_matchedIn rfl rfl
theorem dX2_matchedIn_23 : decode cX2_matchedIn 23 = .ok (.aload 5, 2) := qr_o25 5 hN_cX2_matchedIn hn_cX2_matchedIn rfl rfl rfl
theorem dX2_matchedIn_25 : decode cX2_matchedIn 25 = .ok (.iload_n 1, 1) := qr_o27 hN_cX2_matchedIn hn_cX2_matchedIn rfl rfl
theorem dX2_matchedIn_26 : decode cX2_matchedIn 26 = .ok (.invokevirtual 163, 3) := qr_o182 0 163 hN_cX2_matchedIn hn_cX2_matchedIn rfl rfl rfl rfl
theorem dX2_matchedIn_29 : decode cX2_matchedIn 29 = .ok (.ifCond .ne 6, 3) := qr_o154 0 6 rfl hN_cX2_matchedIn hn_cX2_matchedIn rfl rfl rfl rfl
theorem dX2_matchedIn_32 : decode cX2_matchedIn 32 = .ok (.goto 54, 3) := qr_o167 0 54 rfl hN_cX2_matchedIn hn_cX2_matchedIn rfl rfl rfl rfl
theorem dX2_matchedIn_35 : decode cX2_matchedIn 35 = .ok (.aload 5, 2) := qr_o25 5 hN_cX2_matchedIn hn_cX2_matchedIn rfl rfl rfl
theorem dX2_matchedIn_37 : decode cX2_matchedIn 37 = .ok (.getfield 117, 3) := qr_o180 0 117 hN_cX2_matchedIn hn_cX2_matchedIn rfl rfl rfl rfl
theorem dX2_matchedIn_40 : decode cX2_matchedIn 40 = .ok (.ifnonnull 23, 3) := qr_o199 0 23 rfl hN_cX2_matchedIn hn_cX2_matchedIn rfl rfl rfl rfl
theorem dX2_matchedIn_43 : decode cX2_matchedIn 43 = .ok (.aload 5, 2) := qr_o25 5 hN_cX2_matchedIn hn_cX2_matchedIn rfl rfl rfl
theorem dX2_matchedIn_45 : decode cX2_matchedIn 45 = .ok (.aload_n 0, 1) := qr_o42 hN_cX2_matchedIn hn_cX2_matchedIn rfl rfl
theorem dX2_matchedIn_46 : decode cX2_matchedIn 46 = .ok (.aload 5, 2) := qr_o25 5 hN_cX2_matchedIn hn_cX2_matchedIn rfl rfl rfl
theorem dX2_matchedIn_48 : decode cX2_matchedIn 48 = .ok (.iload_n 2, 1) := qr_o28 hN_cX2_matchedIn hn_cX2_matchedIn rfl rfl
theorem dX2_matchedIn_49 : decode cX2_matchedIn 49 = .ok (.invokevirtual 167, 3) := qr_o182 0 167 hN_cX2_matchedIn hn_cX2_matchedIn rfl rfl rfl rfl
theorem dX2_matchedIn_52 : decode cX2_matchedIn 52 = .ok (.putfield 117, 3) := qr_o181 0 117 hN_cX2_matchedIn hn_cX2_matchedIn rfl rfl rfl rfl
theorem dX2_matchedIn_55 : decode cX2_matchedIn 55 = .ok (.aload_n 0, 1) := qr_o42 hN_cX2_matchedIn hn_cX2_matchedIn rfl rfl
theorem dX2_matchedIn_56 : decode cX2_matchedIn 56 = .ok (.getfield 41, 3) := qr_o180 0 41 hN_cX2_matchedIn hn_cX2_matchedIn rfl rfl rfl rfl
theorem dX2_matchedIn_59 : decode cX2_matchedIn 59 = .ok (.iload 4, 2) := qr_o21 4 hN_cX2_matchedIn hn_cX2_matchedIn rfl rfl rfl
theorem dX2_matchedIn_61 : decode cX2_matchedIn 61 = .ok (.iconst 1, 1) := qr_o4 hN_cX2_matchedIn hn_cX2_matchedIn rfl rfl
theorem dX2_matchedIn_62 : decode cX2_matchedIn 62 = .ok (.bastore, 1) := qr_o84 hN_cX2_matchedIn hn_cX2_matchedIn rfl rfl
theorem dX2_matchedIn_63 : decode cX2_matchedIn 63 = .ok (.aload 5, 2) := qr_o25 5 hN_cX2_matchedIn hn_cX2_matchedIn rfl rfl rfl
theorem dX2_matchedIn_65 : decode cX2_matchedIn 65 = .ok (.getfield 117, 3) := qr_o180 0 117 hN_cX2_matchedIn hn_cX2_matchedIn rfl rfl rfl rfl
theorem dX2_matchedIn_68 : decode cX2_matchedIn 68 = .ok (.ifnull 18, 3) := qr_o198 0 18 rfl hN_cX2_matchedIn hn_cX2_matchedIn rfl rfl rfl rfl
theorem dX2_matchedIn_71 : decode cX2_matchedIn 71 = .ok (.aload 5, 2) := qr_o25 5 hN_cX2_matchedIn hn_cX2_matchedIn rfl rfl rfl
theorem dX2_matchedIn_73 : decode cX2_matchedIn 73 = .ok (.getfield 117, 3) := qr_o180 0 117 hN_cX2_matchedIn hn_cX2_matchedIn rfl rfl rfl rfl
theorem dX2_matchedIn_76 : decode cX2_matchedIn 76 = .ok (.getfield 136, 3) := qr_o180 0 136 hN_cX2_matchedIn hn_cX2_matchedIn rfl rfl rfl rfl
theorem dX2_matchedIn_79 : decode cX2_matchedIn 79 = .ok (.iload_n 2, 1) := qr_o28 hN_cX2_matchedIn hn_cX2_matchedIn rfl rfl
theorem dX2_matchedIn_80 : decode cX2_matchedIn 80 = .ok (.if_icmp .ne 6, 3) := qr_o160 0 6 rfl hN_cX2_matchedIn hn_cX2_matchedIn rfl rfl rfl rfl
theorem dX2_matchedIn_83 : decode cX2_matchedIn 83 = .ok (.iinc 3 1, 3) := qr_o132 3 1 rfl hN_cX2_matchedIn hn_cX2_matchedIn rfl rfl rfl rfl
theorem dX2_matchedIn_86 : decode cX2_matchedIn 86 = .ok (.iinc 4 1, 3) := qr_o132 4 1 rfl hN_cX2_matchedIn hn_cX2_matchedIn rfl rfl rfl rfl
theorem dX2_matchedIn_89 : decode cX2_matchedIn 89 = .ok (.goto (-84), 3) := qr_w167 255 172 84 rfl rfl hN_cX2_matchedIn hn_cX2_matchedIn rfl rfl rfl rfl
theorem dX2_matchedIn_92 : decode cX2_matchedIn 92 = .ok (.aload_n 0, 1) := qr_o42 hN_cX2_matchedIn hn_cX2_matchedIn rfl rfl
theorem dX2_matchedIn_93 : decode cX2_matchedIn 93 = .ok (.invokevirtual 171, 3) := qr_o182 0 171 hN_cX2_matchedIn hn_cX2_matchedIn rfl rfl rfl rfl
theorem dX2_matchedIn_96 : decode cX2_matchedIn 96 = .ok (.iload_n 3, 1) := qr_o29 hN_cX2_matchedIn hn_cX2_matchedIn rfl rfl
theorem dX2_matchedIn_97 : decode cX2_matchedIn 97 = .ok (.ireturn, 1) := qr_o172 hN_cX2_matchedIn hn_cX2_matchedIn rfl rfl
def nN_cX2_takeTrialsBack : Nat := 0xb1d6ffa701018454031b2900b42a7500b5012c0f0099331b2900b42a1800c62c4d7100b61b2a2800a23100b42a1b3c03
theorem hN_cX2_takeTrialsBack : qr_n cX2_takeTrialsBack.data.toList = nN_cX2_takeTrialsBack := by decide +kernel
theorem hn_cX2_takeTrialsBack : cX2_takeTrialsBack.size = 48 := by decide +kernel
theorem dX2_takeTrialsBack_0 : decode cX2_takeTrialsBack 0 = .ok (.iconst 0, 1) := qr_o3 hN_cX2_takeTrialsBack hn_cX2_takeTrialsBack rfl rfl
theorem dX2_takeTrialsBack_1 : decode cX2_takeTrialsBack 1 = .ok (.istore_n 1, 1) := qr_o60 hN_cX2_takeTrialsBack hn_cX2_takeTrialsBack rfl rfl
theorem dX2_takeTrialsBack_2 : decode cX2_takeTrialsBack 2 = .ok (.iload_n 1, 1) := qr_o27 hN_cX2_takeTrialsBack hn_cX2_takeTrialsBack rfl rfl
theorem dX2_takeTrialsBack_3 : decode cX2_takeTrialsBack 3 = .ok (.aload_n 0, 1) := qr_o42 hN_cX2_takeTrialsBack hn_cX2_takeTrialsBack rfl rfl
theorem dX2_takeTrialsBack_4 : decode cX2_takeTrialsBack 4 = .ok (.getfield 49, 3) := qr_o180 0 49 hN_cX2_takeTrialsBack hn_cX2_takeTrialsBack rfl rfl rfl rfl
theorem dX2_takeTrialsBack_7 : decode cX2_takeTrialsBack 7 = .ok (.if_icmp .ge 40, 3) := qr_o162 0 40 rfl hN_cX2_takeTrialsBack hn_cX2_takeTrialsBack rfl rfl rfl rfl
theorem dX2_takeTrialsBack_10 : decode cX2_takeTrialsBack 10 = .ok (.aload_n 0, 1) := qr_o42 hN_cX2_takeTrialsBack hn_cX2_takeTrialsBack rfl rfl
theorem dX2_takeTrialsBack_11 : decode cX2_takeTrialsBack 11 = .ok (.iload_n 1, 1) := qr_o27 hN_cX2_takeTrialsBack hn_cX2_takeTrialsBack rfl rfl
theorem dX2_takeTrialsBack_12 : decode cX2_takeTrialsBack 12 = .ok (.invokevirtual 113, 3) := qr_o182 0 113 hN_cX2_takeTrialsBack hn_cX2_takeTrialsBack rfl rfl rfl rfl
theorem dX2_takeTrialsBack_15 : decode cX2_takeTrialsBack 15 = .ok (.astore_n 2, 1) := qr_o77 hN_cX2_takeTrialsBack hn_cX2_takeTrialsBack rfl rfl
theorem dX2_takeTrialsBack_16 : decode cX2_takeTrialsBack 16 = .ok (.aload_n 2, 1) := qr_o44 hN_cX2_takeTrialsBack hn_cX2_takeTrialsBack rfl rfl
theorem dX2_takeTrialsBack_17 : decode cX2_takeTrialsBack 17 = .ok (.ifnull 24, 3) := qr_o198 0 24 rfl hN_cX2_takeTrialsBack hn_cX2_takeTrialsBack rfl rfl rfl rfl
theorem dX2_takeTrialsBack_20 : decode cX2_takeTrialsBack 20 = .ok (.aload_n 0, 1) := qr_o42 hN_cX2_takeTrialsBack hn_cX2_takeTrialsBack rfl rfl
theorem dX2_takeTrialsBack_21 : decode cX2_takeTrialsBack 21 = .ok (.getfield 41, 3) := qr_o180 0 41 hN_cX2_takeTrialsBack hn_cX2_takeTrialsBack rfl rfl rfl rfl
theorem dX2_takeTrialsBack_24 : decode cX2_takeTrialsBack 24 = .ok (.iload_n 1, 1) := qr_o27 hN_cX2_takeTrialsBack hn_cX2_takeTrialsBack rfl rfl
theorem dX2_takeTrialsBack_25 : decode cX2_takeTrialsBack 25 = .ok (.baload, 1) := qr_o51 hN_cX2_takeTrialsBack hn_cX2_takeTrialsBack rfl rfl
theorem dX2_takeTrialsBack_26 : decode cX2_takeTrialsBack 26 = .ok (.ifCond .eq 15, 3) := qr_o153 0 15 rfl hN_cX2_takeTrialsBack hn_cX2_takeTrialsBack rfl rfl rfl rfl
theorem dX2_takeTrialsBack_29 : decode cX2_takeTrialsBack 29 = .ok (.aload_n 2, 1) := qr_o44 hN_cX2_takeTrialsBack hn_cX2_takeTrialsBack rfl rfl
theorem dX2_takeTrialsBack_30 : decode cX2_takeTrialsBack 30 = .ok (.aconst_null, 1) := qr_o1 hN_cX2_takeTrialsBack hn_cX2_takeTrialsBack rfl rfl
theorem dX2_takeTrialsBack_31 : decode cX2_takeTrialsBack 31 = .ok (.putfield 117, 3) := qr_o181 0 117 hN_cX2_takeTrialsBack hn_cX2_takeTrialsBack rfl rfl rfl rfl
theorem dX2_takeTrialsBack_34 : decode cX2_takeTrialsBack 34 = .ok (.aload_n 0, 1) := qr_o42 hN_cX2_takeTrialsBack hn_cX2_takeTrialsBack rfl rfl
theorem dX2_takeTrialsBack_35 : decode cX2_takeTrialsBack 35 = .ok (.getfield 41, 3) := qr_o180 0 41 hN_cX2_takeTrialsBack hn_cX2_takeTrialsBack rfl rfl rfl rfl
theorem dX2_takeTrialsBack_38 : decode cX2_takeTrialsBack 38 = .ok (.iload_n 1, 1) := qr_o27 hN_cX2_takeTrialsBack hn_cX2_takeTrialsBack rfl rfl
theorem dX2_takeTrialsBack_39 : decode cX2_takeTrialsBack 39 = .ok (.iconst 0, 1) := qr_o3 hN_cX2_takeTrialsBack hn_cX2_takeTrialsBack rfl rfl
theorem dX2_takeTrialsBack_40 : decode cX2_takeTrialsBack 40 = .ok (.bastore, 1) := qr_o84 hN_cX2_takeTrialsBack hn_cX2_takeTrialsBack rfl rfl
theorem dX2_takeTrialsBack_41 : decode cX2_takeTrialsBack 41 = .ok (.iinc 1 1, 3) := qr_o132 1 1 rfl hN_cX2_takeTrialsBack hn_cX2_takeTrialsBack rfl rfl rfl rfl
theorem dX2_takeTrialsBack_44 : decode cX2_takeTrialsBack 44 = .ok (.goto (-42), 3) := qr_w167 255 214 42 rfl rfl hN_cX2_takeTrialsBack hn_cX2_takeTrialsBack rfl rfl rfl rfl
theorem dX2_takeTrialsBack_47 : decode cX2_takeTrialsBack 47 = .ok (.return_, 1) := qr_o177 hN_cX2_takeTrialsBack hn_cX2_takeTrialsBack rfl rfl
def nN_cX2_depositOn : Nat := 0xac6c6410684400b6060c00b42aae00b42b
theorem hN_cX2_depositOn : qr_n cX2_depositOn.data.toList = nN_cX2_depositOn := by decide +kernel
theorem hn_cX2_depositOn : cX2_depositOn.size = 17 := by decide +kernel
theorem dX2_depositOn_0 : decode cX2_depositOn 0 = .ok (.aload_n 1, 1) := qr_o43 hN_cX2_depositOn hn_cX2_depositOn rfl rfl
theorem dX2_depositOn_1 : decode cX2_depositOn 1 = .ok (.getfield 174, 3) := qr_o180 0 174 hN_cX2_depositOn hn_cX2_depositOn rfl rfl rfl rfl
theorem dX2_depositOn_4 : decode cX2_depositOn 4 = .ok (.aload_n 0, 1) := qr_o42 hN_cX2_depositOn hn_cX2_depositOn rfl rfl
theorem dX2_depositOn_5 : decode cX2_depositOn 5 = .ok (.getfield 12, 3) := qr_o180 0 12 hN_cX2_depositOn hn_cX2_depositOn rfl rfl rfl rfl
theorem dX2_depositOn_8 : decode cX2_depositOn 8 = .ok (.iconst 3, 1) := qr_o6 hN_cX2_depositOn hn_cX2_depositOn rfl rfl
theorem dX2_depositOn_9 : decode cX2_depositOn 9 = .ok (.invokevirtual 68, 3) := qr_o182 0 68 hN_cX2_depositOn hn_cX2_depositOn rfl rfl rfl rfl
theorem dX2_depositOn_12 : decode cX2_depositOn 12 = .ok (.imul, 1) := qr_o104 hN_cX2_depositOn hn_cX2_depositOn rfl rfl
theorem dX2_depositOn_13 : decode cX2_depositOn 13 = .ok (.bipush 100, 2) := qr_o16 100 rfl hN_cX2_depositOn hn_cX2_depositOn rfl rfl rfl
theorem dX2_depositOn_15 : decode cX2_depositOn 15 = .ok (.idiv, 1) := qr_o108 hN_cX2_depositOn hn_cX2_depositOn rfl rfl
theorem dX2_depositOn_16 : decode cX2_depositOn 16 = .ok (.ireturn, 1) := qr_o172 hN_cX2_depositOn hn_cX2_depositOn rfl rfl
def nN_cX2_daysLate : Nat := 0xacb700b8641cb400b42b033d644400b6040c00b42ab100b62b7500b42b2aac030500c77500b42b
theorem hN_cX2_daysLate : qr_n cX2_daysLate.data.toList = nN_cX2_daysLate := by decide +kernel
theorem hn_cX2_daysLate : cX2_daysLate.size = 39 := by decide +kernel
theorem dX2_daysLate_0 : decode cX2_daysLate 0 = .ok (.aload_n 1, 1) := qr_o43 hN_cX2_daysLate hn_cX2_daysLate rfl rfl
theorem dX2_daysLate_1 : decode cX2_daysLate 1 = .ok (.getfield 117, 3) := qr_o180 0 117 hN_cX2_daysLate hn_cX2_daysLate rfl rfl rfl rfl
theorem dX2_daysLate_4 : decode cX2_daysLate 4 = .ok (.ifnonnull 5, 3) := qr_o199 0 5 rfl hN_cX2_daysLate hn_cX2_daysLate rfl rfl rfl rfl
theorem dX2_daysLate_7 : decode cX2_daysLate 7 = .ok (.iconst 0, 1) := qr_o3 hN_cX2_daysLate hn_cX2_daysLate rfl rfl
theorem dX2_daysLate_8 : decode cX2_daysLate 8 = .ok (.ireturn, 1) := qr_o172 hN_cX2_daysLate hn_cX2_daysLate rfl rfl
theorem dX2_daysLate_9 : decode cX2_daysLate 9 = .ok (.aload_n 0, 1) := qr_o42 hN_cX2_daysLate hn_cX2_daysLate rfl rfl
theorem dX2_daysLate_10 : decode cX2_daysLate 10 = .ok (.aload_n 1, 1) := qr_o43 hN_cX2_daysLate hn_cX2_daysLate rfl rfl
theorem dX2_daysLate_11 : decode cX2_daysLate 11 = .ok (.getfield 117, 3) := qr_o180 0 117 hN_cX2_daysLate hn_cX2_daysLate rfl rfl rfl rfl
theorem dX2_daysLate_14 : decode cX2_daysLate 14 = .ok (.aload_n 1, 1) := qr_o43 hN_cX2_daysLate hn_cX2_daysLate rfl rfl
theorem dX2_daysLate_15 : decode cX2_daysLate 15 = .ok (.invokevirtual 177, 3) := qr_o182 0 177 hN_cX2_daysLate hn_cX2_daysLate rfl rfl rfl rfl
theorem dX2_daysLate_18 : decode cX2_daysLate 18 = .ok (.aload_n 0, 1) := qr_o42 hN_cX2_daysLate hn_cX2_daysLate rfl rfl
theorem dX2_daysLate_19 : decode cX2_daysLate 19 = .ok (.getfield 12, 3) := qr_o180 0 12 hN_cX2_daysLate hn_cX2_daysLate rfl rfl rfl rfl
theorem dX2_daysLate_22 : decode cX2_daysLate 22 = .ok (.iconst 1, 1) := qr_o4 hN_cX2_daysLate hn_cX2_daysLate rfl rfl
theorem dX2_daysLate_23 : decode cX2_daysLate 23 = .ok (.invokevirtual 68, 3) := qr_o182 0 68 hN_cX2_daysLate hn_cX2_daysLate rfl rfl rfl rfl
theorem dX2_daysLate_26 : decode cX2_daysLate 26 = .ok (.isub, 1) := qr_o100 hN_cX2_daysLate hn_cX2_daysLate rfl rfl
theorem dX2_daysLate_27 : decode cX2_daysLate 27 = .ok (.istore_n 2, 1) := qr_o61 hN_cX2_daysLate hn_cX2_daysLate rfl rfl
theorem dX2_daysLate_28 : decode cX2_daysLate 28 = .ok (.iconst 0, 1) := qr_o3 hN_cX2_daysLate hn_cX2_daysLate rfl rfl
theorem dX2_daysLate_29 : decode cX2_daysLate 29 = .ok (.aload_n 1, 1) := qr_o43 hN_cX2_daysLate hn_cX2_daysLate rfl rfl
theorem dX2_daysLate_30 : decode cX2_daysLate 30 = .ok (.getfield 180, 3) := qr_o180 0 180 hN_cX2_daysLate hn_cX2_daysLate rfl rfl rfl rfl
theorem dX2_daysLate_33 : decode cX2_daysLate 33 = .ok (.iload_n 2, 1) := qr_o28 hN_cX2_daysLate hn_cX2_daysLate rfl rfl
theorem dX2_daysLate_34 : decode cX2_daysLate 34 = .ok (.isub, 1) := qr_o100 hN_cX2_daysLate hn_cX2_daysLate rfl rfl
theorem dX2_daysLate_35 : decode cX2_daysLate 35 = .ok (.invokestatic 183, 3) := qr_o184 0 183 hN_cX2_daysLate hn_cX2_daysLate rfl rfl rfl rfl
theorem dX2_daysLate_38 : decode cX2_daysLate 38 = .ok (.ireturn, 1) := qr_o172 hN_cX2_daysLate hn_cX2_daysLate rfl rfl
def nN_cX2_harmOf : Nat := 0xac60684400b606100c00b42ac000b87a08101c684400b6080c00b42ac000b87eff00111c3d7e8202bd00b42bba00b42bacfc100600a002ba00b42b
theorem hN_cX2_harmOf : qr_n cX2_harmOf.data.toList = nN_cX2_harmOf := by decide +kernel
theorem hn_cX2_harmOf : cX2_harmOf.size = 59 := by decide +kernel
theorem dX2_harmOf_0 : decode cX2_harmOf 0 = .ok (.aload_n 1, 1) := qr_o43 hN_cX2_harmOf hn_cX2_harmOf rfl rfl
theorem dX2_harmOf_1 : decode cX2_harmOf 1 = .ok (.getfield 186, 3) := qr_o180 0 186 hN_cX2_harmOf hn_cX2_harmOf rfl rfl rfl rfl
theorem dX2_harmOf_4 : decode cX2_harmOf 4 = .ok (.iconst (-1), 1) := qr_o2 hN_cX2_harmOf hn_cX2_harmOf rfl rfl
theorem dX2_harmOf_5 : decode cX2_harmOf 5 = .ok (.if_icmp .ne 6, 3) := qr_o160 0 6 rfl hN_cX2_harmOf hn_cX2_harmOf rfl rfl rfl rfl
theorem dX2_harmOf_8 : decode cX2_harmOf 8 = .ok (.bipush (-4), 2) := qr_w16 252 4 rfl rfl hN_cX2_harmOf hn_cX2_harmOf rfl rfl rfl
theorem dX2_harmOf_10 : decode cX2_harmOf 10 = .ok (.ireturn, 1) := qr_o172 hN_cX2_harmOf hn_cX2_harmOf rfl rfl
theorem dX2_harmOf_11 : decode cX2_harmOf 11 = .ok (.aload_n 1, 1) := qr_o43 hN_cX2_harmOf hn_cX2_harmOf rfl rfl
theorem dX2_harmOf_12 : decode cX2_harmOf 12 = .ok (.getfield 186, 3) := qr_o180 0 186 hN_cX2_harmOf hn_cX2_harmOf rfl rfl rfl rfl
theorem dX2_harmOf_15 : decode cX2_harmOf 15 = .ok (.aload_n 1, 1) := qr_o43 hN_cX2_harmOf hn_cX2_harmOf rfl rfl
theorem dX2_harmOf_16 : decode cX2_harmOf 16 = .ok (.getfield 189, 3) := qr_o180 0 189 hN_cX2_harmOf hn_cX2_harmOf rfl rfl rfl rfl
theorem dX2_harmOf_19 : decode cX2_harmOf 19 = .ok (.iconst (-1), 1) := qr_o2 hN_cX2_harmOf hn_cX2_harmOf rfl rfl
theorem dX2_harmOf_20 : decode cX2_harmOf 20 = .ok (.ixor, 1) := qr_o130 hN_cX2_harmOf hn_cX2_harmOf rfl rfl
theorem dX2_harmOf_21 : decode cX2_harmOf 21 = .ok (.iand, 1) := qr_o126 hN_cX2_harmOf hn_cX2_harmOf rfl rfl
theorem dX2_harmOf_22 : decode cX2_harmOf 22 = .ok (.istore_n 2, 1) := qr_o61 hN_cX2_harmOf hn_cX2_harmOf rfl rfl
theorem dX2_harmOf_23 : decode cX2_harmOf 23 = .ok (.iload_n 2, 1) := qr_o28 hN_cX2_harmOf hn_cX2_harmOf rfl rfl
theorem dX2_harmOf_24 : decode cX2_harmOf 24 = .ok (.sipush 255, 3) := qr_o17 0 255 rfl hN_cX2_harmOf hn_cX2_harmOf rfl rfl rfl rfl
theorem dX2_harmOf_27 : decode cX2_harmOf 27 = .ok (.iand, 1) := qr_o126 hN_cX2_harmOf hn_cX2_harmOf rfl rfl
theorem dX2_harmOf_28 : decode cX2_harmOf 28 = .ok (.invokestatic 192, 3) := qr_o184 0 192 hN_cX2_harmOf hn_cX2_harmOf rfl rfl rfl rfl
theorem dX2_harmOf_31 : decode cX2_harmOf 31 = .ok (.aload_n 0, 1) := qr_o42 hN_cX2_harmOf hn_cX2_harmOf rfl rfl
theorem dX2_harmOf_32 : decode cX2_harmOf 32 = .ok (.getfield 12, 3) := qr_o180 0 12 hN_cX2_harmOf hn_cX2_harmOf rfl rfl rfl rfl
theorem dX2_harmOf_35 : decode cX2_harmOf 35 = .ok (.iconst 5, 1) := qr_o8 hN_cX2_harmOf hn_cX2_harmOf rfl rfl
theorem dX2_harmOf_36 : decode cX2_harmOf 36 = .ok (.invokevirtual 68, 3) := qr_o182 0 68 hN_cX2_harmOf hn_cX2_harmOf rfl rfl rfl rfl
theorem dX2_harmOf_39 : decode cX2_harmOf 39 = .ok (.imul, 1) := qr_o104 hN_cX2_harmOf hn_cX2_harmOf rfl rfl
theorem dX2_harmOf_40 : decode cX2_harmOf 40 = .ok (.iload_n 2, 1) := qr_o28 hN_cX2_harmOf hn_cX2_harmOf rfl rfl
theorem dX2_harmOf_41 : decode cX2_harmOf 41 = .ok (.bipush 8, 2) := qr_o16 8 rfl hN_cX2_harmOf hn_cX2_harmOf rfl rfl rfl
theorem dX2_harmOf_43 : decode cX2_harmOf 43 = .ok (.ishr, 1) := qr_o122 hN_cX2_harmOf hn_cX2_harmOf rfl rfl
theorem dX2_harmOf_44 : decode cX2_harmOf 44 = .ok (.invokestatic 192, 3) := qr_o184 0 192 hN_cX2_harmOf hn_cX2_harmOf rfl rfl rfl rfl
theorem dX2_harmOf_47 : decode cX2_harmOf 47 = .ok (.aload_n 0, 1) := qr_o42 hN_cX2_harmOf hn_cX2_harmOf rfl rfl
theorem dX2_harmOf_48 : decode cX2_harmOf 48 = .ok (.getfield 12, 3) := qr_o180 0 12 hN_cX2_harmOf hn_cX2_harmOf rfl rfl rfl rfl
theorem dX2_harmOf_51 : decode cX2_harmOf 51 = .ok (.bipush 6, 2) := qr_o16 6 rfl hN_cX2_harmOf hn_cX2_harmOf rfl rfl rfl
theorem dX2_harmOf_53 : decode cX2_harmOf 53 = .ok (.invokevirtual 68, 3) := qr_o182 0 68 hN_cX2_harmOf hn_cX2_harmOf rfl rfl rfl rfl
theorem dX2_harmOf_56 : decode cX2_harmOf 56 = .ok (.imul, 1) := qr_o104 hN_cX2_harmOf hn_cX2_harmOf rfl rfl
theorem dX2_harmOf_57 : decode cX2_harmOf 57 = .ok (.iadd, 1) := qr_o96 hN_cX2_harmOf hn_cX2_harmOf rfl rfl
theorem dX2_harmOf_58 : decode cX2_harmOf 58 = .ok (.ireturn, 1) := qr_o172 hN_cX2_harmOf hn_cX2_harmOf rfl rfl
def nN_cX2_owedFor : Nat := 0xac601c0400a7030700a0fc101c68c900b62b2a4400b6050c00b42a3dc500b62b2a
theorem hN_cX2_owedFor : qr_n cX2_owedFor.data.toList = nN_cX2_owedFor := by decide +kernel
theorem hn_cX2_owedFor : cX2_owedFor.size = 33 := by decide +kernel
theorem dX2_owedFor_0 : decode cX2_owedFor 0 = .ok (.aload_n 0, 1) := qr_o42 hN_cX2_owedFor hn_cX2_owedFor rfl rfl
theorem dX2_owedFor_1 : decode cX2_owedFor 1 = .ok (.aload_n 1, 1) := qr_o43 hN_cX2_owedFor hn_cX2_owedFor rfl rfl
theorem dX2_owedFor_2 : decode cX2_owedFor 2 = .ok (.invokevirtual 197, 3) := qr_o182 0 197 hN_cX2_owedFor hn_cX2_owedFor rfl rfl rfl rfl
theorem dX2_owedFor_5 : decode cX2_owedFor 5 = .ok (.istore_n 2, 1) := qr_o61 hN_cX2_owedFor hn_cX2_owedFor rfl rfl
theorem dX2_owedFor_6 : decode cX2_owedFor 6 = .ok (.aload_n 0, 1) := qr_o42 hN_cX2_owedFor hn_cX2_owedFor rfl rfl
theorem dX2_owedFor_7 : decode cX2_owedFor 7 = .ok (.getfield 12, 3) := qr_o180 0 12 hN_cX2_owedFor hn_cX2_owedFor rfl rfl rfl rfl
theorem dX2_owedFor_10 : decode cX2_owedFor 10 = .ok (.iconst 2, 1) := qr_o5 hN_cX2_owedFor hn_cX2_owedFor rfl rfl
theorem dX2_owedFor_11 : decode cX2_owedFor 11 = .ok (.invokevirtual 68, 3) := qr_o182 0 68 hN_cX2_owedFor hn_cX2_owedFor rfl rfl rfl rfl
theorem dX2_owedFor_14 : decode cX2_owedFor 14 = .ok (.aload_n 0, 1) := qr_o42 hN_cX2_owedFor hn_cX2_owedFor rfl rfl
theorem dX2_owedFor_15 : decode cX2_owedFor 15 = .ok (.aload_n 1, 1) := qr_o43 hN_cX2_owedFor hn_cX2_owedFor rfl rfl
theorem dX2_owedFor_16 : decode cX2_owedFor 16 = .ok (.invokevirtual 201, 3) := qr_o182 0 201 hN_cX2_owedFor hn_cX2_owedFor rfl rfl rfl rfl
theorem dX2_owedFor_19 : decode cX2_owedFor 19 = .ok (.imul, 1) := qr_o104 hN_cX2_owedFor hn_cX2_owedFor rfl rfl
theorem dX2_owedFor_20 : decode cX2_owedFor 20 = .ok (.iload_n 2, 1) := qr_o28 hN_cX2_owedFor hn_cX2_owedFor rfl rfl
theorem dX2_owedFor_21 : decode cX2_owedFor 21 = .ok (.bipush (-4), 2) := qr_w16 252 4 rfl rfl hN_cX2_owedFor hn_cX2_owedFor rfl rfl rfl
theorem dX2_owedFor_23 : decode cX2_owedFor 23 = .ok (.if_icmp .ne 7, 3) := qr_o160 0 7 rfl hN_cX2_owedFor hn_cX2_owedFor rfl rfl rfl rfl
theorem dX2_owedFor_26 : decode cX2_owedFor 26 = .ok (.iconst 0, 1) := qr_o3 hN_cX2_owedFor hn_cX2_owedFor rfl rfl
theorem dX2_owedFor_27 : decode cX2_owedFor 27 = .ok (.goto 4, 3) := qr_o167 0 4 rfl hN_cX2_owedFor hn_cX2_owedFor rfl rfl rfl rfl
theorem dX2_owedFor_30 : decode cX2_owedFor 30 = .ok (.iload_n 2, 1) := qr_o28 hN_cX2_owedFor hn_cX2_owedFor rfl rfl
theorem dX2_owedFor_31 : decode cX2_owedFor 31 = .ok (.iadd, 1) := qr_o96 hN_cX2_owedFor hn_cX2_owedFor rfl rfl
theorem dX2_owedFor_32 : decode cX2_owedFor 32 = .ok (.ireturn, 1) := qr_o172 hN_cX2_owedFor hn_cX2_owedFor rfl rfl
def nN_cX2_knownOn : Nat := 0xac0415ceffa7010584010484060099cf00b81d1c6600b40619130099cc00b61b06191c00c60619063a7100b605152a2f00a23100b42a0515053603043603
theorem hN_cX2_knownOn : qr_n cX2_knownOn.data.toList = nN_cX2_knownOn := by decide +kernel
theorem hn_cX2_knownOn : cX2_knownOn.size = 62 := by decide +kernel
theorem dX2_knownOn_0 : decode cX2_knownOn 0 = .ok (.iconst 0, 1) := qr_o3 hN_cX2_knownOn hn_cX2_knownOn rfl rfl
theorem dX2_knownOn_1 : decode cX2_knownOn 1 = .ok (.istore 4, 2) := qr_o54 4 hN_cX2_knownOn hn_cX2_knownOn rfl rfl rfl
theorem dX2_knownOn_3 : decode cX2_knownOn 3 = .ok (.iconst 0, 1) := qr_o3 hN_cX2_knownOn hn_cX2_knownOn rfl rfl
theorem dX2_knownOn_4 : decode cX2_knownOn 4 = .ok (.istore 5, 2) := qr_o54 5 hN_cX2_knownOn hn_cX2_knownOn rfl rfl rfl
theorem dX2_knownOn_6 : decode cX2_knownOn 6 = .ok (.iload 5, 2) := qr_o21 5 hN_cX2_knownOn hn_cX2_knownOn rfl rfl rfl
theorem dX2_knownOn_8 : decode cX2_knownOn 8 = .ok (.aload_n 0, 1) := qr_o42 hN_cX2_knownOn hn_cX2_knownOn rfl rfl
theorem dX2_knownOn_9 : decode cX2_knownOn 9 = .ok (.getfield 49, 3) := qr_o180 0 49 hN_cX2_knownOn hn_cX2_knownOn rfl rfl rfl rfl
theorem dX2_knownOn_12 : decode cX2_knownOn 12 = .ok (.if_icmp .ge 47, 3) := qr_o162 0 47 rfl hN_cX2_knownOn hn_cX2_knownOn rfl rfl rfl rfl
theorem dX2_knownOn_15 : decode cX2_knownOn 15 = .ok (.aload_n 0, 1) := qr_o42 hN_cX2_knownOn hn_cX2_knownOn rfl rfl
theorem dX2_knownOn_16 : decode cX2_knownOn 16 = .ok (.iload 5, 2) := qr_o21 5 hN_cX2_knownOn hn_cX2_knownOn rfl rfl rfl
theorem dX2_knownOn_18 : decode cX2_knownOn 18 = .ok (.invokevirtual 113, 3) := qr_o182 0 113 hN_cX2_knownOn hn_cX2_knownOn rfl rfl rfl rfl
theorem dX2_knownOn_21 : decode cX2_knownOn 21 = .ok (.astore 6, 2) := qr_o58 6 hN_cX2_knownOn hn_cX2_knownOn rfl rfl rfl
theorem dX2_knownOn_23 : decode cX2_knownOn 23 = .ok (.aload 6, 2) := qr_o25 6 hN_cX2_knownOn hn_cX2_knownOn rfl rfl rfl
theorem dX2_knownOn_25 : decode cX2_knownOn 25 = .ok (.ifnull 28, 3) := qr_o198 0 28 rfl hN_cX2_knownOn hn_cX2_knownOn rfl rfl rfl rfl
theorem dX2_knownOn_28 : decode cX2_knownOn 28 = .ok (.aload 6, 2) := qr_o25 6 hN_cX2_knownOn hn_cX2_knownOn rfl rfl rfl
theorem dX2_knownOn_30 : decode cX2_knownOn 30 = .ok (.iload_n 1, 1) := qr_o27 hN_cX2_knownOn hn_cX2_knownOn rfl rfl
theorem dX2_knownOn_31 : decode cX2_knownOn 31 = .ok (.invokevirtual 204, 3) := qr_o182 0 204 hN_cX2_knownOn hn_cX2_knownOn rfl rfl rfl rfl
theorem dX2_knownOn_34 : decode cX2_knownOn 34 = .ok (.ifCond .eq 19, 3) := qr_o153 0 19 rfl hN_cX2_knownOn hn_cX2_knownOn rfl rfl rfl rfl
theorem dX2_knownOn_37 : decode cX2_knownOn 37 = .ok (.aload 6, 2) := qr_o25 6 hN_cX2_knownOn hn_cX2_knownOn rfl rfl rfl
theorem dX2_knownOn_39 : decode cX2_knownOn 39 = .ok (.getfield 102, 3) := qr_o180 0 102 hN_cX2_knownOn hn_cX2_knownOn rfl rfl rfl rfl
theorem dX2_knownOn_42 : decode cX2_knownOn 42 = .ok (.iload_n 2, 1) := qr_o28 hN_cX2_knownOn hn_cX2_knownOn rfl rfl
theorem dX2_knownOn_43 : decode cX2_knownOn 43 = .ok (.iload_n 3, 1) := qr_o29 hN_cX2_knownOn hn_cX2_knownOn rfl rfl
theorem dX2_knownOn_44 : decode cX2_knownOn 44 = .ok (.invokestatic 207, 3) := qr_o184 0 207 hN_cX2_knownOn hn_cX2_knownOn rfl rfl rfl rfl
theorem dX2_knownOn_47 : decode cX2_knownOn 47 = .ok (.ifCond .eq 6, 3) := qr_o153 0 6 rfl hN_cX2_knownOn hn_cX2_knownOn rfl rfl rfl rfl
theorem dX2_knownOn_50 : decode cX2_knownOn 50 = .ok (.iinc 4 1, 3) := qr_o132 4 1 rfl hN_cX2_knownOn hn_cX2_knownOn rfl rfl rfl rfl
theorem dX2_knownOn_53 : decode cX2_knownOn 53 = .ok (.iinc 5 1, 3) := qr_o132 5 1 rfl hN_cX2_knownOn hn_cX2_knownOn rfl rfl rfl rfl
theorem dX2_knownOn_56 : decode cX2_knownOn 56 = .ok (.goto (-50), 3) := qr_w167 255 206 50 rfl rfl hN_cX2_knownOn hn_cX2_knownOn rfl rfl rfl rfl
theorem dX2_knownOn_59 : decode cX2_knownOn 59 = .ok (.iload 4, 2) := qr_o21 4 hN_cX2_knownOn hn_cX2_knownOn rfl rfl rfl
theorem dX2_knownOn_61 : decode cX2_knownOn 61 = .ok (.ireturn, 1) := qr_o172 hN_cX2_knownOn hn_cX2_knownOn rfl rfl
def nN_cX2_tallyPieces : Nat := 0xac1ce0ffa70103843d60d300b61b04191c0c00c60419043a8400b61d2a1e00a22d00b42a1d3e033d03
theorem hN_cX2_tallyPieces : qr_n cX2_tallyPieces.data.toList = nN_cX2_tallyPieces := by decide +kernel
theorem hn_cX2_tallyPieces : cX2_tallyPieces.size = 41 := by decide +kernel
theorem dX2_tallyPieces_0 : decode cX2_tallyPieces 0 = .ok (.iconst 0, 1) := qr_o3 hN_cX2_tallyPieces hn_cX2_tallyPieces rfl rfl
theorem dX2_tallyPieces_1 : decode cX2_tallyPieces 1 = .ok (.istore_n 2, 1) := qr_o61 hN_cX2_tallyPieces hn_cX2_tallyPieces rfl rfl
theorem dX2_tallyPieces_2 : decode cX2_tallyPieces 2 = .ok (.iconst 0, 1) := qr_o3 hN_cX2_tallyPieces hn_cX2_tallyPieces rfl rfl
theorem dX2_tallyPieces_3 : decode cX2_tallyPieces 3 = .ok (.istore_n 3, 1) := qr_o62 hN_cX2_tallyPieces hn_cX2_tallyPieces rfl rfl
theorem dX2_tallyPieces_4 : decode cX2_tallyPieces 4 = .ok (.iload_n 3, 1) := qr_o29 hN_cX2_tallyPieces hn_cX2_tallyPieces rfl rfl
theorem dX2_tallyPieces_5 : decode cX2_tallyPieces 5 = .ok (.aload_n 0, 1) := qr_o42 hN_cX2_tallyPieces hn_cX2_tallyPieces rfl rfl
theorem dX2_tallyPieces_6 : decode cX2_tallyPieces 6 = .ok (.getfield 45, 3) := qr_o180 0 45 hN_cX2_tallyPieces hn_cX2_tallyPieces rfl rfl rfl rfl
theorem dX2_tallyPieces_9 : decode cX2_tallyPieces 9 = .ok (.if_icmp .ge 30, 3) := qr_o162 0 30 rfl hN_cX2_tallyPieces hn_cX2_tallyPieces rfl rfl rfl rfl
theorem dX2_tallyPieces_12 : decode cX2_tallyPieces 12 = .ok (.aload_n 0, 1) := qr_o42 hN_cX2_tallyPieces hn_cX2_tallyPieces rfl rfl
theorem dX2_tallyPieces_13 : decode cX2_tallyPieces 13 = .ok (.iload_n 3, 1) := qr_o29 hN_cX2_tallyPieces hn_cX2_tallyPieces rfl rfl
theorem dX2_tallyPieces_14 : decode cX2_tallyPieces 14 = .ok (.invokevirtual 132, 3) := qr_o182 0 132 hN_cX2_tallyPieces hn_cX2_tallyPieces rfl rfl rfl rfl
theorem dX2_tallyPieces_17 : decode cX2_tallyPieces 17 = .ok (.astore 4, 2) := qr_o58 4 hN_cX2_tallyPieces hn_cX2_tallyPieces rfl rfl rfl
theorem dX2_tallyPieces_19 : decode cX2_tallyPieces 19 = .ok (.aload 4, 2) := qr_o25 4 hN_cX2_tallyPieces hn_cX2_tallyPieces rfl rfl rfl
theorem dX2_tallyPieces_21 : decode cX2_tallyPieces 21 = .ok (.ifnull 12, 3) := qr_o198 0 12 rfl hN_cX2_tallyPieces hn_cX2_tallyPieces rfl rfl rfl rfl
theorem dX2_tallyPieces_24 : decode cX2_tallyPieces 24 = .ok (.iload_n 2, 1) := qr_o28 hN_cX2_tallyPieces hn_cX2_tallyPieces rfl rfl
theorem dX2_tallyPieces_25 : decode cX2_tallyPieces 25 = .ok (.aload 4, 2) := qr_o25 4 hN_cX2_tallyPieces hn_cX2_tallyPieces rfl rfl rfl
theorem dX2_tallyPieces_27 : decode cX2_tallyPieces 27 = .ok (.iload_n 1, 1) := qr_o27 hN_cX2_tallyPieces hn_cX2_tallyPieces rfl rfl
theorem dX2_tallyPieces_28 : decode cX2_tallyPieces 28 = .ok (.invokevirtual 211, 3) := qr_o182 0 211 hN_cX2_tallyPieces hn_cX2_tallyPieces rfl rfl rfl rfl
theorem dX2_tallyPieces_31 : decode cX2_tallyPieces 31 = .ok (.iadd, 1) := qr_o96 hN_cX2_tallyPieces hn_cX2_tallyPieces rfl rfl
theorem dX2_tallyPieces_32 : decode cX2_tallyPieces 32 = .ok (.istore_n 2, 1) := qr_o61 hN_cX2_tallyPieces hn_cX2_tallyPieces rfl rfl
theorem dX2_tallyPieces_33 : decode cX2_tallyPieces 33 = .ok (.iinc 3 1, 3) := qr_o132 3 1 rfl hN_cX2_tallyPieces hn_cX2_tallyPieces rfl rfl rfl rfl
theorem dX2_tallyPieces_36 : decode cX2_tallyPieces 36 = .ok (.goto (-32), 3) := qr_w167 255 224 32 rfl rfl hN_cX2_tallyPieces hn_cX2_tallyPieces rfl rfl rfl rfl
theorem dX2_tallyPieces_39 : decode cX2_tallyPieces 39 = .ok (.iload_n 2, 1) := qr_o28 hN_cX2_tallyPieces hn_cX2_tallyPieces rfl rfl
theorem dX2_tallyPieces_40 : decode cX2_tallyPieces 40 = .ok (.ireturn, 1) := qr_o172 hN_cX2_tallyPieces hn_cX2_tallyPieces rfl rfl
def nN_cX2_tallyBookings : Nat := 0xac1ce0ffa70103843d60d600b61b04191c0c00c60419043a7100b61d2a1e00a23100b42a1d3e033d03
theorem hN_cX2_tallyBookings : qr_n cX2_tallyBookings.data.toList = nN_cX2_tallyBookings := by decide +kernel
theorem hn_cX2_tallyBookings : cX2_tallyBookings.size = 41 := by decide +kernel
theorem dX2_tallyBookings_0 : decode cX2_tallyBookings 0 = .ok (.iconst 0, 1) := qr_o3 hN_cX2_tallyBookings hn_cX2_tallyBookings rfl rfl
theorem dX2_tallyBookings_1 : decode cX2_tallyBookings 1 = .ok (.istore_n 2, 1) := qr_o61 hN_cX2_tallyBookings hn_cX2_tallyBookings rfl rfl
theorem dX2_tallyBookings_2 : decode cX2_tallyBookings 2 = .ok (.iconst 0, 1) := qr_o3 hN_cX2_tallyBookings hn_cX2_tallyBookings rfl rfl
theorem dX2_tallyBookings_3 : decode cX2_tallyBookings 3 = .ok (.istore_n 3, 1) := qr_o62 hN_cX2_tallyBookings hn_cX2_tallyBookings rfl rfl
theorem dX2_tallyBookings_4 : decode cX2_tallyBookings 4 = .ok (.iload_n 3, 1) := qr_o29 hN_cX2_tallyBookings hn_cX2_tallyBookings rfl rfl
theorem dX2_tallyBookings_5 : decode cX2_tallyBookings 5 = .ok (.aload_n 0, 1) := qr_o42 hN_cX2_tallyBookings hn_cX2_tallyBookings rfl rfl
theorem dX2_tallyBookings_6 : decode cX2_tallyBookings 6 = .ok (.getfield 49, 3) := qr_o180 0 49 hN_cX2_tallyBookings hn_cX2_tallyBookings rfl rfl rfl rfl
theorem dX2_tallyBookings_9 : decode cX2_tallyBookings 9 = .ok (.if_icmp .ge 30, 3) := qr_o162 0 30 rfl hN_cX2_tallyBookings hn_cX2_tallyBookings rfl rfl rfl rfl
theorem dX2_tallyBookings_12 : decode cX2_tallyBookings 12 = .ok (.aload_n 0, 1) := qr_o42 hN_cX2_tallyBookings hn_cX2_tallyBookings rfl rfl
theorem dX2_tallyBookings_13 : decode cX2_tallyBookings 13 = .ok (.iload_n 3, 1) := qr_o29 hN_cX2_tallyBookings hn_cX2_tallyBookings rfl rfl
theorem dX2_tallyBookings_14 : decode cX2_tallyBookings 14 = .ok (.invokevirtual 113, 3) := qr_o182 0 113 hN_cX2_tallyBookings hn_cX2_tallyBookings rfl rfl rfl rfl
theorem dX2_tallyBookings_17 : decode cX2_tallyBookings 17 = .ok (.astore 4, 2) := qr_o58 4 hN_cX2_tallyBookings hn_cX2_tallyBookings rfl rfl rfl
theorem dX2_tallyBookings_19 : decode cX2_tallyBookings 19 = .ok (.aload 4, 2) := qr_o25 4 hN_cX2_tallyBookings hn_cX2_tallyBookings rfl rfl rfl
theorem dX2_tallyBookings_21 : decode cX2_tallyBookings 21 = .ok (.ifnull 12, 3) := qr_o198 0 12 rfl hN_cX2_tallyBookings hn_cX2_tallyBookings rfl rfl rfl rfl
theorem dX2_tallyBookings_24 : decode cX2_tallyBookings 24 = .ok (.iload_n 2, 1) := qr_o28 hN_cX2_tallyBookings hn_cX2_tallyBookings rfl rfl
theorem dX2_tallyBookings_25 : decode cX2_tallyBookings 25 = .ok (.aload 4, 2) := qr_o25 4 hN_cX2_tallyBookings hn_cX2_tallyBookings rfl rfl rfl
theorem dX2_tallyBookings_27 : decode cX2_tallyBookings 27 = .ok (.iload_n 1, 1) := qr_o27 hN_cX2_tallyBookings hn_cX2_tallyBookings rfl rfl
theorem dX2_tallyBookings_28 : decode cX2_tallyBookings 28 = .ok (.invokevirtual 214, 3) := qr_o182 0 214 hN_cX2_tallyBookings hn_cX2_tallyBookings rfl rfl rfl rfl
theorem dX2_tallyBookings_31 : decode cX2_tallyBookings 31 = .ok (.iadd, 1) := qr_o96 hN_cX2_tallyBookings hn_cX2_tallyBookings rfl rfl
theorem dX2_tallyBookings_32 : decode cX2_tallyBookings 32 = .ok (.istore_n 2, 1) := qr_o61 hN_cX2_tallyBookings hn_cX2_tallyBookings rfl rfl
theorem dX2_tallyBookings_33 : decode cX2_tallyBookings 33 = .ok (.iinc 3 1, 3) := qr_o132 3 1 rfl hN_cX2_tallyBookings hn_cX2_tallyBookings rfl rfl rfl rfl
theorem dX2_tallyBookings_36 : decode cX2_tallyBookings 36 = .ok (.goto (-32), 3) := qr_w167 255 224 32 rfl rfl hN_cX2_tallyBookings hn_cX2_tallyBookings rfl rfl rfl rfl
theorem dX2_tallyBookings_39 : decode cX2_tallyBookings 39 = .ok (.iload_n 2, 1) := qr_o28 hN_cX2_tallyBookings hn_cX2_tallyBookings rfl rfl
theorem dX2_tallyBookings_40 : decode cX2_tallyBookings 40 = .ok (.ireturn, 1) := qr_o172 hN_cX2_tallyBookings hn_cX2_tallyBookings rfl rfl
def nN_cX3_init : Nat := 0xb11300b62abeffa7010184ccffa70102844f1d0400a7030700a01c1b601c6806101b0900b42a3e6009100500a70307009a1c09100500a70307009a1b3400a206101c3d034200a206101b3c031000b50abc06102a0d00b50abc06102a0900b50abc24102a0100b72a
theorem hN_cX3_init : qr_n cX3_init.data.toList = nN_cX3_init := by decide +kernel
theorem hn_cX3_init : cX3_init.size = 104 := by decide +kernel
theorem dX3_init_0 : decode cX3_init 0 = .ok (.aload_n 0, 1) := qr_o42 hN_cX3_init hn_cX3_init rfl rfl
theorem dX3_init_1 : decode cX3_init 1 = .ok (.invokespecial 1, 3) := qr_o183 0 1 hN_cX3_init hn_cX3_init rfl rfl rfl rfl
theorem dX3_init_4 : decode cX3_init 4 = .ok (.aload_n 0, 1) := qr_o42 hN_cX3_init hn_cX3_init rfl rfl
theorem dX3_init_5 : decode cX3_init 5 = .ok (.bipush 36, 2) := qr_o16 36 rfl hN_cX3_init hn_cX3_init rfl rfl rfl
theorem dX3_init_7 : decode cX3_init 7 = .ok (.newarray .int, 2) := qr_na10 hN_cX3_init hn_cX3_init rfl rfl rfl
theorem dX3_init_9 : decode cX3_init 9 = .ok (.putfield 9, 3) := qr_o181 0 9 hN_cX3_init hn_cX3_init rfl rfl rfl rfl
theorem dX3_init_12 : decode cX3_init 12 = .ok (.aload_n 0, 1) := qr_o42 hN_cX3_init hn_cX3_init rfl rfl
theorem dX3_init_13 : decode cX3_init 13 = .ok (.bipush 6, 2) := qr_o16 6 rfl hN_cX3_init hn_cX3_init rfl rfl rfl
theorem dX3_init_15 : decode cX3_init 15 = .ok (.newarray .int, 2) := qr_na10 hN_cX3_init hn_cX3_init rfl rfl rfl
theorem dX3_init_17 : decode cX3_init 17 = .ok (.putfield 13, 3) := qr_o181 0 13 hN_cX3_init hn_cX3_init rfl rfl rfl rfl
theorem dX3_init_20 : decode cX3_init 20 = .ok (.aload_n 0, 1) := qr_o42 hN_cX3_init hn_cX3_init rfl rfl
theorem dX3_init_21 : decode cX3_init 21 = .ok (.bipush 6, 2) := qr_o16 6 rfl hN_cX3_init hn_cX3_init rfl rfl rfl
theorem dX3_init_23 : decode cX3_init 23 = .ok (.newarray .int, 2) := qr_na10 hN_cX3_init hn_cX3_init rfl rfl rfl
theorem dX3_init_25 : decode cX3_init 25 = .ok (.putfield 16, 3) := qr_o181 0 16 hN_cX3_init hn_cX3_init rfl rfl rfl rfl
theorem dX3_init_28 : decode cX3_init 28 = .ok (.iconst 0, 1) := qr_o3 hN_cX3_init hn_cX3_init rfl rfl
theorem dX3_init_29 : decode cX3_init 29 = .ok (.istore_n 1, 1) := qr_o60 hN_cX3_init hn_cX3_init rfl rfl
theorem dX3_init_30 : decode cX3_init 30 = .ok (.iload_n 1, 1) := qr_o27 hN_cX3_init hn_cX3_init rfl rfl
theorem dX3_init_31 : decode cX3_init 31 = .ok (.bipush 6, 2) := qr_o16 6 rfl hN_cX3_init hn_cX3_init rfl rfl rfl
theorem dX3_init_33 : decode cX3_init 33 = .ok (.if_icmp .ge 66, 3) := qr_o162 0 66 rfl hN_cX3_init hn_cX3_init rfl rfl rfl rfl
theorem dX3_init_36 : decode cX3_init 36 = .ok (.iconst 0, 1) := qr_o3 hN_cX3_init hn_cX3_init rfl rfl
theorem dX3_init_37 : decode cX3_init 37 = .ok (.istore_n 2, 1) := qr_o61 hN_cX3_init hn_cX3_init rfl rfl
theorem dX3_init_38 : decode cX3_init 38 = .ok (.iload_n 2, 1) := qr_o28 hN_cX3_init hn_cX3_init rfl rfl
theorem dX3_init_39 : decode cX3_init 39 = .ok (.bipush 6, 2) := qr_o16 6 rfl hN_cX3_init hn_cX3_init rfl rfl rfl
theorem dX3_init_41 : decode cX3_init 41 = .ok (.if_icmp .ge 52, 3) := qr_o162 0 52 rfl hN_cX3_init hn_cX3_init rfl rfl rfl rfl
theorem dX3_init_44 : decode cX3_init 44 = .ok (.iload_n 1, 1) := qr_o27 hN_cX3_init hn_cX3_init rfl rfl
theorem dX3_init_45 : decode cX3_init 45 = .ok (.ifCond .ne 7, 3) := qr_o154 0 7 rfl hN_cX3_init hn_cX3_init rfl rfl rfl rfl
theorem dX3_init_48 : decode cX3_init 48 = .ok (.iconst 0, 1) := qr_o3 hN_cX3_init hn_cX3_init rfl rfl
theorem dX3_init_49 : decode cX3_init 49 = .ok (.goto 5, 3) := qr_o167 0 5 rfl hN_cX3_init hn_cX3_init rfl rfl rfl rfl
theorem dX3_init_52 : decode cX3_init 52 = .ok (.bipush 9, 2) := qr_o16 9 rfl hN_cX3_init hn_cX3_init rfl rfl rfl
theorem dX3_init_54 : decode cX3_init 54 = .ok (.iload_n 2, 1) := qr_o28 hN_cX3_init hn_cX3_init rfl rfl
theorem dX3_init_55 : decode cX3_init 55 = .ok (.ifCond .ne 7, 3) := qr_o154 0 7 rfl hN_cX3_init hn_cX3_init rfl rfl rfl rfl
theorem dX3_init_58 : decode cX3_init 58 = .ok (.iconst 0, 1) := qr_o3 hN_cX3_init hn_cX3_init rfl rfl
theorem dX3_init_59 : decode cX3_init 59 = .ok (.goto 5, 3) := qr_o167 0 5 rfl hN_cX3_init hn_cX3_init rfl rfl rfl rfl
theorem dX3_init_62 : decode cX3_init 62 = .ok (.bipush 9, 2) := qr_o16 9 rfl hN_cX3_init hn_cX3_init rfl rfl rfl
theorem dX3_init_64 : decode cX3_init 64 = .ok (.iadd, 1) := qr_o96 hN_cX3_init hn_cX3_init rfl rfl
theorem dX3_init_65 : decode cX3_init 65 = .ok (.istore_n 3, 1) := qr_o62 hN_cX3_init hn_cX3_init rfl rfl
theorem dX3_init_66 : decode cX3_init 66 = .ok (.aload_n 0, 1) := qr_o42 hN_cX3_init hn_cX3_init rfl rfl
theorem dX3_init_67 : decode cX3_init 67 = .ok (.getfield 9, 3) := qr_o180 0 9 hN_cX3_init hn_cX3_init rfl rfl rfl rfl
theorem dX3_init_70 : decode cX3_init 70 = .ok (.iload_n 1, 1) := qr_o27 hN_cX3_init hn_cX3_init rfl rfl
theorem dX3_init_71 : decode cX3_init 71 = .ok (.bipush 6, 2) := qr_o16 6 rfl hN_cX3_init hn_cX3_init rfl rfl rfl
theorem dX3_init_73 : decode cX3_init 73 = .ok (.imul, 1) := qr_o104 hN_cX3_init hn_cX3_init rfl rfl
theorem dX3_init_74 : decode cX3_init 74 = .ok (.iload_n 2, 1) := qr_o28 hN_cX3_init hn_cX3_init rfl rfl
theorem dX3_init_75 : decode cX3_init 75 = .ok (.iadd, 1) := qr_o96 hN_cX3_init hn_cX3_init rfl rfl
theorem dX3_init_76 : decode cX3_init 76 = .ok (.iload_n 1, 1) := qr_o27 hN_cX3_init hn_cX3_init rfl rfl
theorem dX3_init_77 : decode cX3_init 77 = .ok (.iload_n 2, 1) := qr_o28 hN_cX3_init hn_cX3_init rfl rfl
theorem dX3_init_78 : decode cX3_init 78 = .ok (.if_icmp .ne 7, 3) := qr_o160 0 7 rfl hN_cX3_init hn_cX3_init rfl rfl rfl rfl
theorem dX3_init_81 : decode cX3_init 81 = .ok (.iconst 0, 1) := qr_o3 hN_cX3_init hn_cX3_init rfl rfl
theorem dX3_init_82 : decode cX3_init 82 = .ok (.goto 4, 3) := qr_o167 0 4 rfl hN_cX3_init hn_cX3_init rfl rfl rfl rfl
theorem dX3_init_85 : decode cX3_init 85 = .ok (.iload_n 3, 1) := qr_o29 hN_cX3_init hn_cX3_init rfl rfl
theorem dX3_init_86 : decode cX3_init 86 = .ok (.iastore, 1) := qr_o79 hN_cX3_init hn_cX3_init rfl rfl
theorem dX3_init_87 : decode cX3_init 87 = .ok (.iinc 2 1, 3) := qr_o132 2 1 rfl hN_cX3_init hn_cX3_init rfl rfl rfl rfl
theorem dX3_init_90 : decode cX3_init 90 = .ok (.goto (-52), 3) := qr_w167 255 204 52 rfl rfl hN_cX3_init hn_cX3_init rfl rfl rfl rfl
theorem dX3_init_93 : decode cX3_init 93 = .ok (.iinc 1 1, 3) := qr_o132 1 1 rfl hN_cX3_init hn_cX3_init rfl rfl rfl rfl
theorem dX3_init_96 : decode cX3_init 96 = .ok (.goto (-66), 3) := qr_w167 255 190 66 rfl rfl hN_cX3_init hn_cX3_init rfl rfl rfl rfl
theorem dX3_init_99 : decode cX3_init 99 = .ok (.aload_n 0, 1) := qr_o42 hN_cX3_init hn_cX3_init rfl rfl
theorem dX3_init_100 : decode cX3_init 100 = .ok (.invokevirtual 19, 3) := qr_o182 0 19 hN_cX3_init hn_cX3_init rfl rfl rfl rfl
theorem dX3_init_103 : decode cX3_init 103 = .ok (.return_, 1) := qr_o177 hN_cX3_init hn_cX3_init rfl rfl
def nN_cX3_learn : Nat := 0xb11300b62a2200b62a1e00b6641c600415041b1d2a1e00b6640415601c041d1b2ab10400991a00b42a1600b560041600b4592a
theorem hN_cX3_learn : qr_n cX3_learn.data.toList = nN_cX3_learn := by decide +kernel
theorem hn_cX3_learn : cX3_learn.size = 51 := by decide +kernel
theorem dX3_learn_0 : decode cX3_learn 0 = .ok (.aload_n 0, 1) := qr_o42 hN_cX3_learn hn_cX3_learn rfl rfl
theorem dX3_learn_1 : decode cX3_learn 1 = .ok (.dup, 1) := qr_o89 hN_cX3_learn hn_cX3_learn rfl rfl
theorem dX3_learn_2 : decode cX3_learn 2 = .ok (.getfield 22, 3) := qr_o180 0 22 hN_cX3_learn hn_cX3_learn rfl rfl rfl rfl
theorem dX3_learn_5 : decode cX3_learn 5 = .ok (.iconst 1, 1) := qr_o4 hN_cX3_learn hn_cX3_learn rfl rfl
theorem dX3_learn_6 : decode cX3_learn 6 = .ok (.iadd, 1) := qr_o96 hN_cX3_learn hn_cX3_learn rfl rfl
theorem dX3_learn_7 : decode cX3_learn 7 = .ok (.putfield 22, 3) := qr_o181 0 22 hN_cX3_learn hn_cX3_learn rfl rfl rfl rfl
theorem dX3_learn_10 : decode cX3_learn 10 = .ok (.aload_n 0, 1) := qr_o42 hN_cX3_learn hn_cX3_learn rfl rfl
theorem dX3_learn_11 : decode cX3_learn 11 = .ok (.getfield 26, 3) := qr_o180 0 26 hN_cX3_learn hn_cX3_learn rfl rfl rfl rfl
theorem dX3_learn_14 : decode cX3_learn 14 = .ok (.ifCond .eq 4, 3) := qr_o153 0 4 rfl hN_cX3_learn hn_cX3_learn rfl rfl rfl rfl
theorem dX3_learn_17 : decode cX3_learn 17 = .ok (.return_, 1) := qr_o177 hN_cX3_learn hn_cX3_learn rfl rfl
theorem dX3_learn_18 : decode cX3_learn 18 = .ok (.aload_n 0, 1) := qr_o42 hN_cX3_learn hn_cX3_learn rfl rfl
theorem dX3_learn_19 : decode cX3_learn 19 = .ok (.iload_n 1, 1) := qr_o27 hN_cX3_learn hn_cX3_learn rfl rfl
theorem dX3_learn_20 : decode cX3_learn 20 = .ok (.iload_n 3, 1) := qr_o29 hN_cX3_learn hn_cX3_learn rfl rfl
theorem dX3_learn_21 : decode cX3_learn 21 = .ok (.iconst 1, 1) := qr_o4 hN_cX3_learn hn_cX3_learn rfl rfl
theorem dX3_learn_22 : decode cX3_learn 22 = .ok (.iload_n 2, 1) := qr_o28 hN_cX3_learn hn_cX3_learn rfl rfl
theorem dX3_learn_23 : decode cX3_learn 23 = .ok (.iadd, 1) := qr_o96 hN_cX3_learn hn_cX3_learn rfl rfl
theorem dX3_learn_24 : decode cX3_learn 24 = .ok (.iload 4, 2) := qr_o21 4 hN_cX3_learn hn_cX3_learn rfl rfl rfl
theorem dX3_learn_26 : decode cX3_learn 26 = .ok (.isub, 1) := qr_o100 hN_cX3_learn hn_cX3_learn rfl rfl
theorem dX3_learn_27 : decode cX3_learn 27 = .ok (.invokevirtual 30, 3) := qr_o182 0 30 hN_cX3_learn hn_cX3_learn rfl rfl rfl rfl
theorem dX3_learn_30 : decode cX3_learn 30 = .ok (.aload_n 0, 1) := qr_o42 hN_cX3_learn hn_cX3_learn rfl rfl
theorem dX3_learn_31 : decode cX3_learn 31 = .ok (.iload_n 3, 1) := qr_o29 hN_cX3_learn hn_cX3_learn rfl rfl
theorem dX3_learn_32 : decode cX3_learn 32 = .ok (.iload_n 1, 1) := qr_o27 hN_cX3_learn hn_cX3_learn rfl rfl
theorem dX3_learn_33 : decode cX3_learn 33 = .ok (.iconst 1, 1) := qr_o4 hN_cX3_learn hn_cX3_learn rfl rfl
theorem dX3_learn_34 : decode cX3_learn 34 = .ok (.iload 4, 2) := qr_o21 4 hN_cX3_learn hn_cX3_learn rfl rfl rfl
theorem dX3_learn_36 : decode cX3_learn 36 = .ok (.iadd, 1) := qr_o96 hN_cX3_learn hn_cX3_learn rfl rfl
theorem dX3_learn_37 : decode cX3_learn 37 = .ok (.iload_n 2, 1) := qr_o28 hN_cX3_learn hn_cX3_learn rfl rfl
theorem dX3_learn_38 : decode cX3_learn 38 = .ok (.isub, 1) := qr_o100 hN_cX3_learn hn_cX3_learn rfl rfl
theorem dX3_learn_39 : decode cX3_learn 39 = .ok (.invokevirtual 30, 3) := qr_o182 0 30 hN_cX3_learn hn_cX3_learn rfl rfl rfl rfl
theorem dX3_learn_42 : decode cX3_learn 42 = .ok (.aload_n 0, 1) := qr_o42 hN_cX3_learn hn_cX3_learn rfl rfl
theorem dX3_learn_43 : decode cX3_learn 43 = .ok (.invokevirtual 34, 3) := qr_o182 0 34 hN_cX3_learn hn_cX3_learn rfl rfl rfl rfl
theorem dX3_learn_46 : decode cX3_learn 46 = .ok (.aload_n 0, 1) := qr_o42 hN_cX3_learn hn_cX3_learn rfl rfl
theorem dX3_learn_47 : decode cX3_learn 47 = .ok (.invokevirtual 19, 3) := qr_o182 0 19 hN_cX3_learn hn_cX3_learn rfl rfl rfl rfl
theorem dX3_learn_50 : decode cX3_learn 50 = .ok (.return_, 1) := qr_o177 hN_cX3_learn hn_cX3_learn rfl rfl
def nN_cX3_low : Nat := 0xac030400a72e1b0d00b42a0c00a206101b12009b1b
theorem hN_cX3_low : qr_n cX3_low.data.toList = nN_cX3_low := by decide +kernel
theorem hn_cX3_low : cX3_low.size = 21 := by decide +kernel
theorem dX3_low_0 : decode cX3_low 0 = .ok (.iload_n 1, 1) := qr_o27 hN_cX3_low hn_cX3_low rfl rfl
theorem dX3_low_1 : decode cX3_low 1 = .ok (.ifCond .lt 18, 3) := qr_o155 0 18 rfl hN_cX3_low hn_cX3_low rfl rfl rfl rfl
theorem dX3_low_4 : decode cX3_low 4 = .ok (.iload_n 1, 1) := qr_o27 hN_cX3_low hn_cX3_low rfl rfl
theorem dX3_low_5 : decode cX3_low 5 = .ok (.bipush 6, 2) := qr_o16 6 rfl hN_cX3_low hn_cX3_low rfl rfl rfl
theorem dX3_low_7 : decode cX3_low 7 = .ok (.if_icmp .ge 12, 3) := qr_o162 0 12 rfl hN_cX3_low hn_cX3_low rfl rfl rfl rfl
theorem dX3_low_10 : decode cX3_low 10 = .ok (.aload_n 0, 1) := qr_o42 hN_cX3_low hn_cX3_low rfl rfl
theorem dX3_low_11 : decode cX3_low 11 = .ok (.getfield 13, 3) := qr_o180 0 13 hN_cX3_low hn_cX3_low rfl rfl rfl rfl
theorem dX3_low_14 : decode cX3_low 14 = .ok (.iload_n 1, 1) := qr_o27 hN_cX3_low hn_cX3_low rfl rfl
theorem dX3_low_15 : decode cX3_low 15 = .ok (.iaload, 1) := qr_o46 hN_cX3_low hn_cX3_low rfl rfl
theorem dX3_low_16 : decode cX3_low 16 = .ok (.goto 4, 3) := qr_o167 0 4 rfl hN_cX3_low hn_cX3_low rfl rfl rfl rfl
theorem dX3_low_19 : decode cX3_low 19 = .ok (.iconst 0, 1) := qr_o3 hN_cX3_low hn_cX3_low rfl rfl
theorem dX3_low_20 : decode cX3_low 20 = .ok (.ireturn, 1) := qr_o172 hN_cX3_low hn_cX3_low rfl rfl
def nN_cX3_high : Nat := 0xac030400a72e1b1000b42a0c00a206101b12009b1b
theorem hN_cX3_high : qr_n cX3_high.data.toList = nN_cX3_high := by decide +kernel
theorem hn_cX3_high : cX3_high.size = 21 := by decide +kernel
theorem dX3_high_0 : decode cX3_high 0 = .ok (.iload_n 1, 1) := qr_o27 hN_cX3_high hn_cX3_high rfl rfl
theorem dX3_high_1 : decode cX3_high 1 = .ok (.ifCond .lt 18, 3) := qr_o155 0 18 rfl hN_cX3_high hn_cX3_high rfl rfl rfl rfl
theorem dX3_high_4 : decode cX3_high 4 = .ok (.iload_n 1, 1) := qr_o27 hN_cX3_high hn_cX3_high rfl rfl
theorem dX3_high_5 : decode cX3_high 5 = .ok (.bipush 6, 2) := qr_o16 6 rfl hN_cX3_high hn_cX3_high rfl rfl rfl
theorem dX3_high_7 : decode cX3_high 7 = .ok (.if_icmp .ge 12, 3) := qr_o162 0 12 rfl hN_cX3_high hn_cX3_high rfl rfl rfl rfl
theorem dX3_high_10 : decode cX3_high 10 = .ok (.aload_n 0, 1) := qr_o42 hN_cX3_high hn_cX3_high rfl rfl
theorem dX3_high_11 : decode cX3_high 11 = .ok (.getfield 16, 3) := qr_o180 0 16 hN_cX3_high hn_cX3_high rfl rfl rfl rfl
theorem dX3_high_14 : decode cX3_high 14 = .ok (.iload_n 1, 1) := qr_o27 hN_cX3_high hn_cX3_high rfl rfl
theorem dX3_high_15 : decode cX3_high 15 = .ok (.iaload, 1) := qr_o46 hN_cX3_high hn_cX3_high rfl rfl
theorem dX3_high_16 : decode cX3_high 16 = .ok (.goto 4, 3) := qr_o167 0 4 rfl hN_cX3_high hn_cX3_high rfl rfl rfl rfl
theorem dX3_high_19 : decode cX3_high 19 = .ok (.iconst 0, 1) := qr_o3 hN_cX3_high hn_cX3_high rfl rfl
theorem dX3_high_20 : decode cX3_high 20 = .ok (.ireturn, 1) := qr_o172 hN_cX3_high hn_cX3_high rfl rfl
def nN_cX3_spanOf : Nat := 0xac030400a72e1d0900b42a0c00a2be0900b42a1d15009b1d3e601c6806101b
theorem hN_cX3_spanOf : qr_n cX3_spanOf.data.toList = nN_cX3_spanOf := by decide +kernel
theorem hn_cX3_spanOf : cX3_spanOf.size = 31 := by decide +kernel
theorem dX3_spanOf_0 : decode cX3_spanOf 0 = .ok (.iload_n 1, 1) := qr_o27 hN_cX3_spanOf hn_cX3_spanOf rfl rfl
theorem dX3_spanOf_1 : decode cX3_spanOf 1 = .ok (.bipush 6, 2) := qr_o16 6 rfl hN_cX3_spanOf hn_cX3_spanOf rfl rfl rfl
theorem dX3_spanOf_3 : decode cX3_spanOf 3 = .ok (.imul, 1) := qr_o104 hN_cX3_spanOf hn_cX3_spanOf rfl rfl
theorem dX3_spanOf_4 : decode cX3_spanOf 4 = .ok (.iload_n 2, 1) := qr_o28 hN_cX3_spanOf hn_cX3_spanOf rfl rfl
theorem dX3_spanOf_5 : decode cX3_spanOf 5 = .ok (.iadd, 1) := qr_o96 hN_cX3_spanOf hn_cX3_spanOf rfl rfl
theorem dX3_spanOf_6 : decode cX3_spanOf 6 = .ok (.istore_n 3, 1) := qr_o62 hN_cX3_spanOf hn_cX3_spanOf rfl rfl
theorem dX3_spanOf_7 : decode cX3_spanOf 7 = .ok (.iload_n 3, 1) := qr_o29 hN_cX3_spanOf hn_cX3_spanOf rfl rfl
theorem dX3_spanOf_8 : decode cX3_spanOf 8 = .ok (.ifCond .lt 21, 3) := qr_o155 0 21 rfl hN_cX3_spanOf hn_cX3_spanOf rfl rfl rfl rfl
theorem dX3_spanOf_11 : decode cX3_spanOf 11 = .ok (.iload_n 3, 1) := qr_o29 hN_cX3_spanOf hn_cX3_spanOf rfl rfl
theorem dX3_spanOf_12 : decode cX3_spanOf 12 = .ok (.aload_n 0, 1) := qr_o42 hN_cX3_spanOf hn_cX3_spanOf rfl rfl
theorem dX3_spanOf_13 : decode cX3_spanOf 13 = .ok (.getfield 9, 3) := qr_o180 0 9 hN_cX3_spanOf hn_cX3_spanOf rfl rfl rfl rfl
theorem dX3_spanOf_16 : decode cX3_spanOf 16 = .ok (.arraylength, 1) := qr_o190 hN_cX3_spanOf hn_cX3_spanOf rfl rfl
theorem dX3_spanOf_17 : decode cX3_spanOf 17 = .ok (.if_icmp .ge 12, 3) := qr_o162 0 12 rfl hN_cX3_spanOf hn_cX3_spanOf rfl rfl rfl rfl
theorem dX3_spanOf_20 : decode cX3_spanOf 20 = .ok (.aload_n 0, 1) := qr_o42 hN_cX3_spanOf hn_cX3_spanOf rfl rfl
theorem dX3_spanOf_21 : decode cX3_spanOf 21 = .ok (.getfield 9, 3) := qr_o180 0 9 hN_cX3_spanOf hn_cX3_spanOf rfl rfl rfl rfl
theorem dX3_spanOf_24 : decode cX3_spanOf 24 = .ok (.iload_n 3, 1) := qr_o29 hN_cX3_spanOf hn_cX3_spanOf rfl rfl
theorem dX3_spanOf_25 : decode cX3_spanOf 25 = .ok (.iaload, 1) := qr_o46 hN_cX3_spanOf hn_cX3_spanOf rfl rfl
theorem dX3_spanOf_26 : decode cX3_spanOf 26 = .ok (.goto 4, 3) := qr_o167 0 4 rfl hN_cX3_spanOf hn_cX3_spanOf rfl rfl rfl rfl
theorem dX3_spanOf_29 : decode cX3_spanOf 29 = .ok (.iconst 0, 1) := qr_o3 hN_cX3_spanOf hn_cX3_spanOf rfl rfl
theorem dX3_spanOf_30 : decode cX3_spanOf 30 = .ok (.ireturn, 1) := qr_o172 hN_cX3_spanOf hn_cX3_spanOf rfl rfl
def nN_cX3_tighten : Nat := 0xb14f1d04150900b42a0b00a22e04150900b42a1d1600a2be0900b42a041520009b04150436601c6806101b
theorem hN_cX3_tighten : qr_n cX3_tighten.data.toList = nN_cX3_tighten := by decide +kernel
theorem hn_cX3_tighten : cX3_tighten.size = 43 := by decide +kernel
theorem dX3_tighten_0 : decode cX3_tighten 0 = .ok (.iload_n 1, 1) := qr_o27 hN_cX3_tighten hn_cX3_tighten rfl rfl
theorem dX3_tighten_1 : decode cX3_tighten 1 = .ok (.bipush 6, 2) := qr_o16 6 rfl hN_cX3_tighten hn_cX3_tighten rfl rfl rfl
theorem dX3_tighten_3 : decode cX3_tighten 3 = .ok (.imul, 1) := qr_o104 hN_cX3_tighten hn_cX3_tighten rfl rfl
theorem dX3_tighten_4 : decode cX3_tighten 4 = .ok (.iload_n 2, 1) := qr_o28 hN_cX3_tighten hn_cX3_tighten rfl rfl
theorem dX3_tighten_5 : decode cX3_tighten 5 = .ok (.iadd, 1) := qr_o96 hN_cX3_tighten hn_cX3_tighten rfl rfl
theorem dX3_tighten_6 : decode cX3_tighten 6 = .ok (.istore 4, 2) := qr_o54 4 hN_cX3_tighten hn_cX3_tighten rfl rfl rfl
theorem dX3_tighten_8 : decode cX3_tighten 8 = .ok (.iload 4, 2) := qr_o21 4 hN_cX3_tighten hn_cX3_tighten rfl rfl rfl
theorem dX3_tighten_10 : decode cX3_tighten 10 = .ok (.ifCond .lt 32, 3) := qr_o155 0 32 rfl hN_cX3_tighten hn_cX3_tighten rfl rfl rfl rfl
theorem dX3_tighten_13 : decode cX3_tighten 13 = .ok (.iload 4, 2) := qr_o21 4 hN_cX3_tighten hn_cX3_tighten rfl rfl rfl
theorem dX3_tighten_15 : decode cX3_tighten 15 = .ok (.aload_n 0, 1) := qr_o42 hN_cX3_tighten hn_cX3_tighten rfl rfl
theorem dX3_tighten_16 : decode cX3_tighten 16 = .ok (.getfield 9, 3) := qr_o180 0 9 hN_cX3_tighten hn_cX3_tighten rfl rfl rfl rfl
theorem dX3_tighten_19 : decode cX3_tighten 19 = .ok (.arraylength, 1) := qr_o190 hN_cX3_tighten hn_cX3_tighten rfl rfl
theorem dX3_tighten_20 : decode cX3_tighten 20 = .ok (.if_icmp .ge 22, 3) := qr_o162 0 22 rfl hN_cX3_tighten hn_cX3_tighten rfl rfl rfl rfl
theorem dX3_tighten_23 : decode cX3_tighten 23 = .ok (.iload_n 3, 1) := qr_o29 hN_cX3_tighten hn_cX3_tighten rfl rfl
theorem dX3_tighten_24 : decode cX3_tighten 24 = .ok (.aload_n 0, 1) := qr_o42 hN_cX3_tighten hn_cX3_tighten rfl rfl
theorem dX3_tighten_25 : decode cX3_tighten 25 = .ok (.getfield 9, 3) := qr_o180 0 9 hN_cX3_tighten hn_cX3_tighten rfl rfl rfl rfl
theorem dX3_tighten_28 : decode cX3_tighten 28 = .ok (.iload 4, 2) := qr_o21 4 hN_cX3_tighten hn_cX3_tighten rfl rfl rfl
theorem dX3_tighten_30 : decode cX3_tighten 30 = .ok (.iaload, 1) := qr_o46 hN_cX3_tighten hn_cX3_tighten rfl rfl
theorem dX3_tighten_31 : decode cX3_tighten 31 = .ok (.if_icmp .ge 11, 3) := qr_o162 0 11 rfl hN_cX3_tighten hn_cX3_tighten rfl rfl rfl rfl
theorem dX3_tighten_34 : decode cX3_tighten 34 = .ok (.aload_n 0, 1) := qr_o42 hN_cX3_tighten hn_cX3_tighten rfl rfl
theorem dX3_tighten_35 : decode cX3_tighten 35 = .ok (.getfield 9, 3) := qr_o180 0 9 hN_cX3_tighten hn_cX3_tighten rfl rfl rfl rfl
theorem dX3_tighten_38 : decode cX3_tighten 38 = .ok (.iload 4, 2) := qr_o21 4 hN_cX3_tighten hn_cX3_tighten rfl rfl rfl
theorem dX3_tighten_40 : decode cX3_tighten 40 = .ok (.iload_n 3, 1) := qr_o29 hN_cX3_tighten hn_cX3_tighten rfl rfl
theorem dX3_tighten_41 : decode cX3_tighten 41 = .ok (.iastore, 1) := qr_o79 hN_cX3_tighten hn_cX3_tighten rfl rfl
theorem dX3_tighten_42 : decode cX3_tighten 42 = .ok (.return_, 1) := qr_o177 hN_cX3_tighten hn_cX3_tighten rfl rfl
def nN_cX3_close : Nat := 0xb1e9ffa70101841a00b5042a08009c2500b61b1b2a1700a206101b3c03c8ffa7010184d6ffa7010284e4ffa70103841e00b6602500b61d1b2a2500b61b1c2a1d1c2a1c00a206101d3e032a00a206101c3d033800a206101b3c03
theorem hN_cX3_close : qr_n cX3_close.data.toList = nN_cX3_close := by decide +kernel
theorem hn_cX3_close : cX3_close.size = 90 := by decide +kernel
theorem dX3_close_0 : decode cX3_close 0 = .ok (.iconst 0, 1) := qr_o3 hN_cX3_close hn_cX3_close rfl rfl
theorem dX3_close_1 : decode cX3_close 1 = .ok (.istore_n 1, 1) := qr_o60 hN_cX3_close hn_cX3_close rfl rfl
theorem dX3_close_2 : decode cX3_close 2 = .ok (.iload_n 1, 1) := qr_o27 hN_cX3_close hn_cX3_close rfl rfl
theorem dX3_close_3 : decode cX3_close 3 = .ok (.bipush 6, 2) := qr_o16 6 rfl hN_cX3_close hn_cX3_close rfl rfl rfl
theorem dX3_close_5 : decode cX3_close 5 = .ok (.if_icmp .ge 56, 3) := qr_o162 0 56 rfl hN_cX3_close hn_cX3_close rfl rfl rfl rfl
theorem dX3_close_8 : decode cX3_close 8 = .ok (.iconst 0, 1) := qr_o3 hN_cX3_close hn_cX3_close rfl rfl
theorem dX3_close_9 : decode cX3_close 9 = .ok (.istore_n 2, 1) := qr_o61 hN_cX3_close hn_cX3_close rfl rfl
theorem dX3_close_10 : decode cX3_close 10 = .ok (.iload_n 2, 1) := qr_o28 hN_cX3_close hn_cX3_close rfl rfl
theorem dX3_close_11 : decode cX3_close 11 = .ok (.bipush 6, 2) := qr_o16 6 rfl hN_cX3_close hn_cX3_close rfl rfl rfl
theorem dX3_close_13 : decode cX3_close 13 = .ok (.if_icmp .ge 42, 3) := qr_o162 0 42 rfl hN_cX3_close hn_cX3_close rfl rfl rfl rfl
theorem dX3_close_16 : decode cX3_close 16 = .ok (.iconst 0, 1) := qr_o3 hN_cX3_close hn_cX3_close rfl rfl
theorem dX3_close_17 : decode cX3_close 17 = .ok (.istore_n 3, 1) := qr_o62 hN_cX3_close hn_cX3_close rfl rfl
theorem dX3_close_18 : decode cX3_close 18 = .ok (.iload_n 3, 1) := qr_o29 hN_cX3_close hn_cX3_close rfl rfl
theorem dX3_close_19 : decode cX3_close 19 = .ok (.bipush 6, 2) := qr_o16 6 rfl hN_cX3_close hn_cX3_close rfl rfl rfl
theorem dX3_close_21 : decode cX3_close 21 = .ok (.if_icmp .ge 28, 3) := qr_o162 0 28 rfl hN_cX3_close hn_cX3_close rfl rfl rfl rfl
theorem dX3_close_24 : decode cX3_close 24 = .ok (.aload_n 0, 1) := qr_o42 hN_cX3_close hn_cX3_close rfl rfl
theorem dX3_close_25 : decode cX3_close 25 = .ok (.iload_n 2, 1) := qr_o28 hN_cX3_close hn_cX3_close rfl rfl
theorem dX3_close_26 : decode cX3_close 26 = .ok (.iload_n 3, 1) := qr_o29 hN_cX3_close hn_cX3_close rfl rfl
theorem dX3_close_27 : decode cX3_close 27 = .ok (.aload_n 0, 1) := qr_o42 hN_cX3_close hn_cX3_close rfl rfl
theorem dX3_close_28 : decode cX3_close 28 = .ok (.iload_n 2, 1) := qr_o28 hN_cX3_close hn_cX3_close rfl rfl
theorem dX3_close_29 : decode cX3_close 29 = .ok (.iload_n 1, 1) := qr_o27 hN_cX3_close hn_cX3_close rfl rfl
theorem dX3_close_30 : decode cX3_close 30 = .ok (.invokevirtual 37, 3) := qr_o182 0 37 hN_cX3_close hn_cX3_close rfl rfl rfl rfl
theorem dX3_close_33 : decode cX3_close 33 = .ok (.aload_n 0, 1) := qr_o42 hN_cX3_close hn_cX3_close rfl rfl
theorem dX3_close_34 : decode cX3_close 34 = .ok (.iload_n 1, 1) := qr_o27 hN_cX3_close hn_cX3_close rfl rfl
theorem dX3_close_35 : decode cX3_close 35 = .ok (.iload_n 3, 1) := qr_o29 hN_cX3_close hn_cX3_close rfl rfl
theorem dX3_close_36 : decode cX3_close 36 = .ok (.invokevirtual 37, 3) := qr_o182 0 37 hN_cX3_close hn_cX3_close rfl rfl rfl rfl
theorem dX3_close_39 : decode cX3_close 39 = .ok (.iadd, 1) := qr_o96 hN_cX3_close hn_cX3_close rfl rfl
theorem dX3_close_40 : decode cX3_close 40 = .ok (.invokevirtual 30, 3) := qr_o182 0 30 hN_cX3_close hn_cX3_close rfl rfl rfl rfl
theorem dX3_close_43 : decode cX3_close 43 = .ok (.iinc 3 1, 3) := qr_o132 3 1 rfl hN_cX3_close hn_cX3_close rfl rfl rfl rfl
theorem dX3_close_46 : decode cX3_close 46 = .ok (.goto (-28), 3) := qr_w167 255 228 28 rfl rfl hN_cX3_close hn_cX3_close rfl rfl rfl rfl
theorem dX3_close_49 : decode cX3_close 49 = .ok (.iinc 2 1, 3) := qr_o132 2 1 rfl hN_cX3_close hn_cX3_close rfl rfl rfl rfl
theorem dX3_close_52 : decode cX3_close 52 = .ok (.goto (-42), 3) := qr_w167 255 214 42 rfl rfl hN_cX3_close hn_cX3_close rfl rfl rfl rfl
theorem dX3_close_55 : decode cX3_close 55 = .ok (.iinc 1 1, 3) := qr_o132 1 1 rfl hN_cX3_close hn_cX3_close rfl rfl rfl rfl
theorem dX3_close_58 : decode cX3_close 58 = .ok (.goto (-56), 3) := qr_w167 255 200 56 rfl rfl hN_cX3_close hn_cX3_close rfl rfl rfl rfl
theorem dX3_close_61 : decode cX3_close 61 = .ok (.iconst 0, 1) := qr_o3 hN_cX3_close hn_cX3_close rfl rfl
theorem dX3_close_62 : decode cX3_close 62 = .ok (.istore_n 1, 1) := qr_o60 hN_cX3_close hn_cX3_close rfl rfl
theorem dX3_close_63 : decode cX3_close 63 = .ok (.iload_n 1, 1) := qr_o27 hN_cX3_close hn_cX3_close rfl rfl
theorem dX3_close_64 : decode cX3_close 64 = .ok (.bipush 6, 2) := qr_o16 6 rfl hN_cX3_close hn_cX3_close rfl rfl rfl
theorem dX3_close_66 : decode cX3_close 66 = .ok (.if_icmp .ge 23, 3) := qr_o162 0 23 rfl hN_cX3_close hn_cX3_close rfl rfl rfl rfl
theorem dX3_close_69 : decode cX3_close 69 = .ok (.aload_n 0, 1) := qr_o42 hN_cX3_close hn_cX3_close rfl rfl
theorem dX3_close_70 : decode cX3_close 70 = .ok (.iload_n 1, 1) := qr_o27 hN_cX3_close hn_cX3_close rfl rfl
theorem dX3_close_71 : decode cX3_close 71 = .ok (.iload_n 1, 1) := qr_o27 hN_cX3_close hn_cX3_close rfl rfl
theorem dX3_close_72 : decode cX3_close 72 = .ok (.invokevirtual 37, 3) := qr_o182 0 37 hN_cX3_close hn_cX3_close rfl rfl rfl rfl
theorem dX3_close_75 : decode cX3_close 75 = .ok (.ifCond .ge 8, 3) := qr_o156 0 8 rfl hN_cX3_close hn_cX3_close rfl rfl rfl rfl
theorem dX3_close_78 : decode cX3_close 78 = .ok (.aload_n 0, 1) := qr_o42 hN_cX3_close hn_cX3_close rfl rfl
theorem dX3_close_79 : decode cX3_close 79 = .ok (.iconst 1, 1) := qr_o4 hN_cX3_close hn_cX3_close rfl rfl
theorem dX3_close_80 : decode cX3_close 80 = .ok (.putfield 26, 3) := qr_o181 0 26 hN_cX3_close hn_cX3_close rfl rfl rfl rfl
theorem dX3_close_83 : decode cX3_close 83 = .ok (.iinc 1 1, 3) := qr_o132 1 1 rfl hN_cX3_close hn_cX3_close rfl rfl rfl rfl
theorem dX3_close_86 : decode cX3_close 86 = .ok (.goto (-23), 3) := qr_w167 255 233 23 rfl rfl hN_cX3_close hn_cX3_close rfl rfl rfl rfl
theorem dX3_close_89 : decode cX3_close 89 = .ok (.return_, 1) := qr_o177 hN_cX3_close hn_cX3_close rfl rfl
def nN_cX3_readEnds : Nat := 0xb1c6ffa70101844f2500b61b032a0900a709100800991a00b42a1b1000b42a4f742500b6031b2a0a00a7f7100800991a00b42a1b0d00b42a3a00a206101b3c04
theorem hN_cX3_readEnds : qr_n cX3_readEnds.data.toList = nN_cX3_readEnds := by decide +kernel
theorem hn_cX3_readEnds : cX3_readEnds.size = 64 := by decide +kernel
theorem dX3_readEnds_0 : decode cX3_readEnds 0 = .ok (.iconst 1, 1) := qr_o4 hN_cX3_readEnds hn_cX3_readEnds rfl rfl
theorem dX3_readEnds_1 : decode cX3_readEnds 1 = .ok (.istore_n 1, 1) := qr_o60 hN_cX3_readEnds hn_cX3_readEnds rfl rfl
theorem dX3_readEnds_2 : decode cX3_readEnds 2 = .ok (.iload_n 1, 1) := qr_o27 hN_cX3_readEnds hn_cX3_readEnds rfl rfl
theorem dX3_readEnds_3 : decode cX3_readEnds 3 = .ok (.bipush 6, 2) := qr_o16 6 rfl hN_cX3_readEnds hn_cX3_readEnds rfl rfl rfl
theorem dX3_readEnds_5 : decode cX3_readEnds 5 = .ok (.if_icmp .ge 58, 3) := qr_o162 0 58 rfl hN_cX3_readEnds hn_cX3_readEnds rfl rfl rfl rfl
theorem dX3_readEnds_8 : decode cX3_readEnds 8 = .ok (.aload_n 0, 1) := qr_o42 hN_cX3_readEnds hn_cX3_readEnds rfl rfl
theorem dX3_readEnds_9 : decode cX3_readEnds 9 = .ok (.getfield 13, 3) := qr_o180 0 13 hN_cX3_readEnds hn_cX3_readEnds rfl rfl rfl rfl
theorem dX3_readEnds_12 : decode cX3_readEnds 12 = .ok (.iload_n 1, 1) := qr_o27 hN_cX3_readEnds hn_cX3_readEnds rfl rfl
theorem dX3_readEnds_13 : decode cX3_readEnds 13 = .ok (.aload_n 0, 1) := qr_o42 hN_cX3_readEnds hn_cX3_readEnds rfl rfl
theorem dX3_readEnds_14 : decode cX3_readEnds 14 = .ok (.getfield 26, 3) := qr_o180 0 26 hN_cX3_readEnds hn_cX3_readEnds rfl rfl rfl rfl
theorem dX3_readEnds_17 : decode cX3_readEnds 17 = .ok (.ifCond .eq 8, 3) := qr_o153 0 8 rfl hN_cX3_readEnds hn_cX3_readEnds rfl rfl rfl rfl
theorem dX3_readEnds_20 : decode cX3_readEnds 20 = .ok (.bipush (-9), 2) := qr_w16 247 9 rfl rfl hN_cX3_readEnds hn_cX3_readEnds rfl rfl rfl
theorem dX3_readEnds_22 : decode cX3_readEnds 22 = .ok (.goto 10, 3) := qr_o167 0 10 rfl hN_cX3_readEnds hn_cX3_readEnds rfl rfl rfl rfl
theorem dX3_readEnds_25 : decode cX3_readEnds 25 = .ok (.aload_n 0, 1) := qr_o42 hN_cX3_readEnds hn_cX3_readEnds rfl rfl
theorem dX3_readEnds_26 : decode cX3_readEnds 26 = .ok (.iload_n 1, 1) := qr_o27 hN_cX3_readEnds hn_cX3_readEnds rfl rfl
theorem dX3_readEnds_27 : decode cX3_readEnds 27 = .ok (.iconst 0, 1) := qr_o3 hN_cX3_readEnds hn_cX3_readEnds rfl rfl
theorem dX3_readEnds_28 : decode cX3_readEnds 28 = .ok (.invokevirtual 37, 3) := qr_o182 0 37 hN_cX3_readEnds hn_cX3_readEnds rfl rfl rfl rfl
theorem dX3_readEnds_31 : decode cX3_readEnds 31 = .ok (.ineg, 1) := qr_o116 hN_cX3_readEnds hn_cX3_readEnds rfl rfl
theorem dX3_readEnds_32 : decode cX3_readEnds 32 = .ok (.iastore, 1) := qr_o79 hN_cX3_readEnds hn_cX3_readEnds rfl rfl
theorem dX3_readEnds_33 : decode cX3_readEnds 33 = .ok (.aload_n 0, 1) := qr_o42 hN_cX3_readEnds hn_cX3_readEnds rfl rfl
theorem dX3_readEnds_34 : decode cX3_readEnds 34 = .ok (.getfield 16, 3) := qr_o180 0 16 hN_cX3_readEnds hn_cX3_readEnds rfl rfl rfl rfl
theorem dX3_readEnds_37 : decode cX3_readEnds 37 = .ok (.iload_n 1, 1) := qr_o27 hN_cX3_readEnds hn_cX3_readEnds rfl rfl
theorem dX3_readEnds_38 : decode cX3_readEnds 38 = .ok (.aload_n 0, 1) := qr_o42 hN_cX3_readEnds hn_cX3_readEnds rfl rfl
theorem dX3_readEnds_39 : decode cX3_readEnds 39 = .ok (.getfield 26, 3) := qr_o180 0 26 hN_cX3_readEnds hn_cX3_readEnds rfl rfl rfl rfl
theorem dX3_readEnds_42 : decode cX3_readEnds 42 = .ok (.ifCond .eq 8, 3) := qr_o153 0 8 rfl hN_cX3_readEnds hn_cX3_readEnds rfl rfl rfl rfl
theorem dX3_readEnds_45 : decode cX3_readEnds 45 = .ok (.bipush 9, 2) := qr_o16 9 rfl hN_cX3_readEnds hn_cX3_readEnds rfl rfl rfl
theorem dX3_readEnds_47 : decode cX3_readEnds 47 = .ok (.goto 9, 3) := qr_o167 0 9 rfl hN_cX3_readEnds hn_cX3_readEnds rfl rfl rfl rfl
theorem dX3_readEnds_50 : decode cX3_readEnds 50 = .ok (.aload_n 0, 1) := qr_o42 hN_cX3_readEnds hn_cX3_readEnds rfl rfl
theorem dX3_readEnds_51 : decode cX3_readEnds 51 = .ok (.iconst 0, 1) := qr_o3 hN_cX3_readEnds hn_cX3_readEnds rfl rfl
theorem dX3_readEnds_52 : decode cX3_readEnds 52 = .ok (.iload_n 1, 1) := qr_o27 hN_cX3_readEnds hn_cX3_readEnds rfl rfl
theorem dX3_readEnds_53 : decode cX3_readEnds 53 = .ok (.invokevirtual 37, 3) := qr_o182 0 37 hN_cX3_readEnds hn_cX3_readEnds rfl rfl rfl rfl
theorem dX3_readEnds_56 : decode cX3_readEnds 56 = .ok (.iastore, 1) := qr_o79 hN_cX3_readEnds hn_cX3_readEnds rfl rfl
theorem dX3_readEnds_57 : decode cX3_readEnds 57 = .ok (.iinc 1 1, 3) := qr_o132 1 1 rfl hN_cX3_readEnds hn_cX3_readEnds rfl rfl rfl rfl
theorem dX3_readEnds_60 : decode cX3_readEnds 60 = .ok (.goto (-58), 3) := qr_w167 255 198 58 rfl rfl hN_cX3_readEnds hn_cX3_readEnds rfl rfl rfl rfl
theorem dX3_readEnds_63 : decode cX3_readEnds 63 = .ok (.return_, 1) := qr_o177 hN_cX3_readEnds hn_cX3_readEnds rfl rfl
def nN_cX4_init : Nat := 0xb12100b507152a1e00b506152a1b00b505152a1800b504152a1500b51d2a1200b51c2a0f00b51b2a0900b5fc102a0300b72a
theorem hN_cX4_init : qr_n cX4_init.data.toList = nN_cX4_init := by decide +kernel
theorem hn_cX4_init : cX4_init.size = 50 := by decide +kernel
theorem dX4_init_0 : decode cX4_init 0 = .ok (.aload_n 0, 1) := qr_o42 hN_cX4_init hn_cX4_init rfl rfl
theorem dX4_init_1 : decode cX4_init 1 = .ok (.invokespecial 3, 3) := qr_o183 0 3 hN_cX4_init hn_cX4_init rfl rfl rfl rfl
theorem dX4_init_4 : decode cX4_init 4 = .ok (.aload_n 0, 1) := qr_o42 hN_cX4_init hn_cX4_init rfl rfl
theorem dX4_init_5 : decode cX4_init 5 = .ok (.bipush (-4), 2) := qr_w16 252 4 rfl rfl hN_cX4_init hn_cX4_init rfl rfl rfl
theorem dX4_init_7 : decode cX4_init 7 = .ok (.putfield 9, 3) := qr_o181 0 9 hN_cX4_init hn_cX4_init rfl rfl rfl rfl
theorem dX4_init_10 : decode cX4_init 10 = .ok (.aload_n 0, 1) := qr_o42 hN_cX4_init hn_cX4_init rfl rfl
theorem dX4_init_11 : decode cX4_init 11 = .ok (.iload_n 1, 1) := qr_o27 hN_cX4_init hn_cX4_init rfl rfl
theorem dX4_init_12 : decode cX4_init 12 = .ok (.putfield 15, 3) := qr_o181 0 15 hN_cX4_init hn_cX4_init rfl rfl rfl rfl
theorem dX4_init_15 : decode cX4_init 15 = .ok (.aload_n 0, 1) := qr_o42 hN_cX4_init hn_cX4_init rfl rfl
theorem dX4_init_16 : decode cX4_init 16 = .ok (.iload_n 2, 1) := qr_o28 hN_cX4_init hn_cX4_init rfl rfl
theorem dX4_init_17 : decode cX4_init 17 = .ok (.putfield 18, 3) := qr_o181 0 18 hN_cX4_init hn_cX4_init rfl rfl rfl rfl
theorem dX4_init_20 : decode cX4_init 20 = .ok (.aload_n 0, 1) := qr_o42 hN_cX4_init hn_cX4_init rfl rfl
theorem dX4_init_21 : decode cX4_init 21 = .ok (.iload_n 3, 1) := qr_o29 hN_cX4_init hn_cX4_init rfl rfl
theorem dX4_init_22 : decode cX4_init 22 = .ok (.putfield 21, 3) := qr_o181 0 21 hN_cX4_init hn_cX4_init rfl rfl rfl rfl
theorem dX4_init_25 : decode cX4_init 25 = .ok (.aload_n 0, 1) := qr_o42 hN_cX4_init hn_cX4_init rfl rfl
theorem dX4_init_26 : decode cX4_init 26 = .ok (.iload 4, 2) := qr_o21 4 hN_cX4_init hn_cX4_init rfl rfl rfl
theorem dX4_init_28 : decode cX4_init 28 = .ok (.putfield 24, 3) := qr_o181 0 24 hN_cX4_init hn_cX4_init rfl rfl rfl rfl
theorem dX4_init_31 : decode cX4_init 31 = .ok (.aload_n 0, 1) := qr_o42 hN_cX4_init hn_cX4_init rfl rfl
theorem dX4_init_32 : decode cX4_init 32 = .ok (.iload 5, 2) := qr_o21 5 hN_cX4_init hn_cX4_init rfl rfl rfl
theorem dX4_init_34 : decode cX4_init 34 = .ok (.putfield 27, 3) := qr_o181 0 27 hN_cX4_init hn_cX4_init rfl rfl rfl rfl
theorem dX4_init_37 : decode cX4_init 37 = .ok (.aload_n 0, 1) := qr_o42 hN_cX4_init hn_cX4_init rfl rfl
theorem dX4_init_38 : decode cX4_init 38 = .ok (.iload 6, 2) := qr_o21 6 hN_cX4_init hn_cX4_init rfl rfl rfl
theorem dX4_init_40 : decode cX4_init 40 = .ok (.putfield 30, 3) := qr_o181 0 30 hN_cX4_init hn_cX4_init rfl rfl rfl rfl
theorem dX4_init_43 : decode cX4_init 43 = .ok (.aload_n 0, 1) := qr_o42 hN_cX4_init hn_cX4_init rfl rfl
theorem dX4_init_44 : decode cX4_init 44 = .ok (.iload 7, 2) := qr_o21 7 hN_cX4_init hn_cX4_init rfl rfl rfl
theorem dX4_init_46 : decode cX4_init 46 = .ok (.putfield 33, 3) := qr_o181 0 33 hN_cX4_init hn_cX4_init rfl rfl rfl rfl
end
section
theorem dX4_init_49 : decode cX4_init 49 = .ok (.return_, 1) := qr_o177 hN_cX4_init hn_cX4_init rfl rfl
def nN_cX4_isWanted : Nat := 0xac030400a7040700a0040f00b42a0f009a1b0f009f1b0f00b42a
theorem hN_cX4_isWanted : qr_n cX4_isWanted.data.toList = nN_cX4_isWanted := by decide +kernel
theorem hn_cX4_isWanted : cX4_isWanted.size = 26 := by decide +kernel
theorem dX4_isWanted_0 : decode cX4_isWanted 0 = .ok (.aload_n 0, 1) := qr_o42 hN_cX4_isWanted hn_cX4_isWanted rfl rfl
theorem dX4_isWanted_1 : decode cX4_isWanted 1 = .ok (.getfield 15, 3) := qr_o180 0 15 hN_cX4_isWanted hn_cX4_isWanted rfl rfl rfl rfl
theorem dX4_isWanted_4 : decode cX4_isWanted 4 = .ok (.iload_n 1, 1) := qr_o27 hN_cX4_isWanted hn_cX4_isWanted rfl rfl
theorem dX4_isWanted_5 : decode cX4_isWanted 5 = .ok (.if_icmp .eq 15, 3) := qr_o159 0 15 rfl hN_cX4_isWanted hn_cX4_isWanted rfl rfl rfl rfl
theorem dX4_isWanted_8 : decode cX4_isWanted 8 = .ok (.iload_n 1, 1) := qr_o27 hN_cX4_isWanted hn_cX4_isWanted rfl rfl
theorem dX4_isWanted_9 : decode cX4_isWanted 9 = .ok (.ifCond .ne 15, 3) := qr_o154 0 15 rfl hN_cX4_isWanted hn_cX4_isWanted rfl rfl rfl rfl
theorem dX4_isWanted_12 : decode cX4_isWanted 12 = .ok (.aload_n 0, 1) := qr_o42 hN_cX4_isWanted hn_cX4_isWanted rfl rfl
theorem dX4_isWanted_13 : decode cX4_isWanted 13 = .ok (.getfield 15, 3) := qr_o180 0 15 hN_cX4_isWanted hn_cX4_isWanted rfl rfl rfl rfl
theorem dX4_isWanted_16 : decode cX4_isWanted 16 = .ok (.iconst 1, 1) := qr_o4 hN_cX4_isWanted hn_cX4_isWanted rfl rfl
theorem dX4_isWanted_17 : decode cX4_isWanted 17 = .ok (.if_icmp .ne 7, 3) := qr_o160 0 7 rfl hN_cX4_isWanted hn_cX4_isWanted rfl rfl rfl rfl
theorem dX4_isWanted_20 : decode cX4_isWanted 20 = .ok (.iconst 1, 1) := qr_o4 hN_cX4_isWanted hn_cX4_isWanted rfl rfl
theorem dX4_isWanted_21 : decode cX4_isWanted 21 = .ok (.goto 4, 3) := qr_o167 0 4 rfl hN_cX4_isWanted hn_cX4_isWanted rfl rfl rfl rfl
theorem dX4_isWanted_24 : decode cX4_isWanted 24 = .ok (.iconst 0, 1) := qr_o3 hN_cX4_isWanted hn_cX4_isWanted rfl rfl
theorem dX4_isWanted_25 : decode cX4_isWanted 25 = .ok (.ireturn, 1) := qr_o172 hN_cX4_isWanted hn_cX4_isWanted rfl rfl
def nN_cX4_isRetired : Nat := 0xac030400a7040700a12100b42a2800b42a0e009a2400b42a
theorem hN_cX4_isRetired : qr_n cX4_isRetired.data.toList = nN_cX4_isRetired := by decide +kernel
theorem hn_cX4_isRetired : cX4_isRetired.size = 24 := by decide +kernel
theorem dX4_isRetired_0 : decode cX4_isRetired 0 = .ok (.aload_n 0, 1) := qr_o42 hN_cX4_isRetired hn_cX4_isRetired rfl rfl
theorem dX4_isRetired_1 : decode cX4_isRetired 1 = .ok (.getfield 36, 3) := qr_o180 0 36 hN_cX4_isRetired hn_cX4_isRetired rfl rfl rfl rfl
theorem dX4_isRetired_4 : decode cX4_isRetired 4 = .ok (.ifCond .ne 14, 3) := qr_o154 0 14 rfl hN_cX4_isRetired hn_cX4_isRetired rfl rfl rfl rfl
theorem dX4_isRetired_7 : decode cX4_isRetired 7 = .ok (.aload_n 0, 1) := qr_o42 hN_cX4_isRetired hn_cX4_isRetired rfl rfl
theorem dX4_isRetired_8 : decode cX4_isRetired 8 = .ok (.getfield 40, 3) := qr_o180 0 40 hN_cX4_isRetired hn_cX4_isRetired rfl rfl rfl rfl
theorem dX4_isRetired_11 : decode cX4_isRetired 11 = .ok (.aload_n 0, 1) := qr_o42 hN_cX4_isRetired hn_cX4_isRetired rfl rfl
theorem dX4_isRetired_12 : decode cX4_isRetired 12 = .ok (.getfield 33, 3) := qr_o180 0 33 hN_cX4_isRetired hn_cX4_isRetired rfl rfl rfl rfl
theorem dX4_isRetired_15 : decode cX4_isRetired 15 = .ok (.if_icmp .lt 7, 3) := qr_o161 0 7 rfl hN_cX4_isRetired hn_cX4_isRetired rfl rfl rfl rfl
theorem dX4_isRetired_18 : decode cX4_isRetired 18 = .ok (.iconst 1, 1) := qr_o4 hN_cX4_isRetired hn_cX4_isRetired rfl rfl
theorem dX4_isRetired_19 : decode cX4_isRetired 19 = .ok (.goto 4, 3) := qr_o167 0 4 rfl hN_cX4_isRetired hn_cX4_isRetired rfl rfl rfl rfl
theorem dX4_isRetired_22 : decode cX4_isRetired 22 = .ok (.iconst 0, 1) := qr_o3 hN_cX4_isRetired hn_cX4_isRetired rfl rfl
theorem dX4_isRetired_23 : decode cX4_isRetired 23 = .ok (.ireturn, 1) := qr_o172 hN_cX4_isRetired hn_cX4_isRetired rfl rfl
def nN_cX4_isTorn : Nat := 0xac030400a70407009ffc100900b42a
theorem hN_cX4_isTorn : qr_n cX4_isTorn.data.toList = nN_cX4_isTorn := by decide +kernel
theorem hn_cX4_isTorn : cX4_isTorn.size = 15 := by decide +kernel
theorem dX4_isTorn_0 : decode cX4_isTorn 0 = .ok (.aload_n 0, 1) := qr_o42 hN_cX4_isTorn hn_cX4_isTorn rfl rfl
theorem dX4_isTorn_1 : decode cX4_isTorn 1 = .ok (.getfield 9, 3) := qr_o180 0 9 hN_cX4_isTorn hn_cX4_isTorn rfl rfl rfl rfl
theorem dX4_isTorn_4 : decode cX4_isTorn 4 = .ok (.bipush (-4), 2) := qr_w16 252 4 rfl rfl hN_cX4_isTorn hn_cX4_isTorn rfl rfl rfl
theorem dX4_isTorn_6 : decode cX4_isTorn 6 = .ok (.if_icmp .eq 7, 3) := qr_o159 0 7 rfl hN_cX4_isTorn hn_cX4_isTorn rfl rfl rfl rfl
theorem dX4_isTorn_9 : decode cX4_isTorn 9 = .ok (.iconst 1, 1) := qr_o4 hN_cX4_isTorn hn_cX4_isTorn rfl rfl
theorem dX4_isTorn_10 : decode cX4_isTorn 10 = .ok (.goto 4, 3) := qr_o167 0 4 rfl hN_cX4_isTorn hn_cX4_isTorn rfl rfl rfl rfl
theorem dX4_isTorn_13 : decode cX4_isTorn 13 = .ok (.iconst 0, 1) := qr_o3 hN_cX4_isTorn hn_cX4_isTorn rfl rfl
theorem dX4_isTorn_14 : decode cX4_isTorn 14 = .ok (.ireturn, 1) := qr_o172 hN_cX4_isTorn hn_cX4_isTorn rfl rfl
def nN_cX4_isTornBy : Nat := 0xac030400a7040700a31b0900b42a0f00992b00b62a
theorem hN_cX4_isTornBy : qr_n cX4_isTornBy.data.toList = nN_cX4_isTornBy := by decide +kernel
theorem hn_cX4_isTornBy : cX4_isTornBy.size = 21 := by decide +kernel
theorem dX4_isTornBy_0 : decode cX4_isTornBy 0 = .ok (.aload_n 0, 1) := qr_o42 hN_cX4_isTornBy hn_cX4_isTornBy rfl rfl
theorem dX4_isTornBy_1 : decode cX4_isTornBy 1 = .ok (.invokevirtual 43, 3) := qr_o182 0 43 hN_cX4_isTornBy hn_cX4_isTornBy rfl rfl rfl rfl
theorem dX4_isTornBy_4 : decode cX4_isTornBy 4 = .ok (.ifCond .eq 15, 3) := qr_o153 0 15 rfl hN_cX4_isTornBy hn_cX4_isTornBy rfl rfl rfl rfl
theorem dX4_isTornBy_7 : decode cX4_isTornBy 7 = .ok (.aload_n 0, 1) := qr_o42 hN_cX4_isTornBy hn_cX4_isTornBy rfl rfl
theorem dX4_isTornBy_8 : decode cX4_isTornBy 8 = .ok (.getfield 9, 3) := qr_o180 0 9 hN_cX4_isTornBy hn_cX4_isTornBy rfl rfl rfl rfl
theorem dX4_isTornBy_11 : decode cX4_isTornBy 11 = .ok (.iload_n 1, 1) := qr_o27 hN_cX4_isTornBy hn_cX4_isTornBy rfl rfl
theorem dX4_isTornBy_12 : decode cX4_isTornBy 12 = .ok (.if_icmp .gt 7, 3) := qr_o163 0 7 rfl hN_cX4_isTornBy hn_cX4_isTornBy rfl rfl rfl rfl
theorem dX4_isTornBy_15 : decode cX4_isTornBy 15 = .ok (.iconst 1, 1) := qr_o4 hN_cX4_isTornBy hn_cX4_isTornBy rfl rfl
theorem dX4_isTornBy_16 : decode cX4_isTornBy 16 = .ok (.goto 4, 3) := qr_o167 0 4 rfl hN_cX4_isTornBy hn_cX4_isTornBy rfl rfl rfl rfl
theorem dX4_isTornBy_19 : decode cX4_isTornBy 19 = .ok (.iconst 0, 1) := qr_o3 hN_cX4_isTornBy hn_cX4_isTornBy rfl rfl
theorem dX4_isTornBy_20 : decode cX4_isTornBy 20 = .ok (.ireturn, 1) := qr_o172 hN_cX4_isTornBy hn_cX4_isTornBy rfl rfl
def nN_cX4_canBeWornOn : Nat := 0xac030400a70407009a3200b61b2a0f009a2f00b62a
theorem hN_cX4_canBeWornOn : qr_n cX4_canBeWornOn.data.toList = nN_cX4_canBeWornOn := by decide +kernel
theorem hn_cX4_canBeWornOn : cX4_canBeWornOn.size = 21 := by decide +kernel
theorem dX4_canBeWornOn_0 : decode cX4_canBeWornOn 0 = .ok (.aload_n 0, 1) := qr_o42 hN_cX4_canBeWornOn hn_cX4_canBeWornOn rfl rfl
theorem dX4_canBeWornOn_1 : decode cX4_canBeWornOn 1 = .ok (.invokevirtual 47, 3) := qr_o182 0 47 hN_cX4_canBeWornOn hn_cX4_canBeWornOn rfl rfl rfl rfl
theorem dX4_canBeWornOn_4 : decode cX4_canBeWornOn 4 = .ok (.ifCond .ne 15, 3) := qr_o154 0 15 rfl hN_cX4_canBeWornOn hn_cX4_canBeWornOn rfl rfl rfl rfl
theorem dX4_canBeWornOn_7 : decode cX4_canBeWornOn 7 = .ok (.aload_n 0, 1) := qr_o42 hN_cX4_canBeWornOn hn_cX4_canBeWornOn rfl rfl
theorem dX4_canBeWornOn_8 : decode cX4_canBeWornOn 8 = .ok (.iload_n 1, 1) := qr_o27 hN_cX4_canBeWornOn hn_cX4_canBeWornOn rfl rfl
theorem dX4_canBeWornOn_9 : decode cX4_canBeWornOn 9 = .ok (.invokevirtual 50, 3) := qr_o182 0 50 hN_cX4_canBeWornOn hn_cX4_canBeWornOn rfl rfl rfl rfl
theorem dX4_canBeWornOn_12 : decode cX4_canBeWornOn 12 = .ok (.ifCond .ne 7, 3) := qr_o154 0 7 rfl hN_cX4_canBeWornOn hn_cX4_canBeWornOn rfl rfl rfl rfl
theorem dX4_canBeWornOn_15 : decode cX4_canBeWornOn 15 = .ok (.iconst 1, 1) := qr_o4 hN_cX4_canBeWornOn hn_cX4_canBeWornOn rfl rfl
theorem dX4_canBeWornOn_16 : decode cX4_canBeWornOn 16 = .ok (.goto 4, 3) := qr_o167 0 4 rfl hN_cX4_canBeWornOn hn_cX4_canBeWornOn rfl rfl rfl rfl
theorem dX4_canBeWornOn_19 : decode cX4_canBeWornOn 19 = .ok (.iconst 0, 1) := qr_o3 hN_cX4_canBeWornOn hn_cX4_canBeWornOn rfl rfl
theorem dX4_canBeWornOn_20 : decode cX4_canBeWornOn 20 = .ok (.ireturn, 1) := qr_o172 hN_cX4_canBeWornOn hn_cX4_canBeWornOn rfl rfl
def nN_cX4_worth : Nat := 0xac6c2100b42a683600b8642800b42a2100b42a031e00b42a1a00a7030700a2042100b42a
theorem hN_cX4_worth : qr_n cX4_worth.data.toList = nN_cX4_worth := by decide +kernel
theorem hn_cX4_worth : cX4_worth.size = 36 := by decide +kernel
theorem dX4_worth_0 : decode cX4_worth 0 = .ok (.aload_n 0, 1) := qr_o42 hN_cX4_worth hn_cX4_worth rfl rfl
theorem dX4_worth_1 : decode cX4_worth 1 = .ok (.getfield 33, 3) := qr_o180 0 33 hN_cX4_worth hn_cX4_worth rfl rfl rfl rfl
theorem dX4_worth_4 : decode cX4_worth 4 = .ok (.iconst 1, 1) := qr_o4 hN_cX4_worth hn_cX4_worth rfl rfl
theorem dX4_worth_5 : decode cX4_worth 5 = .ok (.if_icmp .ge 7, 3) := qr_o162 0 7 rfl hN_cX4_worth hn_cX4_worth rfl rfl rfl rfl
theorem dX4_worth_8 : decode cX4_worth 8 = .ok (.iconst 0, 1) := qr_o3 hN_cX4_worth hn_cX4_worth rfl rfl
theorem dX4_worth_9 : decode cX4_worth 9 = .ok (.goto 26, 3) := qr_o167 0 26 rfl hN_cX4_worth hn_cX4_worth rfl rfl rfl rfl
theorem dX4_worth_12 : decode cX4_worth 12 = .ok (.aload_n 0, 1) := qr_o42 hN_cX4_worth hn_cX4_worth rfl rfl
theorem dX4_worth_13 : decode cX4_worth 13 = .ok (.getfield 30, 3) := qr_o180 0 30 hN_cX4_worth hn_cX4_worth rfl rfl rfl rfl
theorem dX4_worth_16 : decode cX4_worth 16 = .ok (.iconst 0, 1) := qr_o3 hN_cX4_worth hn_cX4_worth rfl rfl
theorem dX4_worth_17 : decode cX4_worth 17 = .ok (.aload_n 0, 1) := qr_o42 hN_cX4_worth hn_cX4_worth rfl rfl
theorem dX4_worth_18 : decode cX4_worth 18 = .ok (.getfield 33, 3) := qr_o180 0 33 hN_cX4_worth hn_cX4_worth rfl rfl rfl rfl
theorem dX4_worth_21 : decode cX4_worth 21 = .ok (.aload_n 0, 1) := qr_o42 hN_cX4_worth hn_cX4_worth rfl rfl
theorem dX4_worth_22 : decode cX4_worth 22 = .ok (.getfield 40, 3) := qr_o180 0 40 hN_cX4_worth hn_cX4_worth rfl rfl rfl rfl
theorem dX4_worth_25 : decode cX4_worth 25 = .ok (.isub, 1) := qr_o100 hN_cX4_worth hn_cX4_worth rfl rfl
theorem dX4_worth_26 : decode cX4_worth 26 = .ok (.invokestatic 54, 3) := qr_o184 0 54 hN_cX4_worth hn_cX4_worth rfl rfl rfl rfl
theorem dX4_worth_29 : decode cX4_worth 29 = .ok (.imul, 1) := qr_o104 hN_cX4_worth hn_cX4_worth rfl rfl
theorem dX4_worth_30 : decode cX4_worth 30 = .ok (.aload_n 0, 1) := qr_o42 hN_cX4_worth hn_cX4_worth rfl rfl
theorem dX4_worth_31 : decode cX4_worth 31 = .ok (.getfield 33, 3) := qr_o180 0 33 hN_cX4_worth hn_cX4_worth rfl rfl rfl rfl
theorem dX4_worth_34 : decode cX4_worth 34 = .ok (.idiv, 1) := qr_o108 hN_cX4_worth hn_cX4_worth rfl rfl
theorem dX4_worth_35 : decode cX4_worth 35 = .ok (.ireturn, 1) := qr_o172 hN_cX4_worth hn_cX4_worth rfl rfl
def nN_cX4_tally : Nat := 0xac03ac2800b42aac030400a7040700992b00b62aac030400a7040700992f00b62a3d000000070000003000000002000000230000000100000003000000420000000000ab1b
theorem hN_cX4_tally : qr_n cX4_tally.data.toList = nN_cX4_tally := by decide +kernel
theorem hn_cX4_tally : cX4_tally.size = 69 := by decide +kernel
theorem dX4_tally_0 : decode cX4_tally 0 = .ok (.iload_n 1, 1) := qr_o27 hN_cX4_tally hn_cX4_tally rfl rfl
theorem dX4_tally_1 : decode cX4_tally 1 = .ok (.lookupswitch 66 #[(1, 35), (2, 48), (7, 61)], 35) := by decide +kernel
theorem dX4_tally_36 : decode cX4_tally 36 = .ok (.aload_n 0, 1) := qr_o42 hN_cX4_tally hn_cX4_tally rfl rfl
theorem dX4_tally_37 : decode cX4_tally 37 = .ok (.invokevirtual 47, 3) := qr_o182 0 47 hN_cX4_tally hn_cX4_tally rfl rfl rfl rfl
theorem dX4_tally_40 : decode cX4_tally 40 = .ok (.ifCond .eq 7, 3) := qr_o153 0 7 rfl hN_cX4_tally hn_cX4_tally rfl rfl rfl rfl
theorem dX4_tally_43 : decode cX4_tally 43 = .ok (.iconst 1, 1) := qr_o4 hN_cX4_tally hn_cX4_tally rfl rfl
theorem dX4_tally_44 : decode cX4_tally 44 = .ok (.goto 4, 3) := qr_o167 0 4 rfl hN_cX4_tally hn_cX4_tally rfl rfl rfl rfl
theorem dX4_tally_47 : decode cX4_tally 47 = .ok (.iconst 0, 1) := qr_o3 hN_cX4_tally hn_cX4_tally rfl rfl
theorem dX4_tally_48 : decode cX4_tally 48 = .ok (.ireturn, 1) := qr_o172 hN_cX4_tally hn_cX4_tally rfl rfl
theorem dX4_tally_49 : decode cX4_tally 49 = .ok (.aload_n 0, 1) := qr_o42 hN_cX4_tally hn_cX4_tally rfl rfl
theorem dX4_tally_50 : decode cX4_tally 50 = .ok (.invokevirtual 43, 3) := qr_o182 0 43 hN_cX4_tally hn_cX4_tally rfl rfl rfl rfl
theorem dX4_tally_53 : decode cX4_tally 53 = .ok (.ifCond .eq 7, 3) := qr_o153 0 7 rfl hN_cX4_tally hn_cX4_tally rfl rfl rfl rfl
theorem dX4_tally_56 : decode cX4_tally 56 = .ok (.iconst 1, 1) := qr_o4 hN_cX4_tally hn_cX4_tally rfl rfl
theorem dX4_tally_57 : decode cX4_tally 57 = .ok (.goto 4, 3) := qr_o167 0 4 rfl hN_cX4_tally hn_cX4_tally rfl rfl rfl rfl
theorem dX4_tally_60 : decode cX4_tally 60 = .ok (.iconst 0, 1) := qr_o3 hN_cX4_tally hn_cX4_tally rfl rfl
theorem dX4_tally_61 : decode cX4_tally 61 = .ok (.ireturn, 1) := qr_o172 hN_cX4_tally hn_cX4_tally rfl rfl
theorem dX4_tally_62 : decode cX4_tally 62 = .ok (.aload_n 0, 1) := qr_o42 hN_cX4_tally hn_cX4_tally rfl rfl
theorem dX4_tally_63 : decode cX4_tally 63 = .ok (.getfield 40, 3) := qr_o180 0 40 hN_cX4_tally hn_cX4_tally rfl rfl rfl rfl
theorem dX4_tally_66 : decode cX4_tally 66 = .ok (.ireturn, 1) := qr_o172 hN_cX4_tally hn_cX4_tally rfl rfl
theorem dX4_tally_67 : decode cX4_tally 67 = .ok (.iconst 0, 1) := qr_o3 hN_cX4_tally hn_cX4_tally rfl rfl
theorem dX4_tally_68 : decode cX4_tally 68 = .ok (.ireturn, 1) := qr_o172 hN_cX4_tally hn_cX4_tally rfl rfl
def nN_cX4_detail : Nat := 0xac02ac0900b42aac030400a7040700992f00b62aac3c00b62aac2800b42aac1e00b42aac1b00b42aac1800b42aac1500b42aac1200b42aac0f00b42a6c0000005f0000005a00000055000000500000004b00000046000000410000003c000000370000000900000000000000710000000000aa1b
theorem hN_cX4_detail : qr_n cX4_detail.data.toList = nN_cX4_detail := by decide +kernel
theorem hn_cX4_detail : cX4_detail.size = 116 := by decide +kernel
theorem dX4_detail_0 : decode cX4_detail 0 = .ok (.iload_n 1, 1) := qr_o27 hN_cX4_detail hn_cX4_detail rfl rfl
theorem dX4_detail_1 : decode cX4_detail 1 = .ok (.tableswitch 113 0 9 #[55, 60, 65, 70, 75, 80, 85, 90, 95, 108], 55) := by decide +kernel
theorem dX4_detail_56 : decode cX4_detail 56 = .ok (.aload_n 0, 1) := qr_o42 hN_cX4_detail hn_cX4_detail rfl rfl
theorem dX4_detail_57 : decode cX4_detail 57 = .ok (.getfield 15, 3) := qr_o180 0 15 hN_cX4_detail hn_cX4_detail rfl rfl rfl rfl
theorem dX4_detail_60 : decode cX4_detail 60 = .ok (.ireturn, 1) := qr_o172 hN_cX4_detail hn_cX4_detail rfl rfl
theorem dX4_detail_61 : decode cX4_detail 61 = .ok (.aload_n 0, 1) := qr_o42 hN_cX4_detail hn_cX4_detail rfl rfl
theorem dX4_detail_62 : decode cX4_detail 62 = .ok (.getfield 18, 3) := qr_o180 0 18 hN_cX4_detail hn_cX4_detail rfl rfl rfl rfl
theorem dX4_detail_65 : decode cX4_detail 65 = .ok (.ireturn, 1) := qr_o172 hN_cX4_detail hn_cX4_detail rfl rfl
theorem dX4_detail_66 : decode cX4_detail 66 = .ok (.aload_n 0, 1) := qr_o42 hN_cX4_detail hn_cX4_detail rfl rfl
theorem dX4_detail_67 : decode cX4_detail 67 = .ok (.getfield 21, 3) := qr_o180 0 21 hN_cX4_detail hn_cX4_detail rfl rfl rfl rfl
theorem dX4_detail_70 : decode cX4_detail 70 = .ok (.ireturn, 1) := qr_o172 hN_cX4_detail hn_cX4_detail rfl rfl
theorem dX4_detail_71 : decode cX4_detail 71 = .ok (.aload_n 0, 1) := qr_o42 hN_cX4_detail hn_cX4_detail rfl rfl
theorem dX4_detail_72 : decode cX4_detail 72 = .ok (.getfield 24, 3) := qr_o180 0 24 hN_cX4_detail hn_cX4_detail rfl rfl rfl rfl
theorem dX4_detail_75 : decode cX4_detail 75 = .ok (.ireturn, 1) := qr_o172 hN_cX4_detail hn_cX4_detail rfl rfl
theorem dX4_detail_76 : decode cX4_detail 76 = .ok (.aload_n 0, 1) := qr_o42 hN_cX4_detail hn_cX4_detail rfl rfl
theorem dX4_detail_77 : decode cX4_detail 77 = .ok (.getfield 27, 3) := qr_o180 0 27 hN_cX4_detail hn_cX4_detail rfl rfl rfl rfl
theorem dX4_detail_80 : decode cX4_detail 80 = .ok (.ireturn, 1) := qr_o172 hN_cX4_detail hn_cX4_detail rfl rfl
theorem dX4_detail_81 : decode cX4_detail 81 = .ok (.aload_n 0, 1) := qr_o42 hN_cX4_detail hn_cX4_detail rfl rfl
theorem dX4_detail_82 : decode cX4_detail 82 = .ok (.getfield 30, 3) := qr_o180 0 30 hN_cX4_detail hn_cX4_detail rfl rfl rfl rfl
theorem dX4_detail_85 : decode cX4_detail 85 = .ok (.ireturn, 1) := qr_o172 hN_cX4_detail hn_cX4_detail rfl rfl
theorem dX4_detail_86 : decode cX4_detail 86 = .ok (.aload_n 0, 1) := qr_o42 hN_cX4_detail hn_cX4_detail rfl rfl
theorem dX4_detail_87 : decode cX4_detail 87 = .ok (.getfield 40, 3) := qr_o180 0 40 hN_cX4_detail hn_cX4_detail rfl rfl rfl rfl
theorem dX4_detail_90 : decode cX4_detail 90 = .ok (.ireturn, 1) := qr_o172 hN_cX4_detail hn_cX4_detail rfl rfl
theorem dX4_detail_91 : decode cX4_detail 91 = .ok (.aload_n 0, 1) := qr_o42 hN_cX4_detail hn_cX4_detail rfl rfl
theorem dX4_detail_92 : decode cX4_detail 92 = .ok (.invokevirtual 60, 3) := qr_o182 0 60 hN_cX4_detail hn_cX4_detail rfl rfl rfl rfl
theorem dX4_detail_95 : decode cX4_detail 95 = .ok (.ireturn, 1) := qr_o172 hN_cX4_detail hn_cX4_detail rfl rfl
theorem dX4_detail_96 : decode cX4_detail 96 = .ok (.aload_n 0, 1) := qr_o42 hN_cX4_detail hn_cX4_detail rfl rfl
theorem dX4_detail_97 : decode cX4_detail 97 = .ok (.invokevirtual 47, 3) := qr_o182 0 47 hN_cX4_detail hn_cX4_detail rfl rfl rfl rfl
theorem dX4_detail_100 : decode cX4_detail 100 = .ok (.ifCond .eq 7, 3) := qr_o153 0 7 rfl hN_cX4_detail hn_cX4_detail rfl rfl rfl rfl
theorem dX4_detail_103 : decode cX4_detail 103 = .ok (.iconst 1, 1) := qr_o4 hN_cX4_detail hn_cX4_detail rfl rfl
theorem dX4_detail_104 : decode cX4_detail 104 = .ok (.goto 4, 3) := qr_o167 0 4 rfl hN_cX4_detail hn_cX4_detail rfl rfl rfl rfl
theorem dX4_detail_107 : decode cX4_detail 107 = .ok (.iconst 0, 1) := qr_o3 hN_cX4_detail hn_cX4_detail rfl rfl
theorem dX4_detail_108 : decode cX4_detail 108 = .ok (.ireturn, 1) := qr_o172 hN_cX4_detail hn_cX4_detail rfl rfl
theorem dX4_detail_109 : decode cX4_detail 109 = .ok (.aload_n 0, 1) := qr_o42 hN_cX4_detail hn_cX4_detail rfl rfl
theorem dX4_detail_110 : decode cX4_detail 110 = .ok (.getfield 9, 3) := qr_o180 0 9 hN_cX4_detail hn_cX4_detail rfl rfl rfl rfl
theorem dX4_detail_113 : decode cX4_detail 113 = .ok (.ireturn, 1) := qr_o172 hN_cX4_detail hn_cX4_detail rfl rfl
theorem dX4_detail_114 : decode cX4_detail 114 = .ok (.iconst (-1), 1) := qr_o2 hN_cX4_detail hn_cX4_detail rfl rfl
theorem dX4_detail_115 : decode cX4_detail 115 = .ok (.ireturn, 1) := qr_o172 hN_cX4_detail hn_cX4_detail rfl rfl
def nN_cX5_init : Nat := 0xb10b00b50abc24102a0300b72a
theorem hN_cX5_init : qr_n cX5_init.data.toList = nN_cX5_init := by decide +kernel
theorem hn_cX5_init : cX5_init.size = 13 := by decide +kernel
theorem dX5_init_0 : decode cX5_init 0 = .ok (.aload_n 0, 1) := qr_o42 hN_cX5_init hn_cX5_init rfl rfl
theorem dX5_init_1 : decode cX5_init 1 = .ok (.invokespecial 3, 3) := qr_o183 0 3 hN_cX5_init hn_cX5_init rfl rfl rfl rfl
theorem dX5_init_4 : decode cX5_init 4 = .ok (.aload_n 0, 1) := qr_o42 hN_cX5_init hn_cX5_init rfl rfl
theorem dX5_init_5 : decode cX5_init 5 = .ok (.bipush 36, 2) := qr_o16 36 rfl hN_cX5_init hn_cX5_init rfl rfl rfl
theorem dX5_init_7 : decode cX5_init 7 = .ok (.newarray .int, 2) := qr_na10 hN_cX5_init hn_cX5_init rfl rfl rfl
theorem dX5_init_9 : decode cX5_init 9 = .ok (.putfield 11, 3) := qr_o181 0 11 hN_cX5_init hn_cX5_init rfl rfl rfl rfl
theorem dX5_init_12 : decode cX5_init 12 = .ok (.return_, 1) := qr_o177 hN_cX5_init hn_cX5_init rfl rfl
def nN_cX5_begin : Nat := 0xb11700b51c2a1300b51b2a0f00b5042af0ffa70103844f031d0b00b42a1000a224101d3e03
theorem hN_cX5_begin : qr_n cX5_begin.data.toList = nN_cX5_begin := by decide +kernel
theorem hn_cX5_begin : cX5_begin.size = 37 := by decide +kernel
theorem dX5_begin_0 : decode cX5_begin 0 = .ok (.iconst 0, 1) := qr_o3 hN_cX5_begin hn_cX5_begin rfl rfl
theorem dX5_begin_1 : decode cX5_begin 1 = .ok (.istore_n 3, 1) := qr_o62 hN_cX5_begin hn_cX5_begin rfl rfl
theorem dX5_begin_2 : decode cX5_begin 2 = .ok (.iload_n 3, 1) := qr_o29 hN_cX5_begin hn_cX5_begin rfl rfl
theorem dX5_begin_3 : decode cX5_begin 3 = .ok (.bipush 36, 2) := qr_o16 36 rfl hN_cX5_begin hn_cX5_begin rfl rfl rfl
theorem dX5_begin_5 : decode cX5_begin 5 = .ok (.if_icmp .ge 16, 3) := qr_o162 0 16 rfl hN_cX5_begin hn_cX5_begin rfl rfl rfl rfl
theorem dX5_begin_8 : decode cX5_begin 8 = .ok (.aload_n 0, 1) := qr_o42 hN_cX5_begin hn_cX5_begin rfl rfl
theorem dX5_begin_9 : decode cX5_begin 9 = .ok (.getfield 11, 3) := qr_o180 0 11 hN_cX5_begin hn_cX5_begin rfl rfl rfl rfl
theorem dX5_begin_12 : decode cX5_begin 12 = .ok (.iload_n 3, 1) := qr_o29 hN_cX5_begin hn_cX5_begin rfl rfl
theorem dX5_begin_13 : decode cX5_begin 13 = .ok (.iconst 0, 1) := qr_o3 hN_cX5_begin hn_cX5_begin rfl rfl
theorem dX5_begin_14 : decode cX5_begin 14 = .ok (.iastore, 1) := qr_o79 hN_cX5_begin hn_cX5_begin rfl rfl
theorem dX5_begin_15 : decode cX5_begin 15 = .ok (.iinc 3 1, 3) := qr_o132 3 1 rfl hN_cX5_begin hn_cX5_begin rfl rfl rfl rfl
theorem dX5_begin_18 : decode cX5_begin 18 = .ok (.goto (-16), 3) := qr_w167 255 240 16 rfl rfl hN_cX5_begin hn_cX5_begin rfl rfl rfl rfl
theorem dX5_begin_21 : decode cX5_begin 21 = .ok (.aload_n 0, 1) := qr_o42 hN_cX5_begin hn_cX5_begin rfl rfl
theorem dX5_begin_22 : decode cX5_begin 22 = .ok (.iconst 1, 1) := qr_o4 hN_cX5_begin hn_cX5_begin rfl rfl
theorem dX5_begin_23 : decode cX5_begin 23 = .ok (.putfield 15, 3) := qr_o181 0 15 hN_cX5_begin hn_cX5_begin rfl rfl rfl rfl
theorem dX5_begin_26 : decode cX5_begin 26 = .ok (.aload_n 0, 1) := qr_o42 hN_cX5_begin hn_cX5_begin rfl rfl
theorem dX5_begin_27 : decode cX5_begin 27 = .ok (.iload_n 1, 1) := qr_o27 hN_cX5_begin hn_cX5_begin rfl rfl
theorem dX5_begin_28 : decode cX5_begin 28 = .ok (.putfield 19, 3) := qr_o181 0 19 hN_cX5_begin hn_cX5_begin rfl rfl rfl rfl
theorem dX5_begin_31 : decode cX5_begin 31 = .ok (.aload_n 0, 1) := qr_o42 hN_cX5_begin hn_cX5_begin rfl rfl
theorem dX5_begin_32 : decode cX5_begin 32 = .ok (.iload_n 2, 1) := qr_o28 hN_cX5_begin hn_cX5_begin rfl rfl
theorem dX5_begin_33 : decode cX5_begin 33 = .ok (.putfield 23, 3) := qr_o181 0 23 hN_cX5_begin hn_cX5_begin rfl rfl rfl rfl
theorem dX5_begin_36 : decode cX5_begin 36 = .ok (.return_, 1) := qr_o177 hN_cX5_begin hn_cX5_begin rfl rfl
def nN_cX5_refusalAs : Nat := 0xacf4100500a7030700a01b1300b42aacf51006009a0f00b42a
theorem hN_cX5_refusalAs : qr_n cX5_refusalAs.data.toList = nN_cX5_refusalAs := by decide +kernel
theorem hn_cX5_refusalAs : cX5_refusalAs.size = 25 := by decide +kernel
theorem dX5_refusalAs_0 : decode cX5_refusalAs 0 = .ok (.aload_n 0, 1) := qr_o42 hN_cX5_refusalAs hn_cX5_refusalAs rfl rfl
theorem dX5_refusalAs_1 : decode cX5_refusalAs 1 = .ok (.getfield 15, 3) := qr_o180 0 15 hN_cX5_refusalAs hn_cX5_refusalAs rfl rfl rfl rfl
theorem dX5_refusalAs_4 : decode cX5_refusalAs 4 = .ok (.ifCond .ne 6, 3) := qr_o154 0 6 rfl hN_cX5_refusalAs hn_cX5_refusalAs rfl rfl rfl rfl
theorem dX5_refusalAs_7 : decode cX5_refusalAs 7 = .ok (.bipush (-11), 2) := qr_w16 245 11 rfl rfl hN_cX5_refusalAs hn_cX5_refusalAs rfl rfl rfl
theorem dX5_refusalAs_9 : decode cX5_refusalAs 9 = .ok (.ireturn, 1) := qr_o172 hN_cX5_refusalAs hn_cX5_refusalAs rfl rfl
theorem dX5_refusalAs_10 : decode cX5_refusalAs 10 = .ok (.aload_n 0, 1) := qr_o42 hN_cX5_refusalAs hn_cX5_refusalAs rfl rfl
theorem dX5_refusalAs_11 : decode cX5_refusalAs 11 = .ok (.getfield 19, 3) := qr_o180 0 19 hN_cX5_refusalAs hn_cX5_refusalAs rfl rfl rfl rfl
theorem dX5_refusalAs_14 : decode cX5_refusalAs 14 = .ok (.iload_n 1, 1) := qr_o27 hN_cX5_refusalAs hn_cX5_refusalAs rfl rfl
theorem dX5_refusalAs_15 : decode cX5_refusalAs 15 = .ok (.if_icmp .ne 7, 3) := qr_o160 0 7 rfl hN_cX5_refusalAs hn_cX5_refusalAs rfl rfl rfl rfl
theorem dX5_refusalAs_18 : decode cX5_refusalAs 18 = .ok (.iconst 0, 1) := qr_o3 hN_cX5_refusalAs hn_cX5_refusalAs rfl rfl
theorem dX5_refusalAs_19 : decode cX5_refusalAs 19 = .ok (.goto 5, 3) := qr_o167 0 5 rfl hN_cX5_refusalAs hn_cX5_refusalAs rfl rfl rfl rfl
theorem dX5_refusalAs_22 : decode cX5_refusalAs 22 = .ok (.bipush (-12), 2) := qr_w16 244 12 rfl rfl hN_cX5_refusalAs hn_cX5_refusalAs rfl rfl rfl
theorem dX5_refusalAs_24 : decode cX5_refusalAs 24 = .ok (.ireturn, 1) := qr_o172 hN_cX5_refusalAs hn_cX5_refusalAs rfl rfl
def nN_cX5_hasItems : Nat := 0xac030400a7040700a3641c1700b42a1b11009b1b
theorem hN_cX5_hasItems : qr_n cX5_hasItems.data.toList = nN_cX5_hasItems := by decide +kernel
theorem hn_cX5_hasItems : cX5_hasItems.size = 20 := by decide +kernel
theorem dX5_hasItems_0 : decode cX5_hasItems 0 = .ok (.iload_n 1, 1) := qr_o27 hN_cX5_hasItems hn_cX5_hasItems rfl rfl
theorem dX5_hasItems_1 : decode cX5_hasItems 1 = .ok (.ifCond .lt 17, 3) := qr_o155 0 17 rfl hN_cX5_hasItems hn_cX5_hasItems rfl rfl rfl rfl
theorem dX5_hasItems_4 : decode cX5_hasItems 4 = .ok (.iload_n 1, 1) := qr_o27 hN_cX5_hasItems hn_cX5_hasItems rfl rfl
theorem dX5_hasItems_5 : decode cX5_hasItems 5 = .ok (.aload_n 0, 1) := qr_o42 hN_cX5_hasItems hn_cX5_hasItems rfl rfl
theorem dX5_hasItems_6 : decode cX5_hasItems 6 = .ok (.getfield 23, 3) := qr_o180 0 23 hN_cX5_hasItems hn_cX5_hasItems rfl rfl rfl rfl
theorem dX5_hasItems_9 : decode cX5_hasItems 9 = .ok (.iload_n 2, 1) := qr_o28 hN_cX5_hasItems hn_cX5_hasItems rfl rfl
theorem dX5_hasItems_10 : decode cX5_hasItems 10 = .ok (.isub, 1) := qr_o100 hN_cX5_hasItems hn_cX5_hasItems rfl rfl
theorem dX5_hasItems_11 : decode cX5_hasItems 11 = .ok (.if_icmp .gt 7, 3) := qr_o163 0 7 rfl hN_cX5_hasItems hn_cX5_hasItems rfl rfl rfl rfl
theorem dX5_hasItems_14 : decode cX5_hasItems 14 = .ok (.iconst 1, 1) := qr_o4 hN_cX5_hasItems hn_cX5_hasItems rfl rfl
theorem dX5_hasItems_15 : decode cX5_hasItems 15 = .ok (.goto 4, 3) := qr_o167 0 4 rfl hN_cX5_hasItems hn_cX5_hasItems rfl rfl rfl rfl
theorem dX5_hasItems_18 : decode cX5_hasItems 18 = .ok (.iconst 0, 1) := qr_o3 hN_cX5_hasItems hn_cX5_hasItems rfl rfl
theorem dX5_hasItems_19 : decode cX5_hasItems 19 = .ok (.ireturn, 1) := qr_o172 hN_cX5_hasItems hn_cX5_hasItems rfl rfl
def nN_cX5_get : Nat := 0xac030400a72e1b0b00b42a0c00a224101b12009b1b
theorem hN_cX5_get : qr_n cX5_get.data.toList = nN_cX5_get := by decide +kernel
theorem hn_cX5_get : cX5_get.size = 21 := by decide +kernel
theorem dX5_get_0 : decode cX5_get 0 = .ok (.iload_n 1, 1) := qr_o27 hN_cX5_get hn_cX5_get rfl rfl
theorem dX5_get_1 : decode cX5_get 1 = .ok (.ifCond .lt 18, 3) := qr_o155 0 18 rfl hN_cX5_get hn_cX5_get rfl rfl rfl rfl
theorem dX5_get_4 : decode cX5_get 4 = .ok (.iload_n 1, 1) := qr_o27 hN_cX5_get hn_cX5_get rfl rfl
theorem dX5_get_5 : decode cX5_get 5 = .ok (.bipush 36, 2) := qr_o16 36 rfl hN_cX5_get hn_cX5_get rfl rfl rfl
theorem dX5_get_7 : decode cX5_get 7 = .ok (.if_icmp .ge 12, 3) := qr_o162 0 12 rfl hN_cX5_get hn_cX5_get rfl rfl rfl rfl
theorem dX5_get_10 : decode cX5_get 10 = .ok (.aload_n 0, 1) := qr_o42 hN_cX5_get hn_cX5_get rfl rfl
theorem dX5_get_11 : decode cX5_get 11 = .ok (.getfield 11, 3) := qr_o180 0 11 hN_cX5_get hn_cX5_get rfl rfl rfl rfl
theorem dX5_get_14 : decode cX5_get 14 = .ok (.iload_n 1, 1) := qr_o27 hN_cX5_get hn_cX5_get rfl rfl
theorem dX5_get_15 : decode cX5_get 15 = .ok (.iaload, 1) := qr_o46 hN_cX5_get hn_cX5_get rfl rfl
theorem dX5_get_16 : decode cX5_get 16 = .ok (.goto 4, 3) := qr_o167 0 4 rfl hN_cX5_get hn_cX5_get rfl rfl rfl rfl
theorem dX5_get_19 : decode cX5_get 19 = .ok (.iconst 0, 1) := qr_o3 hN_cX5_get hn_cX5_get rfl rfl
theorem dX5_get_20 : decode cX5_get 20 = .ok (.ireturn, 1) := qr_o172 hN_cX5_get hn_cX5_get rfl rfl
def nN_cX5_put : Nat := 0xb14f1c0400a7931c0800a0041300b42a1100a7911c08009a1300b42a1b0b00b42a2300a224101b29009b1b
theorem hN_cX5_put : qr_n cX5_put.data.toList = nN_cX5_put := by decide +kernel
theorem hn_cX5_put : cX5_put.size = 43 := by decide +kernel
theorem dX5_put_0 : decode cX5_put 0 = .ok (.iload_n 1, 1) := qr_o27 hN_cX5_put hn_cX5_put rfl rfl
theorem dX5_put_1 : decode cX5_put 1 = .ok (.ifCond .lt 41, 3) := qr_o155 0 41 rfl hN_cX5_put hn_cX5_put rfl rfl rfl rfl
theorem dX5_put_4 : decode cX5_put 4 = .ok (.iload_n 1, 1) := qr_o27 hN_cX5_put hn_cX5_put rfl rfl
theorem dX5_put_5 : decode cX5_put 5 = .ok (.bipush 36, 2) := qr_o16 36 rfl hN_cX5_put hn_cX5_put rfl rfl rfl
theorem dX5_put_7 : decode cX5_put 7 = .ok (.if_icmp .ge 35, 3) := qr_o162 0 35 rfl hN_cX5_put hn_cX5_put rfl rfl rfl rfl
theorem dX5_put_10 : decode cX5_put 10 = .ok (.aload_n 0, 1) := qr_o42 hN_cX5_put hn_cX5_put rfl rfl
theorem dX5_put_11 : decode cX5_put 11 = .ok (.getfield 11, 3) := qr_o180 0 11 hN_cX5_put hn_cX5_put rfl rfl rfl rfl
theorem dX5_put_14 : decode cX5_put 14 = .ok (.iload_n 1, 1) := qr_o27 hN_cX5_put hn_cX5_put rfl rfl
theorem dX5_put_15 : decode cX5_put 15 = .ok (.aload_n 0, 1) := qr_o42 hN_cX5_put hn_cX5_put rfl rfl
theorem dX5_put_16 : decode cX5_put 16 = .ok (.getfield 19, 3) := qr_o180 0 19 hN_cX5_put hn_cX5_put rfl rfl rfl rfl
theorem dX5_put_19 : decode cX5_put 19 = .ok (.ifCond .ne 8, 3) := qr_o154 0 8 rfl hN_cX5_put hn_cX5_put rfl rfl rfl rfl
theorem dX5_put_22 : decode cX5_put 22 = .ok (.iload_n 2, 1) := qr_o28 hN_cX5_put hn_cX5_put rfl rfl
theorem dX5_put_23 : decode cX5_put 23 = .ok (.i2b, 1) := qr_o145 hN_cX5_put hn_cX5_put rfl rfl
theorem dX5_put_24 : decode cX5_put 24 = .ok (.goto 17, 3) := qr_o167 0 17 rfl hN_cX5_put hn_cX5_put rfl rfl rfl rfl
theorem dX5_put_27 : decode cX5_put 27 = .ok (.aload_n 0, 1) := qr_o42 hN_cX5_put hn_cX5_put rfl rfl
theorem dX5_put_28 : decode cX5_put 28 = .ok (.getfield 19, 3) := qr_o180 0 19 hN_cX5_put hn_cX5_put rfl rfl rfl rfl
theorem dX5_put_31 : decode cX5_put 31 = .ok (.iconst 1, 1) := qr_o4 hN_cX5_put hn_cX5_put rfl rfl
theorem dX5_put_32 : decode cX5_put 32 = .ok (.if_icmp .ne 8, 3) := qr_o160 0 8 rfl hN_cX5_put hn_cX5_put rfl rfl rfl rfl
theorem dX5_put_35 : decode cX5_put 35 = .ok (.iload_n 2, 1) := qr_o28 hN_cX5_put hn_cX5_put rfl rfl
theorem dX5_put_36 : decode cX5_put 36 = .ok (.i2s, 1) := qr_o147 hN_cX5_put hn_cX5_put rfl rfl
theorem dX5_put_37 : decode cX5_put 37 = .ok (.goto 4, 3) := qr_o167 0 4 rfl hN_cX5_put hn_cX5_put rfl rfl rfl rfl
theorem dX5_put_40 : decode cX5_put 40 = .ok (.iload_n 2, 1) := qr_o28 hN_cX5_put hn_cX5_put rfl rfl
theorem dX5_put_41 : decode cX5_put 41 = .ok (.iastore, 1) := qr_o79 hN_cX5_put hn_cX5_put rfl rfl
theorem dX5_put_42 : decode cX5_put 42 = .ok (.return_, 1) := qr_o177 hN_cX5_put hn_cX5_put rfl rfl
def nN_cX6_init : Nat := 0xb10900b508bc3c102a0100b72a
theorem hN_cX6_init : qr_n cX6_init.data.toList = nN_cX6_init := by decide +kernel
theorem hn_cX6_init : cX6_init.size = 13 := by decide +kernel
theorem dX6_init_0 : decode cX6_init 0 = .ok (.aload_n 0, 1) := qr_o42 hN_cX6_init hn_cX6_init rfl rfl
theorem dX6_init_1 : decode cX6_init 1 = .ok (.invokespecial 1, 3) := qr_o183 0 1 hN_cX6_init hn_cX6_init rfl rfl rfl rfl
theorem dX6_init_4 : decode cX6_init 4 = .ok (.aload_n 0, 1) := qr_o42 hN_cX6_init hn_cX6_init rfl rfl
theorem dX6_init_5 : decode cX6_init 5 = .ok (.bipush 60, 2) := qr_o16 60 rfl hN_cX6_init hn_cX6_init rfl rfl rfl
theorem dX6_init_7 : decode cX6_init 7 = .ok (.newarray .byte, 2) := qr_na8 hN_cX6_init hn_cX6_init rfl rfl rfl
theorem dX6_init_9 : decode cX6_init 9 = .ok (.putfield 9, 3) := qr_o181 0 9 hN_cX6_init hn_cX6_init rfl rfl rfl rfl
theorem dX6_init_12 : decode cX6_init 12 = .ok (.return_, 1) := qr_o177 hN_cX6_init hn_cX6_init rfl rfl
def nN_cX6_hasRoomFor : Nat := 0xac030400a7040700a3640d00b42a3c101b
theorem hN_cX6_hasRoomFor : qr_n cX6_hasRoomFor.data.toList = nN_cX6_hasRoomFor := by decide +kernel
theorem hn_cX6_hasRoomFor : cX6_hasRoomFor.size = 17 := by decide +kernel
theorem dX6_hasRoomFor_0 : decode cX6_hasRoomFor 0 = .ok (.iload_n 1, 1) := qr_o27 hN_cX6_hasRoomFor hn_cX6_hasRoomFor rfl rfl
theorem dX6_hasRoomFor_1 : decode cX6_hasRoomFor 1 = .ok (.bipush 60, 2) := qr_o16 60 rfl hN_cX6_hasRoomFor hn_cX6_hasRoomFor rfl rfl rfl
theorem dX6_hasRoomFor_3 : decode cX6_hasRoomFor 3 = .ok (.aload_n 0, 1) := qr_o42 hN_cX6_hasRoomFor hn_cX6_hasRoomFor rfl rfl
theorem dX6_hasRoomFor_4 : decode cX6_hasRoomFor 4 = .ok (.getfield 13, 3) := qr_o180 0 13 hN_cX6_hasRoomFor hn_cX6_hasRoomFor rfl rfl rfl rfl
theorem dX6_hasRoomFor_7 : decode cX6_hasRoomFor 7 = .ok (.isub, 1) := qr_o100 hN_cX6_hasRoomFor hn_cX6_hasRoomFor rfl rfl
theorem dX6_hasRoomFor_8 : decode cX6_hasRoomFor 8 = .ok (.if_icmp .gt 7, 3) := qr_o163 0 7 rfl hN_cX6_hasRoomFor hn_cX6_hasRoomFor rfl rfl rfl rfl
theorem dX6_hasRoomFor_11 : decode cX6_hasRoomFor 11 = .ok (.iconst 1, 1) := qr_o4 hN_cX6_hasRoomFor hn_cX6_hasRoomFor rfl rfl
theorem dX6_hasRoomFor_12 : decode cX6_hasRoomFor 12 = .ok (.goto 4, 3) := qr_o167 0 4 rfl hN_cX6_hasRoomFor hn_cX6_hasRoomFor rfl rfl rfl rfl
theorem dX6_hasRoomFor_15 : decode cX6_hasRoomFor 15 = .ok (.iconst 0, 1) := qr_o3 hN_cX6_hasRoomFor hn_cX6_hasRoomFor rfl rfl
theorem dX6_hasRoomFor_16 : decode cX6_hasRoomFor 16 = .ok (.ireturn, 1) := qr_o172 hN_cX6_hasRoomFor hn_cX6_hasRoomFor rfl rfl
def nN_cX6_append : Nat := 0xb10d00b560040d00b4592a54911b0d00b42a0900b42a1800a23c100d00b42a
theorem hN_cX6_append : qr_n cX6_append.data.toList = nN_cX6_append := by decide +kernel
theorem hn_cX6_append : cX6_append.size = 31 := by decide +kernel
theorem dX6_append_0 : decode cX6_append 0 = .ok (.aload_n 0, 1) := qr_o42 hN_cX6_append hn_cX6_append rfl rfl
theorem dX6_append_1 : decode cX6_append 1 = .ok (.getfield 13, 3) := qr_o180 0 13 hN_cX6_append hn_cX6_append rfl rfl rfl rfl
theorem dX6_append_4 : decode cX6_append 4 = .ok (.bipush 60, 2) := qr_o16 60 rfl hN_cX6_append hn_cX6_append rfl rfl rfl
theorem dX6_append_6 : decode cX6_append 6 = .ok (.if_icmp .ge 24, 3) := qr_o162 0 24 rfl hN_cX6_append hn_cX6_append rfl rfl rfl rfl
theorem dX6_append_9 : decode cX6_append 9 = .ok (.aload_n 0, 1) := qr_o42 hN_cX6_append hn_cX6_append rfl rfl
theorem dX6_append_10 : decode cX6_append 10 = .ok (.getfield 9, 3) := qr_o180 0 9 hN_cX6_append hn_cX6_append rfl rfl rfl rfl
theorem dX6_append_13 : decode cX6_append 13 = .ok (.aload_n 0, 1) := qr_o42 hN_cX6_append hn_cX6_append rfl rfl
theorem dX6_append_14 : decode cX6_append 14 = .ok (.getfield 13, 3) := qr_o180 0 13 hN_cX6_append hn_cX6_append rfl rfl rfl rfl
theorem dX6_append_17 : decode cX6_append 17 = .ok (.iload_n 1, 1) := qr_o27 hN_cX6_append hn_cX6_append rfl rfl
theorem dX6_append_18 : decode cX6_append 18 = .ok (.i2b, 1) := qr_o145 hN_cX6_append hn_cX6_append rfl rfl
theorem dX6_append_19 : decode cX6_append 19 = .ok (.bastore, 1) := qr_o84 hN_cX6_append hn_cX6_append rfl rfl
theorem dX6_append_20 : decode cX6_append 20 = .ok (.aload_n 0, 1) := qr_o42 hN_cX6_append hn_cX6_append rfl rfl
theorem dX6_append_21 : decode cX6_append 21 = .ok (.dup, 1) := qr_o89 hN_cX6_append hn_cX6_append rfl rfl
theorem dX6_append_22 : decode cX6_append 22 = .ok (.getfield 13, 3) := qr_o180 0 13 hN_cX6_append hn_cX6_append rfl rfl rfl rfl
theorem dX6_append_25 : decode cX6_append 25 = .ok (.iconst 1, 1) := qr_o4 hN_cX6_append hn_cX6_append rfl rfl
theorem dX6_append_26 : decode cX6_append 26 = .ok (.iadd, 1) := qr_o96 hN_cX6_append hn_cX6_append rfl rfl
theorem dX6_append_27 : decode cX6_append 27 = .ok (.putfield 13, 3) := qr_o181 0 13 hN_cX6_append hn_cX6_append rfl rfl rfl rfl
theorem dX6_append_30 : decode cX6_append 30 = .ok (.return_, 1) := qr_o177 hN_cX6_append hn_cX6_append rfl rfl
def nN_cX6_clear : Nat := 0xb10d00b5032a
theorem hN_cX6_clear : qr_n cX6_clear.data.toList = nN_cX6_clear := by decide +kernel
theorem hn_cX6_clear : cX6_clear.size = 6 := by decide +kernel
theorem dX6_clear_0 : decode cX6_clear 0 = .ok (.aload_n 0, 1) := qr_o42 hN_cX6_clear hn_cX6_clear rfl rfl
theorem dX6_clear_1 : decode cX6_clear 1 = .ok (.iconst 0, 1) := qr_o3 hN_cX6_clear hn_cX6_clear rfl rfl
theorem dX6_clear_2 : decode cX6_clear 2 = .ok (.putfield 13, 3) := qr_o181 0 13 hN_cX6_clear hn_cX6_clear rfl rfl rfl rfl
theorem dX6_clear_5 : decode cX6_clear 5 = .ok (.return_, 1) := qr_o177 hN_cX6_clear hn_cX6_clear rfl rfl
def nN_cX6_signAt : Nat := 0xac020400a7331b0900b42a0c00a20d00b42a1b14009b1b
theorem hN_cX6_signAt : qr_n cX6_signAt.data.toList = nN_cX6_signAt := by decide +kernel
theorem hn_cX6_signAt : cX6_signAt.size = 23 := by decide +kernel
theorem dX6_signAt_0 : decode cX6_signAt 0 = .ok (.iload_n 1, 1) := qr_o27 hN_cX6_signAt hn_cX6_signAt rfl rfl
theorem dX6_signAt_1 : decode cX6_signAt 1 = .ok (.ifCond .lt 20, 3) := qr_o155 0 20 rfl hN_cX6_signAt hn_cX6_signAt rfl rfl rfl rfl
theorem dX6_signAt_4 : decode cX6_signAt 4 = .ok (.iload_n 1, 1) := qr_o27 hN_cX6_signAt hn_cX6_signAt rfl rfl
theorem dX6_signAt_5 : decode cX6_signAt 5 = .ok (.aload_n 0, 1) := qr_o42 hN_cX6_signAt hn_cX6_signAt rfl rfl
theorem dX6_signAt_6 : decode cX6_signAt 6 = .ok (.getfield 13, 3) := qr_o180 0 13 hN_cX6_signAt hn_cX6_signAt rfl rfl rfl rfl
theorem dX6_signAt_9 : decode cX6_signAt 9 = .ok (.if_icmp .ge 12, 3) := qr_o162 0 12 rfl hN_cX6_signAt hn_cX6_signAt rfl rfl rfl rfl
theorem dX6_signAt_12 : decode cX6_signAt 12 = .ok (.aload_n 0, 1) := qr_o42 hN_cX6_signAt hn_cX6_signAt rfl rfl
theorem dX6_signAt_13 : decode cX6_signAt 13 = .ok (.getfield 9, 3) := qr_o180 0 9 hN_cX6_signAt hn_cX6_signAt rfl rfl rfl rfl
theorem dX6_signAt_16 : decode cX6_signAt 16 = .ok (.iload_n 1, 1) := qr_o27 hN_cX6_signAt hn_cX6_signAt rfl rfl
theorem dX6_signAt_17 : decode cX6_signAt 17 = .ok (.baload, 1) := qr_o51 hN_cX6_signAt hn_cX6_signAt rfl rfl
theorem dX6_signAt_18 : decode cX6_signAt 18 = .ok (.goto 4, 3) := qr_o167 0 4 rfl hN_cX6_signAt hn_cX6_signAt rfl rfl rfl rfl
theorem dX6_signAt_21 : decode cX6_signAt 21 = .ok (.iconst (-1), 1) := qr_o2 hN_cX6_signAt hn_cX6_signAt rfl rfl
theorem dX6_signAt_22 : decode cX6_signAt 22 = .ok (.ireturn, 1) := qr_o172 hN_cX6_signAt hn_cX6_signAt rfl rfl
def nN_cX6_isDigitAt : Nat := 0xac030400a7040700a339101c0d00a130101c3d1100b61b2a
theorem hN_cX6_isDigitAt : qr_n cX6_isDigitAt.data.toList = nN_cX6_isDigitAt := by decide +kernel
theorem hn_cX6_isDigitAt : cX6_isDigitAt.size = 24 := by decide +kernel
theorem dX6_isDigitAt_0 : decode cX6_isDigitAt 0 = .ok (.aload_n 0, 1) := qr_o42 hN_cX6_isDigitAt hn_cX6_isDigitAt rfl rfl
theorem dX6_isDigitAt_1 : decode cX6_isDigitAt 1 = .ok (.iload_n 1, 1) := qr_o27 hN_cX6_isDigitAt hn_cX6_isDigitAt rfl rfl
theorem dX6_isDigitAt_2 : decode cX6_isDigitAt 2 = .ok (.invokevirtual 17, 3) := qr_o182 0 17 hN_cX6_isDigitAt hn_cX6_isDigitAt rfl rfl rfl rfl
theorem dX6_isDigitAt_5 : decode cX6_isDigitAt 5 = .ok (.istore_n 2, 1) := qr_o61 hN_cX6_isDigitAt hn_cX6_isDigitAt rfl rfl
theorem dX6_isDigitAt_6 : decode cX6_isDigitAt 6 = .ok (.iload_n 2, 1) := qr_o28 hN_cX6_isDigitAt hn_cX6_isDigitAt rfl rfl
theorem dX6_isDigitAt_7 : decode cX6_isDigitAt 7 = .ok (.bipush 48, 2) := qr_o16 48 rfl hN_cX6_isDigitAt hn_cX6_isDigitAt rfl rfl rfl
theorem dX6_isDigitAt_9 : decode cX6_isDigitAt 9 = .ok (.if_icmp .lt 13, 3) := qr_o161 0 13 rfl hN_cX6_isDigitAt hn_cX6_isDigitAt rfl rfl rfl rfl
theorem dX6_isDigitAt_12 : decode cX6_isDigitAt 12 = .ok (.iload_n 2, 1) := qr_o28 hN_cX6_isDigitAt hn_cX6_isDigitAt rfl rfl
theorem dX6_isDigitAt_13 : decode cX6_isDigitAt 13 = .ok (.bipush 57, 2) := qr_o16 57 rfl hN_cX6_isDigitAt hn_cX6_isDigitAt rfl rfl rfl
theorem dX6_isDigitAt_15 : decode cX6_isDigitAt 15 = .ok (.if_icmp .gt 7, 3) := qr_o163 0 7 rfl hN_cX6_isDigitAt hn_cX6_isDigitAt rfl rfl rfl rfl
theorem dX6_isDigitAt_18 : decode cX6_isDigitAt 18 = .ok (.iconst 1, 1) := qr_o4 hN_cX6_isDigitAt hn_cX6_isDigitAt rfl rfl
theorem dX6_isDigitAt_19 : decode cX6_isDigitAt 19 = .ok (.goto 4, 3) := qr_o167 0 4 rfl hN_cX6_isDigitAt hn_cX6_isDigitAt rfl rfl rfl rfl
theorem dX6_isDigitAt_22 : decode cX6_isDigitAt 22 = .ok (.iconst 0, 1) := qr_o3 hN_cX6_isDigitAt hn_cX6_isDigitAt rfl rfl
theorem dX6_isDigitAt_23 : decode cX6_isDigitAt 23 = .ok (.ireturn, 1) := qr_o172 hN_cX6_isDigitAt hn_cX6_isDigitAt rfl rfl
def nN_cX6_behindBlanks : Nat := 0xac1cebffa70102840900a020101100b61c2a1300a20d00b42a1c3d1b
theorem hN_cX6_behindBlanks : qr_n cX6_behindBlanks.data.toList = nN_cX6_behindBlanks := by decide +kernel
theorem hn_cX6_behindBlanks : cX6_behindBlanks.size = 28 := by decide +kernel
theorem dX6_behindBlanks_0 : decode cX6_behindBlanks 0 = .ok (.iload_n 1, 1) := qr_o27 hN_cX6_behindBlanks hn_cX6_behindBlanks rfl rfl
theorem dX6_behindBlanks_1 : decode cX6_behindBlanks 1 = .ok (.istore_n 2, 1) := qr_o61 hN_cX6_behindBlanks hn_cX6_behindBlanks rfl rfl
theorem dX6_behindBlanks_2 : decode cX6_behindBlanks 2 = .ok (.iload_n 2, 1) := qr_o28 hN_cX6_behindBlanks hn_cX6_behindBlanks rfl rfl
theorem dX6_behindBlanks_3 : decode cX6_behindBlanks 3 = .ok (.aload_n 0, 1) := qr_o42 hN_cX6_behindBlanks hn_cX6_behindBlanks rfl rfl
theorem dX6_behindBlanks_4 : decode cX6_behindBlanks 4 = .ok (.getfield 13, 3) := qr_o180 0 13 hN_cX6_behindBlanks hn_cX6_behindBlanks rfl rfl rfl rfl
theorem dX6_behindBlanks_7 : decode cX6_behindBlanks 7 = .ok (.if_icmp .ge 19, 3) := qr_o162 0 19 rfl hN_cX6_behindBlanks hn_cX6_behindBlanks rfl rfl rfl rfl
theorem dX6_behindBlanks_10 : decode cX6_behindBlanks 10 = .ok (.aload_n 0, 1) := qr_o42 hN_cX6_behindBlanks hn_cX6_behindBlanks rfl rfl
theorem dX6_behindBlanks_11 : decode cX6_behindBlanks 11 = .ok (.iload_n 2, 1) := qr_o28 hN_cX6_behindBlanks hn_cX6_behindBlanks rfl rfl
theorem dX6_behindBlanks_12 : decode cX6_behindBlanks 12 = .ok (.invokevirtual 17, 3) := qr_o182 0 17 hN_cX6_behindBlanks hn_cX6_behindBlanks rfl rfl rfl rfl
theorem dX6_behindBlanks_15 : decode cX6_behindBlanks 15 = .ok (.bipush 32, 2) := qr_o16 32 rfl hN_cX6_behindBlanks hn_cX6_behindBlanks rfl rfl rfl
theorem dX6_behindBlanks_17 : decode cX6_behindBlanks 17 = .ok (.if_icmp .ne 9, 3) := qr_o160 0 9 rfl hN_cX6_behindBlanks hn_cX6_behindBlanks rfl rfl rfl rfl
theorem dX6_behindBlanks_20 : decode cX6_behindBlanks 20 = .ok (.iinc 2 1, 3) := qr_o132 2 1 rfl hN_cX6_behindBlanks hn_cX6_behindBlanks rfl rfl rfl rfl
theorem dX6_behindBlanks_23 : decode cX6_behindBlanks 23 = .ok (.goto (-21), 3) := qr_w167 255 235 21 rfl rfl hN_cX6_behindBlanks hn_cX6_behindBlanks rfl rfl rfl rfl
theorem dX6_behindBlanks_26 : decode cX6_behindBlanks 26 = .ok (.iload_n 2, 1) := qr_o28 hN_cX6_behindBlanks hn_cX6_behindBlanks rfl rfl
theorem dX6_behindBlanks_27 : decode cX6_behindBlanks 27 = .ok (.ireturn, 1) := qr_o172 hN_cX6_behindBlanks hn_cX6_behindBlanks rfl rfl
def nN_cX6_behindDigits : Nat := 0xac1cedffa70102840900991500b61c2a1100a20d00b42a1c3d1b
theorem hN_cX6_behindDigits : qr_n cX6_behindDigits.data.toList = nN_cX6_behindDigits := by decide +kernel
theorem hn_cX6_behindDigits : cX6_behindDigits.size = 26 := by decide +kernel
theorem dX6_behindDigits_0 : decode cX6_behindDigits 0 = .ok (.iload_n 1, 1) := qr_o27 hN_cX6_behindDigits hn_cX6_behindDigits rfl rfl
theorem dX6_behindDigits_1 : decode cX6_behindDigits 1 = .ok (.istore_n 2, 1) := qr_o61 hN_cX6_behindDigits hn_cX6_behindDigits rfl rfl
theorem dX6_behindDigits_2 : decode cX6_behindDigits 2 = .ok (.iload_n 2, 1) := qr_o28 hN_cX6_behindDigits hn_cX6_behindDigits rfl rfl
theorem dX6_behindDigits_3 : decode cX6_behindDigits 3 = .ok (.aload_n 0, 1) := qr_o42 hN_cX6_behindDigits hn_cX6_behindDigits rfl rfl
theorem dX6_behindDigits_4 : decode cX6_behindDigits 4 = .ok (.getfield 13, 3) := qr_o180 0 13 hN_cX6_behindDigits hn_cX6_behindDigits rfl rfl rfl rfl
theorem dX6_behindDigits_7 : decode cX6_behindDigits 7 = .ok (.if_icmp .ge 17, 3) := qr_o162 0 17 rfl hN_cX6_behindDigits hn_cX6_behindDigits rfl rfl rfl rfl
theorem dX6_behindDigits_10 : decode cX6_behindDigits 10 = .ok (.aload_n 0, 1) := qr_o42 hN_cX6_behindDigits hn_cX6_behindDigits rfl rfl
theorem dX6_behindDigits_11 : decode cX6_behindDigits 11 = .ok (.iload_n 2, 1) := qr_o28 hN_cX6_behindDigits hn_cX6_behindDigits rfl rfl
theorem dX6_behindDigits_12 : decode cX6_behindDigits 12 = .ok (.invokevirtual 21, 3) := qr_o182 0 21 hN_cX6_behindDigits hn_cX6_behindDigits rfl rfl rfl rfl
theorem dX6_behindDigits_15 : decode cX6_behindDigits 15 = .ok (.ifCond .eq 9, 3) := qr_o153 0 9 rfl hN_cX6_behindDigits hn_cX6_behindDigits rfl rfl rfl rfl
theorem dX6_behindDigits_18 : decode cX6_behindDigits 18 = .ok (.iinc 2 1, 3) := qr_o132 2 1 rfl hN_cX6_behindDigits hn_cX6_behindDigits rfl rfl rfl rfl
theorem dX6_behindDigits_21 : decode cX6_behindDigits 21 = .ok (.goto (-19), 3) := qr_w167 255 237 19 rfl rfl hN_cX6_behindDigits hn_cX6_behindDigits rfl rfl rfl rfl
theorem dX6_behindDigits_24 : decode cX6_behindDigits 24 = .ok (.iload_n 2, 1) := qr_o28 hN_cX6_behindDigits hn_cX6_behindDigits rfl rfl
theorem dX6_behindDigits_25 : decode cX6_behindDigits 25 = .ok (.ireturn, 1) := qr_o172 hN_cX6_behindDigits hn_cX6_behindDigits rfl rfl
def nN_cX6_numberIn : Nat := 0xac0415e0ffa701058404361900b8643010601100b605152a680a10041560041d2000a21c051505361b043603
theorem hN_cX6_numberIn : qr_n cX6_numberIn.data.toList = nN_cX6_numberIn := by decide +kernel
theorem hn_cX6_numberIn : cX6_numberIn.size = 44 := by decide +kernel
theorem dX6_numberIn_0 : decode cX6_numberIn 0 = .ok (.iconst 0, 1) := qr_o3 hN_cX6_numberIn hn_cX6_numberIn rfl rfl
theorem dX6_numberIn_1 : decode cX6_numberIn 1 = .ok (.istore 4, 2) := qr_o54 4 hN_cX6_numberIn hn_cX6_numberIn rfl rfl rfl
theorem dX6_numberIn_3 : decode cX6_numberIn 3 = .ok (.iload_n 1, 1) := qr_o27 hN_cX6_numberIn hn_cX6_numberIn rfl rfl
theorem dX6_numberIn_4 : decode cX6_numberIn 4 = .ok (.istore 5, 2) := qr_o54 5 hN_cX6_numberIn hn_cX6_numberIn rfl rfl rfl
theorem dX6_numberIn_6 : decode cX6_numberIn 6 = .ok (.iload 5, 2) := qr_o21 5 hN_cX6_numberIn hn_cX6_numberIn rfl rfl rfl
theorem dX6_numberIn_8 : decode cX6_numberIn 8 = .ok (.iload_n 2, 1) := qr_o28 hN_cX6_numberIn hn_cX6_numberIn rfl rfl
theorem dX6_numberIn_9 : decode cX6_numberIn 9 = .ok (.if_icmp .ge 32, 3) := qr_o162 0 32 rfl hN_cX6_numberIn hn_cX6_numberIn rfl rfl rfl rfl
theorem dX6_numberIn_12 : decode cX6_numberIn 12 = .ok (.iload_n 3, 1) := qr_o29 hN_cX6_numberIn hn_cX6_numberIn rfl rfl
theorem dX6_numberIn_13 : decode cX6_numberIn 13 = .ok (.iconst 1, 1) := qr_o4 hN_cX6_numberIn hn_cX6_numberIn rfl rfl
theorem dX6_numberIn_14 : decode cX6_numberIn 14 = .ok (.iadd, 1) := qr_o96 hN_cX6_numberIn hn_cX6_numberIn rfl rfl
theorem dX6_numberIn_15 : decode cX6_numberIn 15 = .ok (.iload 4, 2) := qr_o21 4 hN_cX6_numberIn hn_cX6_numberIn rfl rfl rfl
theorem dX6_numberIn_17 : decode cX6_numberIn 17 = .ok (.bipush 10, 2) := qr_o16 10 rfl hN_cX6_numberIn hn_cX6_numberIn rfl rfl rfl
theorem dX6_numberIn_19 : decode cX6_numberIn 19 = .ok (.imul, 1) := qr_o104 hN_cX6_numberIn hn_cX6_numberIn rfl rfl
theorem dX6_numberIn_20 : decode cX6_numberIn 20 = .ok (.aload_n 0, 1) := qr_o42 hN_cX6_numberIn hn_cX6_numberIn rfl rfl
theorem dX6_numberIn_21 : decode cX6_numberIn 21 = .ok (.iload 5, 2) := qr_o21 5 hN_cX6_numberIn hn_cX6_numberIn rfl rfl rfl
theorem dX6_numberIn_23 : decode cX6_numberIn 23 = .ok (.invokevirtual 17, 3) := qr_o182 0 17 hN_cX6_numberIn hn_cX6_numberIn rfl rfl rfl rfl
theorem dX6_numberIn_26 : decode cX6_numberIn 26 = .ok (.iadd, 1) := qr_o96 hN_cX6_numberIn hn_cX6_numberIn rfl rfl
theorem dX6_numberIn_27 : decode cX6_numberIn 27 = .ok (.bipush 48, 2) := qr_o16 48 rfl hN_cX6_numberIn hn_cX6_numberIn rfl rfl rfl
theorem dX6_numberIn_29 : decode cX6_numberIn 29 = .ok (.isub, 1) := qr_o100 hN_cX6_numberIn hn_cX6_numberIn rfl rfl
theorem dX6_numberIn_30 : decode cX6_numberIn 30 = .ok (.invokestatic 25, 3) := qr_o184 0 25 hN_cX6_numberIn hn_cX6_numberIn rfl rfl rfl rfl
theorem dX6_numberIn_33 : decode cX6_numberIn 33 = .ok (.istore 4, 2) := qr_o54 4 hN_cX6_numberIn hn_cX6_numberIn rfl rfl rfl
theorem dX6_numberIn_35 : decode cX6_numberIn 35 = .ok (.iinc 5 1, 3) := qr_o132 5 1 rfl hN_cX6_numberIn hn_cX6_numberIn rfl rfl rfl rfl
theorem dX6_numberIn_38 : decode cX6_numberIn 38 = .ok (.goto (-32), 3) := qr_w167 255 224 32 rfl rfl hN_cX6_numberIn hn_cX6_numberIn rfl rfl rfl rfl
theorem dX6_numberIn_41 : decode cX6_numberIn 41 = .ok (.iload 4, 2) := qr_o21 4 hN_cX6_numberIn hn_cX6_numberIn rfl rfl rfl
theorem dX6_numberIn_43 : decode cX6_numberIn 43 = .ok (.ireturn, 1) := qr_o172 hN_cX6_numberIn hn_cX6_numberIn rfl rfl
def nN_cX7_init : Nat := 0xb10d00b50abc08102a0700b54f060710594f8403110610594fc8001108594f0407594f1e1006594f321005594f0504594f0403590abc08102a0100b72a
theorem hN_cX7_init : qr_n cX7_init.data.toList = nN_cX7_init := by decide +kernel
theorem hn_cX7_init : cX7_init.size = 61 := by decide +kernel
theorem dX7_init_0 : decode cX7_init 0 = .ok (.aload_n 0, 1) := qr_o42 hN_cX7_init hn_cX7_init rfl rfl
theorem dX7_init_1 : decode cX7_init 1 = .ok (.invokespecial 1, 3) := qr_o183 0 1 hN_cX7_init hn_cX7_init rfl rfl rfl rfl
theorem dX7_init_4 : decode cX7_init 4 = .ok (.aload_n 0, 1) := qr_o42 hN_cX7_init hn_cX7_init rfl rfl
theorem dX7_init_5 : decode cX7_init 5 = .ok (.bipush 8, 2) := qr_o16 8 rfl hN_cX7_init hn_cX7_init rfl rfl rfl
theorem dX7_init_7 : decode cX7_init 7 = .ok (.newarray .int, 2) := qr_na10 hN_cX7_init hn_cX7_init rfl rfl rfl
theorem dX7_init_9 : decode cX7_init 9 = .ok (.dup, 1) := qr_o89 hN_cX7_init hn_cX7_init rfl rfl
theorem dX7_init_10 : decode cX7_init 10 = .ok (.iconst 0, 1) := qr_o3 hN_cX7_init hn_cX7_init rfl rfl
theorem dX7_init_11 : decode cX7_init 11 = .ok (.iconst 1, 1) := qr_o4 hN_cX7_init hn_cX7_init rfl rfl
theorem dX7_init_12 : decode cX7_init 12 = .ok (.iastore, 1) := qr_o79 hN_cX7_init hn_cX7_init rfl rfl
theorem dX7_init_13 : decode cX7_init 13 = .ok (.dup, 1) := qr_o89 hN_cX7_init hn_cX7_init rfl rfl
theorem dX7_init_14 : decode cX7_init 14 = .ok (.iconst 1, 1) := qr_o4 hN_cX7_init hn_cX7_init rfl rfl
theorem dX7_init_15 : decode cX7_init 15 = .ok (.iconst 2, 1) := qr_o5 hN_cX7_init hn_cX7_init rfl rfl
theorem dX7_init_16 : decode cX7_init 16 = .ok (.iastore, 1) := qr_o79 hN_cX7_init hn_cX7_init rfl rfl
theorem dX7_init_17 : decode cX7_init 17 = .ok (.dup, 1) := qr_o89 hN_cX7_init hn_cX7_init rfl rfl
theorem dX7_init_18 : decode cX7_init 18 = .ok (.iconst 2, 1) := qr_o5 hN_cX7_init hn_cX7_init rfl rfl
theorem dX7_init_19 : decode cX7_init 19 = .ok (.bipush 50, 2) := qr_o16 50 rfl hN_cX7_init hn_cX7_init rfl rfl rfl
theorem dX7_init_21 : decode cX7_init 21 = .ok (.iastore, 1) := qr_o79 hN_cX7_init hn_cX7_init rfl rfl
theorem dX7_init_22 : decode cX7_init 22 = .ok (.dup, 1) := qr_o89 hN_cX7_init hn_cX7_init rfl rfl
theorem dX7_init_23 : decode cX7_init 23 = .ok (.iconst 3, 1) := qr_o6 hN_cX7_init hn_cX7_init rfl rfl
theorem dX7_init_24 : decode cX7_init 24 = .ok (.bipush 30, 2) := qr_o16 30 rfl hN_cX7_init hn_cX7_init rfl rfl rfl
theorem dX7_init_26 : decode cX7_init 26 = .ok (.iastore, 1) := qr_o79 hN_cX7_init hn_cX7_init rfl rfl
theorem dX7_init_27 : decode cX7_init 27 = .ok (.dup, 1) := qr_o89 hN_cX7_init hn_cX7_init rfl rfl
theorem dX7_init_28 : decode cX7_init 28 = .ok (.iconst 4, 1) := qr_o7 hN_cX7_init hn_cX7_init rfl rfl
theorem dX7_init_29 : decode cX7_init 29 = .ok (.iconst 1, 1) := qr_o4 hN_cX7_init hn_cX7_init rfl rfl
theorem dX7_init_30 : decode cX7_init 30 = .ok (.iastore, 1) := qr_o79 hN_cX7_init hn_cX7_init rfl rfl
theorem dX7_init_31 : decode cX7_init 31 = .ok (.dup, 1) := qr_o89 hN_cX7_init hn_cX7_init rfl rfl
theorem dX7_init_32 : decode cX7_init 32 = .ok (.iconst 5, 1) := qr_o8 hN_cX7_init hn_cX7_init rfl rfl
theorem dX7_init_33 : decode cX7_init 33 = .ok (.sipush 200, 3) := qr_o17 0 200 rfl hN_cX7_init hn_cX7_init rfl rfl rfl rfl
theorem dX7_init_36 : decode cX7_init 36 = .ok (.iastore, 1) := qr_o79 hN_cX7_init hn_cX7_init rfl rfl
theorem dX7_init_37 : decode cX7_init 37 = .ok (.dup, 1) := qr_o89 hN_cX7_init hn_cX7_init rfl rfl
theorem dX7_init_38 : decode cX7_init 38 = .ok (.bipush 6, 2) := qr_o16 6 rfl hN_cX7_init hn_cX7_init rfl rfl rfl
theorem dX7_init_40 : decode cX7_init 40 = .ok (.sipush 900, 3) := qr_o17 3 132 rfl hN_cX7_init hn_cX7_init rfl rfl rfl rfl
theorem dX7_init_43 : decode cX7_init 43 = .ok (.iastore, 1) := qr_o79 hN_cX7_init hn_cX7_init rfl rfl
theorem dX7_init_44 : decode cX7_init 44 = .ok (.dup, 1) := qr_o89 hN_cX7_init hn_cX7_init rfl rfl
theorem dX7_init_45 : decode cX7_init 45 = .ok (.bipush 7, 2) := qr_o16 7 rfl hN_cX7_init hn_cX7_init rfl rfl rfl
theorem dX7_init_47 : decode cX7_init 47 = .ok (.iconst 3, 1) := qr_o6 hN_cX7_init hn_cX7_init rfl rfl
theorem dX7_init_48 : decode cX7_init 48 = .ok (.iastore, 1) := qr_o79 hN_cX7_init hn_cX7_init rfl rfl
theorem dX7_init_49 : decode cX7_init 49 = .ok (.putfield 7, 3) := qr_o181 0 7 hN_cX7_init hn_cX7_init rfl rfl rfl rfl
theorem dX7_init_52 : decode cX7_init 52 = .ok (.aload_n 0, 1) := qr_o42 hN_cX7_init hn_cX7_init rfl rfl
theorem dX7_init_53 : decode cX7_init 53 = .ok (.bipush 8, 2) := qr_o16 8 rfl hN_cX7_init hn_cX7_init rfl rfl rfl
theorem dX7_init_55 : decode cX7_init 55 = .ok (.newarray .int, 2) := qr_na10 hN_cX7_init hn_cX7_init rfl rfl rfl
theorem dX7_init_57 : decode cX7_init 57 = .ok (.putfield 13, 3) := qr_o181 0 13 hN_cX7_init hn_cX7_init rfl rfl rfl rfl
theorem dX7_init_60 : decode cX7_init 60 = .ok (.return_, 1) := qr_o177 hN_cX7_init hn_cX7_init rfl rfl
def nN_cX7_placeOf : Nat := 0xac02ecffa7010184ac1b0500a01a341b1000b21400a208101b3c03
theorem hN_cX7_placeOf : qr_n cX7_placeOf.data.toList = nN_cX7_placeOf := by decide +kernel
theorem hn_cX7_placeOf : cX7_placeOf.size = 27 := by decide +kernel
theorem dX7_placeOf_0 : decode cX7_placeOf 0 = .ok (.iconst 0, 1) := qr_o3 hN_cX7_placeOf hn_cX7_placeOf rfl rfl
theorem dX7_placeOf_1 : decode cX7_placeOf 1 = .ok (.istore_n 1, 1) := qr_o60 hN_cX7_placeOf hn_cX7_placeOf rfl rfl
theorem dX7_placeOf_2 : decode cX7_placeOf 2 = .ok (.iload_n 1, 1) := qr_o27 hN_cX7_placeOf hn_cX7_placeOf rfl rfl
theorem dX7_placeOf_3 : decode cX7_placeOf 3 = .ok (.bipush 8, 2) := qr_o16 8 rfl hN_cX7_placeOf hn_cX7_placeOf rfl rfl rfl
theorem dX7_placeOf_5 : decode cX7_placeOf 5 = .ok (.if_icmp .ge 20, 3) := qr_o162 0 20 rfl hN_cX7_placeOf hn_cX7_placeOf rfl rfl rfl rfl
theorem dX7_placeOf_8 : decode cX7_placeOf 8 = .ok (.getstatic 16, 3) := qr_o178 0 16 hN_cX7_placeOf hn_cX7_placeOf rfl rfl rfl rfl
theorem dX7_placeOf_11 : decode cX7_placeOf 11 = .ok (.iload_n 1, 1) := qr_o27 hN_cX7_placeOf hn_cX7_placeOf rfl rfl
theorem dX7_placeOf_12 : decode cX7_placeOf 12 = .ok (.caload, 1) := qr_o52 hN_cX7_placeOf hn_cX7_placeOf rfl rfl
theorem dX7_placeOf_13 : decode cX7_placeOf 13 = .ok (.iload_n 0, 1) := qr_o26 hN_cX7_placeOf hn_cX7_placeOf rfl rfl
theorem dX7_placeOf_14 : decode cX7_placeOf 14 = .ok (.if_icmp .ne 5, 3) := qr_o160 0 5 rfl hN_cX7_placeOf hn_cX7_placeOf rfl rfl rfl rfl
theorem dX7_placeOf_17 : decode cX7_placeOf 17 = .ok (.iload_n 1, 1) := qr_o27 hN_cX7_placeOf hn_cX7_placeOf rfl rfl
theorem dX7_placeOf_18 : decode cX7_placeOf 18 = .ok (.ireturn, 1) := qr_o172 hN_cX7_placeOf hn_cX7_placeOf rfl rfl
theorem dX7_placeOf_19 : decode cX7_placeOf 19 = .ok (.iinc 1 1, 3) := qr_o132 1 1 rfl hN_cX7_placeOf hn_cX7_placeOf rfl rfl rfl rfl
theorem dX7_placeOf_22 : decode cX7_placeOf 22 = .ok (.goto (-20), 3) := qr_w167 255 236 20 rfl rfl hN_cX7_placeOf hn_cX7_placeOf rfl rfl rfl rfl
theorem dX7_placeOf_25 : decode cX7_placeOf 25 = .ok (.iconst (-1), 1) := qr_o2 hN_cX7_placeOf hn_cX7_placeOf rfl rfl
theorem dX7_placeOf_26 : decode cX7_placeOf 26 = .ok (.ireturn, 1) := qr_o172 hN_cX7_placeOf hn_cX7_placeOf rfl rfl
def nN_cX7_at : Nat := 0xac030400a72e1b0700b42a0c00a208101b12009b1b
theorem hN_cX7_at : qr_n cX7_at.data.toList = nN_cX7_at := by decide +kernel
theorem hn_cX7_at : cX7_at.size = 21 := by decide +kernel
theorem dX7_at_0 : decode cX7_at 0 = .ok (.iload_n 1, 1) := qr_o27 hN_cX7_at hn_cX7_at rfl rfl
theorem dX7_at_1 : decode cX7_at 1 = .ok (.ifCond .lt 18, 3) := qr_o155 0 18 rfl hN_cX7_at hn_cX7_at rfl rfl rfl rfl
theorem dX7_at_4 : decode cX7_at 4 = .ok (.iload_n 1, 1) := qr_o27 hN_cX7_at hn_cX7_at rfl rfl
theorem dX7_at_5 : decode cX7_at 5 = .ok (.bipush 8, 2) := qr_o16 8 rfl hN_cX7_at hn_cX7_at rfl rfl rfl
theorem dX7_at_7 : decode cX7_at 7 = .ok (.if_icmp .ge 12, 3) := qr_o162 0 12 rfl hN_cX7_at hn_cX7_at rfl rfl rfl rfl
theorem dX7_at_10 : decode cX7_at 10 = .ok (.aload_n 0, 1) := qr_o42 hN_cX7_at hn_cX7_at rfl rfl
theorem dX7_at_11 : decode cX7_at 11 = .ok (.getfield 7, 3) := qr_o180 0 7 hN_cX7_at hn_cX7_at rfl rfl rfl rfl
theorem dX7_at_14 : decode cX7_at 14 = .ok (.iload_n 1, 1) := qr_o27 hN_cX7_at hn_cX7_at rfl rfl
theorem dX7_at_15 : decode cX7_at 15 = .ok (.iaload, 1) := qr_o46 hN_cX7_at hn_cX7_at rfl rfl
theorem dX7_at_16 : decode cX7_at 16 = .ok (.goto 4, 3) := qr_o167 0 4 rfl hN_cX7_at hn_cX7_at rfl rfl rfl rfl
theorem dX7_at_19 : decode cX7_at 19 = .ok (.iconst 0, 1) := qr_o3 hN_cX7_at hn_cX7_at rfl rfl
theorem dX7_at_20 : decode cX7_at 20 = .ok (.ireturn, 1) := qr_o172 hN_cX7_at hn_cX7_at rfl rfl
def nN_cX7_read : Nat := 0xac641cec10c4ffa7010384ac641cec1008009f3b102200b61c2bac1d1400b80700b42a0d00b42a1000a11c00b42b1cac1c05009c1c3d1800b660041c2b2a3c00a308101d3e043d021400b80d00b42a0700b42a
theorem hN_cX7_read : qr_n cX7_read.data.toList = nN_cX7_read := by decide +kernel
theorem hn_cX7_read : cX7_read.size = 83 := by decide +kernel
theorem dX7_read_0 : decode cX7_read 0 = .ok (.aload_n 0, 1) := qr_o42 hN_cX7_read hn_cX7_read rfl rfl
theorem dX7_read_1 : decode cX7_read 1 = .ok (.getfield 7, 3) := qr_o180 0 7 hN_cX7_read hn_cX7_read rfl rfl rfl rfl
theorem dX7_read_4 : decode cX7_read 4 = .ok (.aload_n 0, 1) := qr_o42 hN_cX7_read hn_cX7_read rfl rfl
theorem dX7_read_5 : decode cX7_read 5 = .ok (.getfield 13, 3) := qr_o180 0 13 hN_cX7_read hn_cX7_read rfl rfl rfl rfl
theorem dX7_read_8 : decode cX7_read 8 = .ok (.invokestatic 20, 3) := qr_o184 0 20 hN_cX7_read hn_cX7_read rfl rfl rfl rfl
theorem dX7_read_11 : decode cX7_read 11 = .ok (.iconst (-1), 1) := qr_o2 hN_cX7_read hn_cX7_read rfl rfl
theorem dX7_read_12 : decode cX7_read 12 = .ok (.istore_n 2, 1) := qr_o61 hN_cX7_read hn_cX7_read rfl rfl
theorem dX7_read_13 : decode cX7_read 13 = .ok (.iconst 1, 1) := qr_o4 hN_cX7_read hn_cX7_read rfl rfl
theorem dX7_read_14 : decode cX7_read 14 = .ok (.istore_n 3, 1) := qr_o62 hN_cX7_read hn_cX7_read rfl rfl
theorem dX7_read_15 : decode cX7_read 15 = .ok (.iload_n 3, 1) := qr_o29 hN_cX7_read hn_cX7_read rfl rfl
theorem dX7_read_16 : decode cX7_read 16 = .ok (.bipush 8, 2) := qr_o16 8 rfl hN_cX7_read hn_cX7_read rfl rfl rfl
theorem dX7_read_18 : decode cX7_read 18 = .ok (.if_icmp .gt 60, 3) := qr_o163 0 60 rfl hN_cX7_read hn_cX7_read rfl rfl rfl rfl
theorem dX7_read_21 : decode cX7_read 21 = .ok (.aload_n 0, 1) := qr_o42 hN_cX7_read hn_cX7_read rfl rfl
theorem dX7_read_22 : decode cX7_read 22 = .ok (.aload_n 1, 1) := qr_o43 hN_cX7_read hn_cX7_read rfl rfl
theorem dX7_read_23 : decode cX7_read 23 = .ok (.iload_n 2, 1) := qr_o28 hN_cX7_read hn_cX7_read rfl rfl
theorem dX7_read_24 : decode cX7_read 24 = .ok (.iconst 1, 1) := qr_o4 hN_cX7_read hn_cX7_read rfl rfl
theorem dX7_read_25 : decode cX7_read 25 = .ok (.iadd, 1) := qr_o96 hN_cX7_read hn_cX7_read rfl rfl
theorem dX7_read_26 : decode cX7_read 26 = .ok (.invokevirtual 24, 3) := qr_o182 0 24 hN_cX7_read hn_cX7_read rfl rfl rfl rfl
theorem dX7_read_29 : decode cX7_read 29 = .ok (.istore_n 2, 1) := qr_o61 hN_cX7_read hn_cX7_read rfl rfl
theorem dX7_read_30 : decode cX7_read 30 = .ok (.iload_n 2, 1) := qr_o28 hN_cX7_read hn_cX7_read rfl rfl
theorem dX7_read_31 : decode cX7_read 31 = .ok (.ifCond .ge 5, 3) := qr_o156 0 5 rfl hN_cX7_read hn_cX7_read rfl rfl rfl rfl
theorem dX7_read_34 : decode cX7_read 34 = .ok (.iload_n 2, 1) := qr_o28 hN_cX7_read hn_cX7_read rfl rfl
theorem dX7_read_35 : decode cX7_read 35 = .ok (.ireturn, 1) := qr_o172 hN_cX7_read hn_cX7_read rfl rfl
theorem dX7_read_36 : decode cX7_read 36 = .ok (.iload_n 2, 1) := qr_o28 hN_cX7_read hn_cX7_read rfl rfl
theorem dX7_read_37 : decode cX7_read 37 = .ok (.aload_n 1, 1) := qr_o43 hN_cX7_read hn_cX7_read rfl rfl
theorem dX7_read_38 : decode cX7_read 38 = .ok (.getfield 28, 3) := qr_o180 0 28 hN_cX7_read hn_cX7_read rfl rfl rfl rfl
theorem dX7_read_41 : decode cX7_read 41 = .ok (.if_icmp .lt 16, 3) := qr_o161 0 16 rfl hN_cX7_read hn_cX7_read rfl rfl rfl rfl
theorem dX7_read_44 : decode cX7_read 44 = .ok (.aload_n 0, 1) := qr_o42 hN_cX7_read hn_cX7_read rfl rfl
theorem dX7_read_45 : decode cX7_read 45 = .ok (.getfield 13, 3) := qr_o180 0 13 hN_cX7_read hn_cX7_read rfl rfl rfl rfl
theorem dX7_read_48 : decode cX7_read 48 = .ok (.aload_n 0, 1) := qr_o42 hN_cX7_read hn_cX7_read rfl rfl
theorem dX7_read_49 : decode cX7_read 49 = .ok (.getfield 7, 3) := qr_o180 0 7 hN_cX7_read hn_cX7_read rfl rfl rfl rfl
theorem dX7_read_52 : decode cX7_read 52 = .ok (.invokestatic 20, 3) := qr_o184 0 20 hN_cX7_read hn_cX7_read rfl rfl rfl rfl
theorem dX7_read_55 : decode cX7_read 55 = .ok (.iload_n 3, 1) := qr_o29 hN_cX7_read hn_cX7_read rfl rfl
theorem dX7_read_56 : decode cX7_read 56 = .ok (.ireturn, 1) := qr_o172 hN_cX7_read hn_cX7_read rfl rfl
theorem dX7_read_57 : decode cX7_read 57 = .ok (.aload_n 1, 1) := qr_o43 hN_cX7_read hn_cX7_read rfl rfl
theorem dX7_read_58 : decode cX7_read 58 = .ok (.iload_n 2, 1) := qr_o28 hN_cX7_read hn_cX7_read rfl rfl
theorem dX7_read_59 : decode cX7_read 59 = .ok (.invokevirtual 34, 3) := qr_o182 0 34 hN_cX7_read hn_cX7_read rfl rfl rfl rfl
theorem dX7_read_62 : decode cX7_read 62 = .ok (.bipush 59, 2) := qr_o16 59 rfl hN_cX7_read hn_cX7_read rfl rfl rfl
theorem dX7_read_64 : decode cX7_read 64 = .ok (.if_icmp .eq 8, 3) := qr_o159 0 8 rfl hN_cX7_read hn_cX7_read rfl rfl rfl rfl
theorem dX7_read_67 : decode cX7_read 67 = .ok (.bipush (-20), 2) := qr_w16 236 20 rfl rfl hN_cX7_read hn_cX7_read rfl rfl rfl
theorem dX7_read_69 : decode cX7_read 69 = .ok (.iload_n 2, 1) := qr_o28 hN_cX7_read hn_cX7_read rfl rfl
theorem dX7_read_70 : decode cX7_read 70 = .ok (.isub, 1) := qr_o100 hN_cX7_read hn_cX7_read rfl rfl
theorem dX7_read_71 : decode cX7_read 71 = .ok (.ireturn, 1) := qr_o172 hN_cX7_read hn_cX7_read rfl rfl
theorem dX7_read_72 : decode cX7_read 72 = .ok (.iinc 3 1, 3) := qr_o132 3 1 rfl hN_cX7_read hn_cX7_read rfl rfl rfl rfl
theorem dX7_read_75 : decode cX7_read 75 = .ok (.goto (-60), 3) := qr_w167 255 196 60 rfl rfl hN_cX7_read hn_cX7_read rfl rfl rfl rfl
theorem dX7_read_78 : decode cX7_read 78 = .ok (.bipush (-20), 2) := qr_w16 236 20 rfl rfl hN_cX7_read hn_cX7_read rfl rfl rfl
theorem dX7_read_80 : decode cX7_read 80 = .ok (.iload_n 2, 1) := qr_o28 hN_cX7_read hn_cX7_read rfl rfl
theorem dX7_read_81 : decode cX7_read 81 = .ok (.isub, 1) := qr_o100 hN_cX7_read hn_cX7_read rfl rfl
theorem dX7_read_82 : decode cX7_read 82 = .ok (.ireturn, 1) := qr_o172 hN_cX7_read hn_cX7_read rfl rfl
def nN_cX7_readClause : Nat := 0xac2600b606152b4f071504150d00b42aac640515ec100900a42e04152f00b2071507363200b62e04152f00b2061505152bac640515ec100900a00515061506362c00b605152b05362600b660041d2bac641dec1008009c041504362900b82200b61d2b3e2600b61c2b
theorem hN_cX7_readClause : qr_n cX7_readClause.data.toList = nN_cX7_readClause := by decide +kernel
theorem hn_cX7_readClause : cX7_readClause.size = 105 := by decide +kernel
theorem dX7_readClause_0 : decode cX7_readClause 0 = .ok (.aload_n 1, 1) := qr_o43 hN_cX7_readClause hn_cX7_readClause rfl rfl
theorem dX7_readClause_1 : decode cX7_readClause 1 = .ok (.iload_n 2, 1) := qr_o28 hN_cX7_readClause hn_cX7_readClause rfl rfl
theorem dX7_readClause_2 : decode cX7_readClause 2 = .ok (.invokevirtual 38, 3) := qr_o182 0 38 hN_cX7_readClause hn_cX7_readClause rfl rfl rfl rfl
theorem dX7_readClause_5 : decode cX7_readClause 5 = .ok (.istore_n 3, 1) := qr_o62 hN_cX7_readClause hn_cX7_readClause rfl rfl
theorem dX7_readClause_6 : decode cX7_readClause 6 = .ok (.aload_n 1, 1) := qr_o43 hN_cX7_readClause hn_cX7_readClause rfl rfl
theorem dX7_readClause_7 : decode cX7_readClause 7 = .ok (.iload_n 3, 1) := qr_o29 hN_cX7_readClause hn_cX7_readClause rfl rfl
theorem dX7_readClause_8 : decode cX7_readClause 8 = .ok (.invokevirtual 34, 3) := qr_o182 0 34 hN_cX7_readClause hn_cX7_readClause rfl rfl rfl rfl
theorem dX7_readClause_11 : decode cX7_readClause 11 = .ok (.invokestatic 41, 3) := qr_o184 0 41 hN_cX7_readClause hn_cX7_readClause rfl rfl rfl rfl
theorem dX7_readClause_14 : decode cX7_readClause 14 = .ok (.istore 4, 2) := qr_o54 4 hN_cX7_readClause hn_cX7_readClause rfl rfl rfl
theorem dX7_readClause_16 : decode cX7_readClause 16 = .ok (.iload 4, 2) := qr_o21 4 hN_cX7_readClause hn_cX7_readClause rfl rfl rfl
theorem dX7_readClause_18 : decode cX7_readClause 18 = .ok (.ifCond .ge 8, 3) := qr_o156 0 8 rfl hN_cX7_readClause hn_cX7_readClause rfl rfl rfl rfl
theorem dX7_readClause_21 : decode cX7_readClause 21 = .ok (.bipush (-20), 2) := qr_w16 236 20 rfl rfl hN_cX7_readClause hn_cX7_readClause rfl rfl rfl
theorem dX7_readClause_23 : decode cX7_readClause 23 = .ok (.iload_n 3, 1) := qr_o29 hN_cX7_readClause hn_cX7_readClause rfl rfl
theorem dX7_readClause_24 : decode cX7_readClause 24 = .ok (.isub, 1) := qr_o100 hN_cX7_readClause hn_cX7_readClause rfl rfl
theorem dX7_readClause_25 : decode cX7_readClause 25 = .ok (.ireturn, 1) := qr_o172 hN_cX7_readClause hn_cX7_readClause rfl rfl
theorem dX7_readClause_26 : decode cX7_readClause 26 = .ok (.aload_n 1, 1) := qr_o43 hN_cX7_readClause hn_cX7_readClause rfl rfl
theorem dX7_readClause_27 : decode cX7_readClause 27 = .ok (.iload_n 3, 1) := qr_o29 hN_cX7_readClause hn_cX7_readClause rfl rfl
theorem dX7_readClause_28 : decode cX7_readClause 28 = .ok (.iconst 1, 1) := qr_o4 hN_cX7_readClause hn_cX7_readClause rfl rfl
theorem dX7_readClause_29 : decode cX7_readClause 29 = .ok (.iadd, 1) := qr_o96 hN_cX7_readClause hn_cX7_readClause rfl rfl
theorem dX7_readClause_30 : decode cX7_readClause 30 = .ok (.invokevirtual 38, 3) := qr_o182 0 38 hN_cX7_readClause hn_cX7_readClause rfl rfl rfl rfl
theorem dX7_readClause_33 : decode cX7_readClause 33 = .ok (.istore 5, 2) := qr_o54 5 hN_cX7_readClause hn_cX7_readClause rfl rfl rfl
theorem dX7_readClause_35 : decode cX7_readClause 35 = .ok (.aload_n 1, 1) := qr_o43 hN_cX7_readClause hn_cX7_readClause rfl rfl
theorem dX7_readClause_36 : decode cX7_readClause 36 = .ok (.iload 5, 2) := qr_o21 5 hN_cX7_readClause hn_cX7_readClause rfl rfl rfl
theorem dX7_readClause_38 : decode cX7_readClause 38 = .ok (.invokevirtual 44, 3) := qr_o182 0 44 hN_cX7_readClause hn_cX7_readClause rfl rfl rfl rfl
theorem dX7_readClause_41 : decode cX7_readClause 41 = .ok (.istore 6, 2) := qr_o54 6 hN_cX7_readClause hn_cX7_readClause rfl rfl rfl
theorem dX7_readClause_43 : decode cX7_readClause 43 = .ok (.iload 6, 2) := qr_o21 6 hN_cX7_readClause hn_cX7_readClause rfl rfl rfl
theorem dX7_readClause_45 : decode cX7_readClause 45 = .ok (.iload 5, 2) := qr_o21 5 hN_cX7_readClause hn_cX7_readClause rfl rfl rfl
theorem dX7_readClause_47 : decode cX7_readClause 47 = .ok (.if_icmp .ne 9, 3) := qr_o160 0 9 rfl hN_cX7_readClause hn_cX7_readClause rfl rfl rfl rfl
theorem dX7_readClause_50 : decode cX7_readClause 50 = .ok (.bipush (-20), 2) := qr_w16 236 20 rfl rfl hN_cX7_readClause hn_cX7_readClause rfl rfl rfl
theorem dX7_readClause_52 : decode cX7_readClause 52 = .ok (.iload 5, 2) := qr_o21 5 hN_cX7_readClause hn_cX7_readClause rfl rfl rfl
theorem dX7_readClause_54 : decode cX7_readClause 54 = .ok (.isub, 1) := qr_o100 hN_cX7_readClause hn_cX7_readClause rfl rfl
theorem dX7_readClause_55 : decode cX7_readClause 55 = .ok (.ireturn, 1) := qr_o172 hN_cX7_readClause hn_cX7_readClause rfl rfl
theorem dX7_readClause_56 : decode cX7_readClause 56 = .ok (.aload_n 1, 1) := qr_o43 hN_cX7_readClause hn_cX7_readClause rfl rfl
theorem dX7_readClause_57 : decode cX7_readClause 57 = .ok (.iload 5, 2) := qr_o21 5 hN_cX7_readClause hn_cX7_readClause rfl rfl rfl
theorem dX7_readClause_59 : decode cX7_readClause 59 = .ok (.iload 6, 2) := qr_o21 6 hN_cX7_readClause hn_cX7_readClause rfl rfl rfl
theorem dX7_readClause_61 : decode cX7_readClause 61 = .ok (.getstatic 47, 3) := qr_o178 0 47 hN_cX7_readClause hn_cX7_readClause rfl rfl rfl rfl
theorem dX7_readClause_64 : decode cX7_readClause 64 = .ok (.iload 4, 2) := qr_o21 4 hN_cX7_readClause hn_cX7_readClause rfl rfl rfl
theorem dX7_readClause_66 : decode cX7_readClause 66 = .ok (.iaload, 1) := qr_o46 hN_cX7_readClause hn_cX7_readClause rfl rfl
theorem dX7_readClause_67 : decode cX7_readClause 67 = .ok (.invokevirtual 50, 3) := qr_o182 0 50 hN_cX7_readClause hn_cX7_readClause rfl rfl rfl rfl
theorem dX7_readClause_70 : decode cX7_readClause 70 = .ok (.istore 7, 2) := qr_o54 7 hN_cX7_readClause hn_cX7_readClause rfl rfl rfl
theorem dX7_readClause_72 : decode cX7_readClause 72 = .ok (.iload 7, 2) := qr_o21 7 hN_cX7_readClause hn_cX7_readClause rfl rfl rfl
theorem dX7_readClause_74 : decode cX7_readClause 74 = .ok (.getstatic 47, 3) := qr_o178 0 47 hN_cX7_readClause hn_cX7_readClause rfl rfl rfl rfl
theorem dX7_readClause_77 : decode cX7_readClause 77 = .ok (.iload 4, 2) := qr_o21 4 hN_cX7_readClause hn_cX7_readClause rfl rfl rfl
theorem dX7_readClause_79 : decode cX7_readClause 79 = .ok (.iaload, 1) := qr_o46 hN_cX7_readClause hn_cX7_readClause rfl rfl
theorem dX7_readClause_80 : decode cX7_readClause 80 = .ok (.if_icmp .le 9, 3) := qr_o164 0 9 rfl hN_cX7_readClause hn_cX7_readClause rfl rfl rfl rfl
theorem dX7_readClause_83 : decode cX7_readClause 83 = .ok (.bipush (-20), 2) := qr_w16 236 20 rfl rfl hN_cX7_readClause hn_cX7_readClause rfl rfl rfl
theorem dX7_readClause_85 : decode cX7_readClause 85 = .ok (.iload 5, 2) := qr_o21 5 hN_cX7_readClause hn_cX7_readClause rfl rfl rfl
theorem dX7_readClause_87 : decode cX7_readClause 87 = .ok (.isub, 1) := qr_o100 hN_cX7_readClause hn_cX7_readClause rfl rfl
theorem dX7_readClause_88 : decode cX7_readClause 88 = .ok (.ireturn, 1) := qr_o172 hN_cX7_readClause hn_cX7_readClause rfl rfl
theorem dX7_readClause_89 : decode cX7_readClause 89 = .ok (.aload_n 0, 1) := qr_o42 hN_cX7_readClause hn_cX7_readClause rfl rfl
theorem dX7_readClause_90 : decode cX7_readClause 90 = .ok (.getfield 13, 3) := qr_o180 0 13 hN_cX7_readClause hn_cX7_readClause rfl rfl rfl rfl
theorem dX7_readClause_93 : decode cX7_readClause 93 = .ok (.iload 4, 2) := qr_o21 4 hN_cX7_readClause hn_cX7_readClause rfl rfl rfl
theorem dX7_readClause_95 : decode cX7_readClause 95 = .ok (.iload 7, 2) := qr_o21 7 hN_cX7_readClause hn_cX7_readClause rfl rfl rfl
theorem dX7_readClause_97 : decode cX7_readClause 97 = .ok (.iastore, 1) := qr_o79 hN_cX7_readClause hn_cX7_readClause rfl rfl
theorem dX7_readClause_98 : decode cX7_readClause 98 = .ok (.aload_n 1, 1) := qr_o43 hN_cX7_readClause hn_cX7_readClause rfl rfl
theorem dX7_readClause_99 : decode cX7_readClause 99 = .ok (.iload 6, 2) := qr_o21 6 hN_cX7_readClause hn_cX7_readClause rfl rfl rfl
theorem dX7_readClause_101 : decode cX7_readClause 101 = .ok (.invokevirtual 38, 3) := qr_o182 0 38 hN_cX7_readClause hn_cX7_readClause rfl rfl rfl rfl
theorem dX7_readClause_104 : decode cX7_readClause 104 = .ok (.ireturn, 1) := qr_o172 hN_cX7_readClause hn_cX7_readClause rfl rfl
def nN_cX7_copy : Nat := 0xb1f1ffa70102844f2e1c2a1c2b0f00a208101c3d03
theorem hN_cX7_copy : qr_n cX7_copy.data.toList = nN_cX7_copy := by decide +kernel
theorem hn_cX7_copy : cX7_copy.size = 21 := by decide +kernel
theorem dX7_copy_0 : decode cX7_copy 0 = .ok (.iconst 0, 1) := qr_o3 hN_cX7_copy hn_cX7_copy rfl rfl
theorem dX7_copy_1 : decode cX7_copy 1 = .ok (.istore_n 2, 1) := qr_o61 hN_cX7_copy hn_cX7_copy rfl rfl
theorem dX7_copy_2 : decode cX7_copy 2 = .ok (.iload_n 2, 1) := qr_o28 hN_cX7_copy hn_cX7_copy rfl rfl
theorem dX7_copy_3 : decode cX7_copy 3 = .ok (.bipush 8, 2) := qr_o16 8 rfl hN_cX7_copy hn_cX7_copy rfl rfl rfl
theorem dX7_copy_5 : decode cX7_copy 5 = .ok (.if_icmp .ge 15, 3) := qr_o162 0 15 rfl hN_cX7_copy hn_cX7_copy rfl rfl rfl rfl
theorem dX7_copy_8 : decode cX7_copy 8 = .ok (.aload_n 1, 1) := qr_o43 hN_cX7_copy hn_cX7_copy rfl rfl
theorem dX7_copy_9 : decode cX7_copy 9 = .ok (.iload_n 2, 1) := qr_o28 hN_cX7_copy hn_cX7_copy rfl rfl
theorem dX7_copy_10 : decode cX7_copy 10 = .ok (.aload_n 0, 1) := qr_o42 hN_cX7_copy hn_cX7_copy rfl rfl
theorem dX7_copy_11 : decode cX7_copy 11 = .ok (.iload_n 2, 1) := qr_o28 hN_cX7_copy hn_cX7_copy rfl rfl
theorem dX7_copy_12 : decode cX7_copy 12 = .ok (.iaload, 1) := qr_o46 hN_cX7_copy hn_cX7_copy rfl rfl
theorem dX7_copy_13 : decode cX7_copy 13 = .ok (.iastore, 1) := qr_o79 hN_cX7_copy hn_cX7_copy rfl rfl
theorem dX7_copy_14 : decode cX7_copy 14 = .ok (.iinc 2 1, 3) := qr_o132 2 1 rfl hN_cX7_copy hn_cX7_copy rfl rfl rfl rfl
theorem dX7_copy_17 : decode cX7_copy 17 = .ok (.goto (-15), 3) := qr_w167 255 241 15 rfl rfl hN_cX7_copy hn_cX7_copy rfl rfl rfl rfl
theorem dX7_copy_20 : decode cX7_copy 20 = .ok (.return_, 1) := qr_o177 hN_cX7_copy hn_cX7_copy rfl rfl
def nN_cX8_init : Nat := 0xb12300b5532200b7592000bb0659532200b7592000bb0559532200b7592000bb0459532200b7592000bb03592000bd072a1c00b51900b71300b42a591700bb2a1300b51200b7591000bb2a0a00b50900b7590700bb2a0100b72a
theorem hN_cX8_init : qr_n cX8_init.data.toList = nN_cX8_init := by decide +kernel
theorem hn_cX8_init : cX8_init.size = 90 := by decide +kernel
theorem dX8_init_0 : decode cX8_init 0 = .ok (.aload_n 0, 1) := qr_o42 hN_cX8_init hn_cX8_init rfl rfl
theorem dX8_init_1 : decode cX8_init 1 = .ok (.invokespecial 1, 3) := qr_o183 0 1 hN_cX8_init hn_cX8_init rfl rfl rfl rfl
theorem dX8_init_4 : decode cX8_init 4 = .ok (.aload_n 0, 1) := qr_o42 hN_cX8_init hn_cX8_init rfl rfl
theorem dX8_init_5 : decode cX8_init 5 = .ok (.new 7, 3) := qr_o187 0 7 hN_cX8_init hn_cX8_init rfl rfl rfl rfl
theorem dX8_init_8 : decode cX8_init 8 = .ok (.dup, 1) := qr_o89 hN_cX8_init hn_cX8_init rfl rfl
theorem dX8_init_9 : decode cX8_init 9 = .ok (.invokespecial 9, 3) := qr_o183 0 9 hN_cX8_init hn_cX8_init rfl rfl rfl rfl
theorem dX8_init_12 : decode cX8_init 12 = .ok (.putfield 10, 3) := qr_o181 0 10 hN_cX8_init hn_cX8_init rfl rfl rfl rfl
theorem dX8_init_15 : decode cX8_init 15 = .ok (.aload_n 0, 1) := qr_o42 hN_cX8_init hn_cX8_init rfl rfl
theorem dX8_init_16 : decode cX8_init 16 = .ok (.new 16, 3) := qr_o187 0 16 hN_cX8_init hn_cX8_init rfl rfl rfl rfl
theorem dX8_init_19 : decode cX8_init 19 = .ok (.dup, 1) := qr_o89 hN_cX8_init hn_cX8_init rfl rfl
theorem dX8_init_20 : decode cX8_init 20 = .ok (.invokespecial 18, 3) := qr_o183 0 18 hN_cX8_init hn_cX8_init rfl rfl rfl rfl
theorem dX8_init_23 : decode cX8_init 23 = .ok (.putfield 19, 3) := qr_o181 0 19 hN_cX8_init hn_cX8_init rfl rfl rfl rfl
theorem dX8_init_26 : decode cX8_init 26 = .ok (.aload_n 0, 1) := qr_o42 hN_cX8_init hn_cX8_init rfl rfl
theorem dX8_init_27 : decode cX8_init 27 = .ok (.new 23, 3) := qr_o187 0 23 hN_cX8_init hn_cX8_init rfl rfl rfl rfl
theorem dX8_init_30 : decode cX8_init 30 = .ok (.dup, 1) := qr_o89 hN_cX8_init hn_cX8_init rfl rfl
theorem dX8_init_31 : decode cX8_init 31 = .ok (.aload_n 0, 1) := qr_o42 hN_cX8_init hn_cX8_init rfl rfl
theorem dX8_init_32 : decode cX8_init 32 = .ok (.getfield 19, 3) := qr_o180 0 19 hN_cX8_init hn_cX8_init rfl rfl rfl rfl
theorem dX8_init_35 : decode cX8_init 35 = .ok (.invokespecial 25, 3) := qr_o183 0 25 hN_cX8_init hn_cX8_init rfl rfl rfl rfl
theorem dX8_init_38 : decode cX8_init 38 = .ok (.putfield 28, 3) := qr_o181 0 28 hN_cX8_init hn_cX8_init rfl rfl rfl rfl
theorem dX8_init_41 : decode cX8_init 41 = .ok (.aload_n 0, 1) := qr_o42 hN_cX8_init hn_cX8_init rfl rfl
theorem dX8_init_42 : decode cX8_init 42 = .ok (.iconst 4, 1) := qr_o7 hN_cX8_init hn_cX8_init rfl rfl
theorem dX8_init_43 : decode cX8_init 43 = .ok (.anewarray 32, 3) := qr_o189 0 32 hN_cX8_init hn_cX8_init rfl rfl rfl rfl
theorem dX8_init_46 : decode cX8_init 46 = .ok (.dup, 1) := qr_o89 hN_cX8_init hn_cX8_init rfl rfl
theorem dX8_init_47 : decode cX8_init 47 = .ok (.iconst 0, 1) := qr_o3 hN_cX8_init hn_cX8_init rfl rfl
theorem dX8_init_48 : decode cX8_init 48 = .ok (.new 32, 3) := qr_o187 0 32 hN_cX8_init hn_cX8_init rfl rfl rfl rfl
theorem dX8_init_51 : decode cX8_init 51 = .ok (.dup, 1) := qr_o89 hN_cX8_init hn_cX8_init rfl rfl
theorem dX8_init_52 : decode cX8_init 52 = .ok (.invokespecial 34, 3) := qr_o183 0 34 hN_cX8_init hn_cX8_init rfl rfl rfl rfl
theorem dX8_init_55 : decode cX8_init 55 = .ok (.aastore, 1) := qr_o83 hN_cX8_init hn_cX8_init rfl rfl
theorem dX8_init_56 : decode cX8_init 56 = .ok (.dup, 1) := qr_o89 hN_cX8_init hn_cX8_init rfl rfl
theorem dX8_init_57 : decode cX8_init 57 = .ok (.iconst 1, 1) := qr_o4 hN_cX8_init hn_cX8_init rfl rfl
theorem dX8_init_58 : decode cX8_init 58 = .ok (.new 32, 3) := qr_o187 0 32 hN_cX8_init hn_cX8_init rfl rfl rfl rfl
theorem dX8_init_61 : decode cX8_init 61 = .ok (.dup, 1) := qr_o89 hN_cX8_init hn_cX8_init rfl rfl
theorem dX8_init_62 : decode cX8_init 62 = .ok (.invokespecial 34, 3) := qr_o183 0 34 hN_cX8_init hn_cX8_init rfl rfl rfl rfl
theorem dX8_init_65 : decode cX8_init 65 = .ok (.aastore, 1) := qr_o83 hN_cX8_init hn_cX8_init rfl rfl
theorem dX8_init_66 : decode cX8_init 66 = .ok (.dup, 1) := qr_o89 hN_cX8_init hn_cX8_init rfl rfl
theorem dX8_init_67 : decode cX8_init 67 = .ok (.iconst 2, 1) := qr_o5 hN_cX8_init hn_cX8_init rfl rfl
theorem dX8_init_68 : decode cX8_init 68 = .ok (.new 32, 3) := qr_o187 0 32 hN_cX8_init hn_cX8_init rfl rfl rfl rfl
theorem dX8_init_71 : decode cX8_init 71 = .ok (.dup, 1) := qr_o89 hN_cX8_init hn_cX8_init rfl rfl
theorem dX8_init_72 : decode cX8_init 72 = .ok (.invokespecial 34, 3) := qr_o183 0 34 hN_cX8_init hn_cX8_init rfl rfl rfl rfl
theorem dX8_init_75 : decode cX8_init 75 = .ok (.aastore, 1) := qr_o83 hN_cX8_init hn_cX8_init rfl rfl
theorem dX8_init_76 : decode cX8_init 76 = .ok (.dup, 1) := qr_o89 hN_cX8_init hn_cX8_init rfl rfl
theorem dX8_init_77 : decode cX8_init 77 = .ok (.iconst 3, 1) := qr_o6 hN_cX8_init hn_cX8_init rfl rfl
theorem dX8_init_78 : decode cX8_init 78 = .ok (.new 32, 3) := qr_o187 0 32 hN_cX8_init hn_cX8_init rfl rfl rfl rfl
theorem dX8_init_81 : decode cX8_init 81 = .ok (.dup, 1) := qr_o89 hN_cX8_init hn_cX8_init rfl rfl
theorem dX8_init_82 : decode cX8_init 82 = .ok (.invokespecial 34, 3) := qr_o183 0 34 hN_cX8_init hn_cX8_init rfl rfl rfl rfl
theorem dX8_init_85 : decode cX8_init 85 = .ok (.aastore, 1) := qr_o83 hN_cX8_init hn_cX8_init rfl rfl
theorem dX8_init_86 : decode cX8_init 86 = .ok (.putfield 35, 3) := qr_o181 0 35 hN_cX8_init hn_cX8_init rfl rfl rfl rfl
theorem dX8_init_89 : decode cX8_init 89 = .ok (.return_, 1) := qr_o177 hN_cX8_init hn_cX8_init rfl rfl
def nN_cX8_type : Nat := 0xac3700b40a00b42aebffa7ff04843300b62b00b804151f0a00b42a16009b0415043664041dacfd1006009a2f00b61d0a00b42ae6ffa7ff0484ac0205009a2700b87e1020102b00b804151f1b009b0415043664041dac0205009a2700b80810041d
theorem hN_cX8_type : qr_n cX8_type.data.toList = nN_cX8_type := by decide +kernel
theorem hn_cX8_type : cX8_type.size = 97 := by decide +kernel
theorem dX8_type_0 : decode cX8_type 0 = .ok (.iload_n 3, 1) := qr_o29 hN_cX8_type hn_cX8_type rfl rfl
theorem dX8_type_1 : decode cX8_type 1 = .ok (.iconst 1, 1) := qr_o4 hN_cX8_type hn_cX8_type rfl rfl
theorem dX8_type_2 : decode cX8_type 2 = .ok (.bipush 8, 2) := qr_o16 8 rfl hN_cX8_type hn_cX8_type rfl rfl rfl
theorem dX8_type_4 : decode cX8_type 4 = .ok (.invokestatic 39, 3) := qr_o184 0 39 hN_cX8_type hn_cX8_type rfl rfl rfl rfl
theorem dX8_type_7 : decode cX8_type 7 = .ok (.ifCond .ne 5, 3) := qr_o154 0 5 rfl hN_cX8_type hn_cX8_type rfl rfl rfl rfl
theorem dX8_type_10 : decode cX8_type 10 = .ok (.iconst (-1), 1) := qr_o2 hN_cX8_type hn_cX8_type rfl rfl
theorem dX8_type_11 : decode cX8_type 11 = .ok (.ireturn, 1) := qr_o172 hN_cX8_type hn_cX8_type rfl rfl
theorem dX8_type_12 : decode cX8_type 12 = .ok (.iload_n 3, 1) := qr_o29 hN_cX8_type hn_cX8_type rfl rfl
theorem dX8_type_13 : decode cX8_type 13 = .ok (.iconst 1, 1) := qr_o4 hN_cX8_type hn_cX8_type rfl rfl
theorem dX8_type_14 : decode cX8_type 14 = .ok (.isub, 1) := qr_o100 hN_cX8_type hn_cX8_type rfl rfl
theorem dX8_type_15 : decode cX8_type 15 = .ok (.istore 4, 2) := qr_o54 4 hN_cX8_type hn_cX8_type rfl rfl rfl
theorem dX8_type_17 : decode cX8_type 17 = .ok (.iload 4, 2) := qr_o21 4 hN_cX8_type hn_cX8_type rfl rfl rfl
theorem dX8_type_19 : decode cX8_type 19 = .ok (.ifCond .lt 27, 3) := qr_o155 0 27 rfl hN_cX8_type hn_cX8_type rfl rfl rfl rfl
theorem dX8_type_22 : decode cX8_type 22 = .ok (.lload_n 1, 1) := qr_o31 hN_cX8_type hn_cX8_type rfl rfl
theorem dX8_type_23 : decode cX8_type 23 = .ok (.iload 4, 2) := qr_o21 4 hN_cX8_type hn_cX8_type rfl rfl rfl
theorem dX8_type_25 : decode cX8_type 25 = .ok (.invokestatic 43, 3) := qr_o184 0 43 hN_cX8_type hn_cX8_type rfl rfl rfl rfl
theorem dX8_type_28 : decode cX8_type 28 = .ok (.bipush 32, 2) := qr_o16 32 rfl hN_cX8_type hn_cX8_type rfl rfl rfl
theorem dX8_type_30 : decode cX8_type 30 = .ok (.bipush 126, 2) := qr_o16 126 rfl hN_cX8_type hn_cX8_type rfl rfl rfl
theorem dX8_type_32 : decode cX8_type 32 = .ok (.invokestatic 39, 3) := qr_o184 0 39 hN_cX8_type hn_cX8_type rfl rfl rfl rfl
theorem dX8_type_35 : decode cX8_type 35 = .ok (.ifCond .ne 5, 3) := qr_o154 0 5 rfl hN_cX8_type hn_cX8_type rfl rfl rfl rfl
theorem dX8_type_38 : decode cX8_type 38 = .ok (.iconst (-1), 1) := qr_o2 hN_cX8_type hn_cX8_type rfl rfl
theorem dX8_type_39 : decode cX8_type 39 = .ok (.ireturn, 1) := qr_o172 hN_cX8_type hn_cX8_type rfl rfl
theorem dX8_type_40 : decode cX8_type 40 = .ok (.iinc 4 (-1), 3) := qr_w132 4 255 1 rfl rfl hN_cX8_type hn_cX8_type rfl rfl rfl rfl
theorem dX8_type_43 : decode cX8_type 43 = .ok (.goto (-26), 3) := qr_w167 255 230 26 rfl rfl hN_cX8_type hn_cX8_type rfl rfl rfl rfl
theorem dX8_type_46 : decode cX8_type 46 = .ok (.aload_n 0, 1) := qr_o42 hN_cX8_type hn_cX8_type rfl rfl
theorem dX8_type_47 : decode cX8_type 47 = .ok (.getfield 10, 3) := qr_o180 0 10 hN_cX8_type hn_cX8_type rfl rfl rfl rfl
theorem dX8_type_50 : decode cX8_type 50 = .ok (.iload_n 3, 1) := qr_o29 hN_cX8_type hn_cX8_type rfl rfl
theorem dX8_type_51 : decode cX8_type 51 = .ok (.invokevirtual 47, 3) := qr_o182 0 47 hN_cX8_type hn_cX8_type rfl rfl rfl rfl
theorem dX8_type_54 : decode cX8_type 54 = .ok (.ifCond .ne 6, 3) := qr_o154 0 6 rfl hN_cX8_type hn_cX8_type rfl rfl rfl rfl
theorem dX8_type_57 : decode cX8_type 57 = .ok (.bipush (-3), 2) := qr_w16 253 3 rfl rfl hN_cX8_type hn_cX8_type rfl rfl rfl
theorem dX8_type_59 : decode cX8_type 59 = .ok (.ireturn, 1) := qr_o172 hN_cX8_type hn_cX8_type rfl rfl
theorem dX8_type_60 : decode cX8_type 60 = .ok (.iload_n 3, 1) := qr_o29 hN_cX8_type hn_cX8_type rfl rfl
theorem dX8_type_61 : decode cX8_type 61 = .ok (.iconst 1, 1) := qr_o4 hN_cX8_type hn_cX8_type rfl rfl
theorem dX8_type_62 : decode cX8_type 62 = .ok (.isub, 1) := qr_o100 hN_cX8_type hn_cX8_type rfl rfl
theorem dX8_type_63 : decode cX8_type 63 = .ok (.istore 4, 2) := qr_o54 4 hN_cX8_type hn_cX8_type rfl rfl rfl
theorem dX8_type_65 : decode cX8_type 65 = .ok (.iload 4, 2) := qr_o21 4 hN_cX8_type hn_cX8_type rfl rfl rfl
theorem dX8_type_67 : decode cX8_type 67 = .ok (.ifCond .lt 22, 3) := qr_o155 0 22 rfl hN_cX8_type hn_cX8_type rfl rfl rfl rfl
theorem dX8_type_70 : decode cX8_type 70 = .ok (.aload_n 0, 1) := qr_o42 hN_cX8_type hn_cX8_type rfl rfl
theorem dX8_type_71 : decode cX8_type 71 = .ok (.getfield 10, 3) := qr_o180 0 10 hN_cX8_type hn_cX8_type rfl rfl rfl rfl
theorem dX8_type_74 : decode cX8_type 74 = .ok (.lload_n 1, 1) := qr_o31 hN_cX8_type hn_cX8_type rfl rfl
theorem dX8_type_75 : decode cX8_type 75 = .ok (.iload 4, 2) := qr_o21 4 hN_cX8_type hn_cX8_type rfl rfl rfl
theorem dX8_type_77 : decode cX8_type 77 = .ok (.invokestatic 43, 3) := qr_o184 0 43 hN_cX8_type hn_cX8_type rfl rfl rfl rfl
theorem dX8_type_80 : decode cX8_type 80 = .ok (.invokevirtual 51, 3) := qr_o182 0 51 hN_cX8_type hn_cX8_type rfl rfl rfl rfl
theorem dX8_type_83 : decode cX8_type 83 = .ok (.iinc 4 (-1), 3) := qr_w132 4 255 1 rfl rfl hN_cX8_type hn_cX8_type rfl rfl rfl rfl
theorem dX8_type_86 : decode cX8_type 86 = .ok (.goto (-21), 3) := qr_w167 255 235 21 rfl rfl hN_cX8_type hn_cX8_type rfl rfl rfl rfl
theorem dX8_type_89 : decode cX8_type 89 = .ok (.aload_n 0, 1) := qr_o42 hN_cX8_type hn_cX8_type rfl rfl
theorem dX8_type_90 : decode cX8_type 90 = .ok (.getfield 10, 3) := qr_o180 0 10 hN_cX8_type hn_cX8_type rfl rfl rfl rfl
theorem dX8_type_93 : decode cX8_type 93 = .ok (.getfield 55, 3) := qr_o180 0 55 hN_cX8_type hn_cX8_type rfl rfl rfl rfl
theorem dX8_type_96 : decode cX8_type 96 = .ok (.ireturn, 1) := qr_o172 hN_cX8_type hn_cX8_type rfl rfl
def nN_cX8_terms : Nat := 0xac1b4500b60a00b42a3c3f00b60a00b42a3b00b41300b42a
theorem hN_cX8_terms : qr_n cX8_terms.data.toList = nN_cX8_terms := by decide +kernel
theorem hn_cX8_terms : cX8_terms.size = 24 := by decide +kernel
theorem dX8_terms_0 : decode cX8_terms 0 = .ok (.aload_n 0, 1) := qr_o42 hN_cX8_terms hn_cX8_terms rfl rfl
theorem dX8_terms_1 : decode cX8_terms 1 = .ok (.getfield 19, 3) := qr_o180 0 19 hN_cX8_terms hn_cX8_terms rfl rfl rfl rfl
theorem dX8_terms_4 : decode cX8_terms 4 = .ok (.getfield 59, 3) := qr_o180 0 59 hN_cX8_terms hn_cX8_terms rfl rfl rfl rfl
theorem dX8_terms_7 : decode cX8_terms 7 = .ok (.aload_n 0, 1) := qr_o42 hN_cX8_terms hn_cX8_terms rfl rfl
theorem dX8_terms_8 : decode cX8_terms 8 = .ok (.getfield 10, 3) := qr_o180 0 10 hN_cX8_terms hn_cX8_terms rfl rfl rfl rfl
theorem dX8_terms_11 : decode cX8_terms 11 = .ok (.invokevirtual 63, 3) := qr_o182 0 63 hN_cX8_terms hn_cX8_terms rfl rfl rfl rfl
theorem dX8_terms_14 : decode cX8_terms 14 = .ok (.istore_n 1, 1) := qr_o60 hN_cX8_terms hn_cX8_terms rfl rfl
theorem dX8_terms_15 : decode cX8_terms 15 = .ok (.aload_n 0, 1) := qr_o42 hN_cX8_terms hn_cX8_terms rfl rfl
theorem dX8_terms_16 : decode cX8_terms 16 = .ok (.getfield 10, 3) := qr_o180 0 10 hN_cX8_terms hn_cX8_terms rfl rfl rfl rfl
theorem dX8_terms_19 : decode cX8_terms 19 = .ok (.invokevirtual 69, 3) := qr_o182 0 69 hN_cX8_terms hn_cX8_terms rfl rfl rfl rfl
theorem dX8_terms_22 : decode cX8_terms 22 = .ok (.iload_n 1, 1) := qr_o27 hN_cX8_terms hn_cX8_terms rfl rfl
theorem dX8_terms_23 : decode cX8_terms 23 = .ok (.ireturn, 1) := qr_o172 hN_cX8_terms hn_cX8_terms rfl rfl
def nN_cX8_term : Nat := 0xac4c00b61c3b00b41300b42a0e00a70207009c1c3d4800b81b
theorem hN_cX8_term : qr_n cX8_term.data.toList = nN_cX8_term := by decide +kernel
theorem hn_cX8_term : cX8_term.size = 25 := by decide +kernel
theorem dX8_term_0 : decode cX8_term 0 = .ok (.iload_n 1, 1) := qr_o27 hN_cX8_term hn_cX8_term rfl rfl
theorem dX8_term_1 : decode cX8_term 1 = .ok (.invokestatic 72, 3) := qr_o184 0 72 hN_cX8_term hn_cX8_term rfl rfl rfl rfl
theorem dX8_term_4 : decode cX8_term 4 = .ok (.istore_n 2, 1) := qr_o61 hN_cX8_term hn_cX8_term rfl rfl
theorem dX8_term_5 : decode cX8_term 5 = .ok (.iload_n 2, 1) := qr_o28 hN_cX8_term hn_cX8_term rfl rfl
theorem dX8_term_6 : decode cX8_term 6 = .ok (.ifCond .ge 7, 3) := qr_o156 0 7 rfl hN_cX8_term hn_cX8_term rfl rfl rfl rfl
theorem dX8_term_9 : decode cX8_term 9 = .ok (.iconst (-1), 1) := qr_o2 hN_cX8_term hn_cX8_term rfl rfl
theorem dX8_term_10 : decode cX8_term 10 = .ok (.goto 14, 3) := qr_o167 0 14 rfl hN_cX8_term hn_cX8_term rfl rfl rfl rfl
theorem dX8_term_13 : decode cX8_term 13 = .ok (.aload_n 0, 1) := qr_o42 hN_cX8_term hn_cX8_term rfl rfl
theorem dX8_term_14 : decode cX8_term 14 = .ok (.getfield 19, 3) := qr_o180 0 19 hN_cX8_term hn_cX8_term rfl rfl rfl rfl
theorem dX8_term_17 : decode cX8_term 17 = .ok (.getfield 59, 3) := qr_o180 0 59 hN_cX8_term hn_cX8_term rfl rfl rfl rfl
theorem dX8_term_20 : decode cX8_term 20 = .ok (.iload_n 2, 1) := qr_o28 hN_cX8_term hn_cX8_term rfl rfl
theorem dX8_term_21 : decode cX8_term 21 = .ok (.invokevirtual 76, 3) := qr_o182 0 76 hN_cX8_term hn_cX8_term rfl rfl rfl rfl
theorem dX8_term_24 : decode cX8_term 24 = .ok (.ireturn, 1) := qr_o172 hN_cX8_term hn_cX8_term rfl rfl
def nN_cX8_post : Nat := 0xac04155600b61d1c1b1300b42a04365200b61c1b1300b42aac0205009a2700b80910031d0d009f1c1b1200994f00b81c1900994f00b81b
theorem hN_cX8_post : qr_n cX8_post.data.toList = nN_cX8_post := by decide +kernel
theorem hn_cX8_post : cX8_post.size = 55 := by decide +kernel
theorem dX8_post_0 : decode cX8_post 0 = .ok (.iload_n 1, 1) := qr_o27 hN_cX8_post hn_cX8_post rfl rfl
theorem dX8_post_1 : decode cX8_post 1 = .ok (.invokestatic 79, 3) := qr_o184 0 79 hN_cX8_post hn_cX8_post rfl rfl rfl rfl
theorem dX8_post_4 : decode cX8_post 4 = .ok (.ifCond .eq 25, 3) := qr_o153 0 25 rfl hN_cX8_post hn_cX8_post rfl rfl rfl rfl
theorem dX8_post_7 : decode cX8_post 7 = .ok (.iload_n 2, 1) := qr_o28 hN_cX8_post hn_cX8_post rfl rfl
theorem dX8_post_8 : decode cX8_post 8 = .ok (.invokestatic 79, 3) := qr_o184 0 79 hN_cX8_post hn_cX8_post rfl rfl rfl rfl
theorem dX8_post_11 : decode cX8_post 11 = .ok (.ifCond .eq 18, 3) := qr_o153 0 18 rfl hN_cX8_post hn_cX8_post rfl rfl rfl rfl
theorem dX8_post_14 : decode cX8_post 14 = .ok (.iload_n 1, 1) := qr_o27 hN_cX8_post hn_cX8_post rfl rfl
theorem dX8_post_15 : decode cX8_post 15 = .ok (.iload_n 2, 1) := qr_o28 hN_cX8_post hn_cX8_post rfl rfl
theorem dX8_post_16 : decode cX8_post 16 = .ok (.if_icmp .eq 13, 3) := qr_o159 0 13 rfl hN_cX8_post hn_cX8_post rfl rfl rfl rfl
theorem dX8_post_19 : decode cX8_post 19 = .ok (.iload_n 3, 1) := qr_o29 hN_cX8_post hn_cX8_post rfl rfl
theorem dX8_post_20 : decode cX8_post 20 = .ok (.iconst 0, 1) := qr_o3 hN_cX8_post hn_cX8_post rfl rfl
theorem dX8_post_21 : decode cX8_post 21 = .ok (.bipush 9, 2) := qr_o16 9 rfl hN_cX8_post hn_cX8_post rfl rfl rfl
theorem dX8_post_23 : decode cX8_post 23 = .ok (.invokestatic 39, 3) := qr_o184 0 39 hN_cX8_post hn_cX8_post rfl rfl rfl rfl
theorem dX8_post_26 : decode cX8_post 26 = .ok (.ifCond .ne 5, 3) := qr_o154 0 5 rfl hN_cX8_post hn_cX8_post rfl rfl rfl rfl
theorem dX8_post_29 : decode cX8_post 29 = .ok (.iconst (-1), 1) := qr_o2 hN_cX8_post hn_cX8_post rfl rfl
theorem dX8_post_30 : decode cX8_post 30 = .ok (.ireturn, 1) := qr_o172 hN_cX8_post hn_cX8_post rfl rfl
theorem dX8_post_31 : decode cX8_post 31 = .ok (.aload_n 0, 1) := qr_o42 hN_cX8_post hn_cX8_post rfl rfl
theorem dX8_post_32 : decode cX8_post 32 = .ok (.getfield 19, 3) := qr_o180 0 19 hN_cX8_post hn_cX8_post rfl rfl rfl rfl
theorem dX8_post_35 : decode cX8_post 35 = .ok (.iload_n 1, 1) := qr_o27 hN_cX8_post hn_cX8_post rfl rfl
theorem dX8_post_36 : decode cX8_post 36 = .ok (.iload_n 2, 1) := qr_o28 hN_cX8_post hn_cX8_post rfl rfl
theorem dX8_post_37 : decode cX8_post 37 = .ok (.invokevirtual 82, 3) := qr_o182 0 82 hN_cX8_post hn_cX8_post rfl rfl rfl rfl
theorem dX8_post_40 : decode cX8_post 40 = .ok (.istore 4, 2) := qr_o54 4 hN_cX8_post hn_cX8_post rfl rfl rfl
theorem dX8_post_42 : decode cX8_post 42 = .ok (.aload_n 0, 1) := qr_o42 hN_cX8_post hn_cX8_post rfl rfl
theorem dX8_post_43 : decode cX8_post 43 = .ok (.getfield 19, 3) := qr_o180 0 19 hN_cX8_post hn_cX8_post rfl rfl rfl rfl
theorem dX8_post_46 : decode cX8_post 46 = .ok (.iload_n 1, 1) := qr_o27 hN_cX8_post hn_cX8_post rfl rfl
theorem dX8_post_47 : decode cX8_post 47 = .ok (.iload_n 2, 1) := qr_o28 hN_cX8_post hn_cX8_post rfl rfl
theorem dX8_post_48 : decode cX8_post 48 = .ok (.iload_n 3, 1) := qr_o29 hN_cX8_post hn_cX8_post rfl rfl
theorem dX8_post_49 : decode cX8_post 49 = .ok (.invokevirtual 86, 3) := qr_o182 0 86 hN_cX8_post hn_cX8_post rfl rfl rfl rfl
theorem dX8_post_52 : decode cX8_post 52 = .ok (.iload 4, 2) := qr_o21 4 hN_cX8_post hn_cX8_post rfl rfl rfl
theorem dX8_post_54 : decode cX8_post 54 = .ok (.ireturn, 1) := qr_o172 hN_cX8_post hn_cX8_post rfl rfl
def nN_cX8_gown : Nat := 0xac5c00b60615051504151d1c1b032a
theorem hN_cX8_gown : qr_n cX8_gown.data.toList = nN_cX8_gown := by decide +kernel
theorem hn_cX8_gown : cX8_gown.size = 15 := by decide +kernel
theorem dX8_gown_0 : decode cX8_gown 0 = .ok (.aload_n 0, 1) := qr_o42 hN_cX8_gown hn_cX8_gown rfl rfl
theorem dX8_gown_1 : decode cX8_gown 1 = .ok (.iconst 0, 1) := qr_o3 hN_cX8_gown hn_cX8_gown rfl rfl
theorem dX8_gown_2 : decode cX8_gown 2 = .ok (.iload_n 1, 1) := qr_o27 hN_cX8_gown hn_cX8_gown rfl rfl
theorem dX8_gown_3 : decode cX8_gown 3 = .ok (.iload_n 2, 1) := qr_o28 hN_cX8_gown hn_cX8_gown rfl rfl
theorem dX8_gown_4 : decode cX8_gown 4 = .ok (.iload_n 3, 1) := qr_o29 hN_cX8_gown hn_cX8_gown rfl rfl
theorem dX8_gown_5 : decode cX8_gown 5 = .ok (.iload 4, 2) := qr_o21 4 hN_cX8_gown hn_cX8_gown rfl rfl rfl
theorem dX8_gown_7 : decode cX8_gown 7 = .ok (.iload 5, 2) := qr_o21 5 hN_cX8_gown hn_cX8_gown rfl rfl rfl
theorem dX8_gown_9 : decode cX8_gown 9 = .ok (.iload 6, 2) := qr_o21 6 hN_cX8_gown hn_cX8_gown rfl rfl rfl
theorem dX8_gown_11 : decode cX8_gown 11 = .ok (.invokevirtual 92, 3) := qr_o182 0 92 hN_cX8_gown hn_cX8_gown rfl rfl rfl rfl
theorem dX8_gown_14 : decode cX8_gown 14 = .ok (.ireturn, 1) := qr_o172 hN_cX8_gown hn_cX8_gown rfl rfl
def nN_cX8_longGown : Nat := 0xac5c00b60615051504151d1c1b042a
theorem hN_cX8_longGown : qr_n cX8_longGown.data.toList = nN_cX8_longGown := by decide +kernel
theorem hn_cX8_longGown : cX8_longGown.size = 15 := by decide +kernel
theorem dX8_longGown_0 : decode cX8_longGown 0 = .ok (.aload_n 0, 1) := qr_o42 hN_cX8_longGown hn_cX8_longGown rfl rfl
theorem dX8_longGown_1 : decode cX8_longGown 1 = .ok (.iconst 1, 1) := qr_o4 hN_cX8_longGown hn_cX8_longGown rfl rfl
theorem dX8_longGown_2 : decode cX8_longGown 2 = .ok (.iload_n 1, 1) := qr_o27 hN_cX8_longGown hn_cX8_longGown rfl rfl
theorem dX8_longGown_3 : decode cX8_longGown 3 = .ok (.iload_n 2, 1) := qr_o28 hN_cX8_longGown hn_cX8_longGown rfl rfl
theorem dX8_longGown_4 : decode cX8_longGown 4 = .ok (.iload_n 3, 1) := qr_o29 hN_cX8_longGown hn_cX8_longGown rfl rfl
theorem dX8_longGown_5 : decode cX8_longGown 5 = .ok (.iload 4, 2) := qr_o21 4 hN_cX8_longGown hn_cX8_longGown rfl rfl rfl
theorem dX8_longGown_7 : decode cX8_longGown 7 = .ok (.iload 5, 2) := qr_o21 5 hN_cX8_longGown hn_cX8_longGown rfl rfl rfl
theorem dX8_longGown_9 : decode cX8_longGown 9 = .ok (.iload 6, 2) := qr_o21 6 hN_cX8_longGown hn_cX8_longGown rfl rfl rfl
theorem dX8_longGown_11 : decode cX8_longGown 11 = .ok (.invokevirtual 92, 3) := qr_o182 0 92 hN_cX8_longGown hn_cX8_longGown rfl rfl rfl rfl
theorem dX8_longGown_14 : decode cX8_longGown 14 = .ok (.ireturn, 1) := qr_o172 hN_cX8_longGown hn_cX8_longGown rfl rfl
def nN_cX8_suit : Nat := 0xac5c00b60615051504151d1c1b052a
theorem hN_cX8_suit : qr_n cX8_suit.data.toList = nN_cX8_suit := by decide +kernel
theorem hn_cX8_suit : cX8_suit.size = 15 := by decide +kernel
theorem dX8_suit_0 : decode cX8_suit 0 = .ok (.aload_n 0, 1) := qr_o42 hN_cX8_suit hn_cX8_suit rfl rfl
theorem dX8_suit_1 : decode cX8_suit 1 = .ok (.iconst 2, 1) := qr_o5 hN_cX8_suit hn_cX8_suit rfl rfl
theorem dX8_suit_2 : decode cX8_suit 2 = .ok (.iload_n 1, 1) := qr_o27 hN_cX8_suit hn_cX8_suit rfl rfl
theorem dX8_suit_3 : decode cX8_suit 3 = .ok (.iload_n 2, 1) := qr_o28 hN_cX8_suit hn_cX8_suit rfl rfl
theorem dX8_suit_4 : decode cX8_suit 4 = .ok (.iload_n 3, 1) := qr_o29 hN_cX8_suit hn_cX8_suit rfl rfl
theorem dX8_suit_5 : decode cX8_suit 5 = .ok (.iload 4, 2) := qr_o21 4 hN_cX8_suit hn_cX8_suit rfl rfl rfl
theorem dX8_suit_7 : decode cX8_suit 7 = .ok (.iload 5, 2) := qr_o21 5 hN_cX8_suit hn_cX8_suit rfl rfl rfl
theorem dX8_suit_9 : decode cX8_suit 9 = .ok (.iload 6, 2) := qr_o21 6 hN_cX8_suit hn_cX8_suit rfl rfl rfl
theorem dX8_suit_11 : decode cX8_suit 11 = .ok (.invokevirtual 92, 3) := qr_o182 0 92 hN_cX8_suit hn_cX8_suit rfl rfl rfl rfl
theorem dX8_suit_14 : decode cX8_suit 14 = .ok (.ireturn, 1) := qr_o172 hN_cX8_suit hn_cX8_suit rfl rfl
def nN_cX8_hem : Nat := 0xac046700b51c2dacfe100600996700b42dacf41006009f046400b42dac0205009a2700b806041c0c00c62d4e6000b61b1300b42a
theorem hN_cX8_hem : qr_n cX8_hem.data.toList = nN_cX8_hem := by decide +kernel
theorem hn_cX8_hem : cX8_hem.size = 52 := by decide +kernel
theorem dX8_hem_0 : decode cX8_hem 0 = .ok (.aload_n 0, 1) := qr_o42 hN_cX8_hem hn_cX8_hem rfl rfl
theorem dX8_hem_1 : decode cX8_hem 1 = .ok (.getfield 19, 3) := qr_o180 0 19 hN_cX8_hem hn_cX8_hem rfl rfl rfl rfl
theorem dX8_hem_4 : decode cX8_hem 4 = .ok (.iload_n 1, 1) := qr_o27 hN_cX8_hem hn_cX8_hem rfl rfl
theorem dX8_hem_5 : decode cX8_hem 5 = .ok (.invokevirtual 96, 3) := qr_o182 0 96 hN_cX8_hem hn_cX8_hem rfl rfl rfl rfl
theorem dX8_hem_8 : decode cX8_hem 8 = .ok (.astore_n 3, 1) := qr_o78 hN_cX8_hem hn_cX8_hem rfl rfl
theorem dX8_hem_9 : decode cX8_hem 9 = .ok (.aload_n 3, 1) := qr_o45 hN_cX8_hem hn_cX8_hem rfl rfl
theorem dX8_hem_10 : decode cX8_hem 10 = .ok (.ifnull 12, 3) := qr_o198 0 12 rfl hN_cX8_hem hn_cX8_hem rfl rfl rfl rfl
theorem dX8_hem_13 : decode cX8_hem 13 = .ok (.iload_n 2, 1) := qr_o28 hN_cX8_hem hn_cX8_hem rfl rfl
theorem dX8_hem_14 : decode cX8_hem 14 = .ok (.iconst 1, 1) := qr_o4 hN_cX8_hem hn_cX8_hem rfl rfl
theorem dX8_hem_15 : decode cX8_hem 15 = .ok (.iconst 3, 1) := qr_o6 hN_cX8_hem hn_cX8_hem rfl rfl
theorem dX8_hem_16 : decode cX8_hem 16 = .ok (.invokestatic 39, 3) := qr_o184 0 39 hN_cX8_hem hn_cX8_hem rfl rfl rfl rfl
theorem dX8_hem_19 : decode cX8_hem 19 = .ok (.ifCond .ne 5, 3) := qr_o154 0 5 rfl hN_cX8_hem hn_cX8_hem rfl rfl rfl rfl
theorem dX8_hem_22 : decode cX8_hem 22 = .ok (.iconst (-1), 1) := qr_o2 hN_cX8_hem hn_cX8_hem rfl rfl
theorem dX8_hem_23 : decode cX8_hem 23 = .ok (.ireturn, 1) := qr_o172 hN_cX8_hem hn_cX8_hem rfl rfl
theorem dX8_hem_24 : decode cX8_hem 24 = .ok (.aload_n 3, 1) := qr_o45 hN_cX8_hem hn_cX8_hem rfl rfl
theorem dX8_hem_25 : decode cX8_hem 25 = .ok (.getfield 100, 3) := qr_o180 0 100 hN_cX8_hem hn_cX8_hem rfl rfl rfl rfl
theorem dX8_hem_28 : decode cX8_hem 28 = .ok (.iconst 1, 1) := qr_o4 hN_cX8_hem hn_cX8_hem rfl rfl
theorem dX8_hem_29 : decode cX8_hem 29 = .ok (.if_icmp .eq 6, 3) := qr_o159 0 6 rfl hN_cX8_hem hn_cX8_hem rfl rfl rfl rfl
theorem dX8_hem_32 : decode cX8_hem 32 = .ok (.bipush (-12), 2) := qr_w16 244 12 rfl rfl hN_cX8_hem hn_cX8_hem rfl rfl rfl
theorem dX8_hem_34 : decode cX8_hem 34 = .ok (.ireturn, 1) := qr_o172 hN_cX8_hem hn_cX8_hem rfl rfl
theorem dX8_hem_35 : decode cX8_hem 35 = .ok (.aload_n 3, 1) := qr_o45 hN_cX8_hem hn_cX8_hem rfl rfl
theorem dX8_hem_36 : decode cX8_hem 36 = .ok (.getfield 103, 3) := qr_o180 0 103 hN_cX8_hem hn_cX8_hem rfl rfl rfl rfl
theorem dX8_hem_39 : decode cX8_hem 39 = .ok (.ifCond .eq 6, 3) := qr_o153 0 6 rfl hN_cX8_hem hn_cX8_hem rfl rfl rfl rfl
theorem dX8_hem_42 : decode cX8_hem 42 = .ok (.bipush (-2), 2) := qr_w16 254 2 rfl rfl hN_cX8_hem hn_cX8_hem rfl rfl rfl
theorem dX8_hem_44 : decode cX8_hem 44 = .ok (.ireturn, 1) := qr_o172 hN_cX8_hem hn_cX8_hem rfl rfl
theorem dX8_hem_45 : decode cX8_hem 45 = .ok (.aload_n 3, 1) := qr_o45 hN_cX8_hem hn_cX8_hem rfl rfl
theorem dX8_hem_46 : decode cX8_hem 46 = .ok (.iload_n 2, 1) := qr_o28 hN_cX8_hem hn_cX8_hem rfl rfl
theorem dX8_hem_47 : decode cX8_hem 47 = .ok (.putfield 103, 3) := qr_o181 0 103 hN_cX8_hem hn_cX8_hem rfl rfl rfl rfl
theorem dX8_hem_50 : decode cX8_hem 50 = .ok (.iconst 1, 1) := qr_o4 hN_cX8_hem hn_cX8_hem rfl rfl
theorem dX8_hem_51 : decode cX8_hem 51 = .ok (.ireturn, 1) := qr_o172 hN_cX8_hem hn_cX8_hem rfl rfl
def nN_cX8_told : Nat := 0xac6a00b61c2dac0205009a2700b80910031c0d00c62d4e6000b61b1300b42a
theorem hN_cX8_told : qr_n cX8_told.data.toList = nN_cX8_told := by decide +kernel
theorem hn_cX8_told : cX8_told.size = 31 := by decide +kernel
theorem dX8_told_0 : decode cX8_told 0 = .ok (.aload_n 0, 1) := qr_o42 hN_cX8_told hn_cX8_told rfl rfl
theorem dX8_told_1 : decode cX8_told 1 = .ok (.getfield 19, 3) := qr_o180 0 19 hN_cX8_told hn_cX8_told rfl rfl rfl rfl
theorem dX8_told_4 : decode cX8_told 4 = .ok (.iload_n 1, 1) := qr_o27 hN_cX8_told hn_cX8_told rfl rfl
theorem dX8_told_5 : decode cX8_told 5 = .ok (.invokevirtual 96, 3) := qr_o182 0 96 hN_cX8_told hn_cX8_told rfl rfl rfl rfl
theorem dX8_told_8 : decode cX8_told 8 = .ok (.astore_n 3, 1) := qr_o78 hN_cX8_told hn_cX8_told rfl rfl
theorem dX8_told_9 : decode cX8_told 9 = .ok (.aload_n 3, 1) := qr_o45 hN_cX8_told hn_cX8_told rfl rfl
theorem dX8_told_10 : decode cX8_told 10 = .ok (.ifnull 13, 3) := qr_o198 0 13 rfl hN_cX8_told hn_cX8_told rfl rfl rfl rfl
theorem dX8_told_13 : decode cX8_told 13 = .ok (.iload_n 2, 1) := qr_o28 hN_cX8_told hn_cX8_told rfl rfl
theorem dX8_told_14 : decode cX8_told 14 = .ok (.iconst 0, 1) := qr_o3 hN_cX8_told hn_cX8_told rfl rfl
theorem dX8_told_15 : decode cX8_told 15 = .ok (.bipush 9, 2) := qr_o16 9 rfl hN_cX8_told hn_cX8_told rfl rfl rfl
theorem dX8_told_17 : decode cX8_told 17 = .ok (.invokestatic 39, 3) := qr_o184 0 39 hN_cX8_told hn_cX8_told rfl rfl rfl rfl
theorem dX8_told_20 : decode cX8_told 20 = .ok (.ifCond .ne 5, 3) := qr_o154 0 5 rfl hN_cX8_told hn_cX8_told rfl rfl rfl rfl
theorem dX8_told_23 : decode cX8_told 23 = .ok (.iconst (-1), 1) := qr_o2 hN_cX8_told hn_cX8_told rfl rfl
theorem dX8_told_24 : decode cX8_told 24 = .ok (.ireturn, 1) := qr_o172 hN_cX8_told hn_cX8_told rfl rfl
theorem dX8_told_25 : decode cX8_told 25 = .ok (.aload_n 3, 1) := qr_o45 hN_cX8_told hn_cX8_told rfl rfl
theorem dX8_told_26 : decode cX8_told 26 = .ok (.iload_n 2, 1) := qr_o28 hN_cX8_told hn_cX8_told rfl rfl
theorem dX8_told_27 : decode cX8_told 27 = .ok (.invokevirtual 106, 3) := qr_o182 0 106 hN_cX8_told hn_cX8_told rfl rfl rfl rfl
theorem dX8_told_30 : decode cX8_told 30 = .ok (.ireturn, 1) := qr_o172 hN_cX8_told hn_cX8_told rfl rfl
def nN_cX8_same : Nat := 0xac64047700b47300b41300b42a7c00b604151d1c1b7300b41300b42aacfd100600a114107700b47300b41300b42aac0205009a7000b804150b00997000b81c12009f1d1b1700996d00b81d1e00996d00b81b
theorem hN_cX8_same : qr_n cX8_same.data.toList = nN_cX8_same := by decide +kernel
theorem hn_cX8_same : cX8_same.size = 82 := by decide +kernel
theorem dX8_same_0 : decode cX8_same 0 = .ok (.iload_n 1, 1) := qr_o27 hN_cX8_same hn_cX8_same rfl rfl
theorem dX8_same_1 : decode cX8_same 1 = .ok (.invokestatic 109, 3) := qr_o184 0 109 hN_cX8_same hn_cX8_same rfl rfl rfl rfl
theorem dX8_same_4 : decode cX8_same 4 = .ok (.ifCond .eq 30, 3) := qr_o153 0 30 rfl hN_cX8_same hn_cX8_same rfl rfl rfl rfl
theorem dX8_same_7 : decode cX8_same 7 = .ok (.iload_n 3, 1) := qr_o29 hN_cX8_same hn_cX8_same rfl rfl
theorem dX8_same_8 : decode cX8_same 8 = .ok (.invokestatic 109, 3) := qr_o184 0 109 hN_cX8_same hn_cX8_same rfl rfl rfl rfl
theorem dX8_same_11 : decode cX8_same 11 = .ok (.ifCond .eq 23, 3) := qr_o153 0 23 rfl hN_cX8_same hn_cX8_same rfl rfl rfl rfl
theorem dX8_same_14 : decode cX8_same 14 = .ok (.iload_n 1, 1) := qr_o27 hN_cX8_same hn_cX8_same rfl rfl
theorem dX8_same_15 : decode cX8_same 15 = .ok (.iload_n 3, 1) := qr_o29 hN_cX8_same hn_cX8_same rfl rfl
theorem dX8_same_16 : decode cX8_same 16 = .ok (.if_icmp .eq 18, 3) := qr_o159 0 18 rfl hN_cX8_same hn_cX8_same rfl rfl rfl rfl
theorem dX8_same_19 : decode cX8_same 19 = .ok (.iload_n 2, 1) := qr_o28 hN_cX8_same hn_cX8_same rfl rfl
theorem dX8_same_20 : decode cX8_same 20 = .ok (.invokestatic 112, 3) := qr_o184 0 112 hN_cX8_same hn_cX8_same rfl rfl rfl rfl
theorem dX8_same_23 : decode cX8_same 23 = .ok (.ifCond .eq 11, 3) := qr_o153 0 11 rfl hN_cX8_same hn_cX8_same rfl rfl rfl rfl
theorem dX8_same_26 : decode cX8_same 26 = .ok (.iload 4, 2) := qr_o21 4 hN_cX8_same hn_cX8_same rfl rfl rfl
theorem dX8_same_28 : decode cX8_same 28 = .ok (.invokestatic 112, 3) := qr_o184 0 112 hN_cX8_same hn_cX8_same rfl rfl rfl rfl
theorem dX8_same_31 : decode cX8_same 31 = .ok (.ifCond .ne 5, 3) := qr_o154 0 5 rfl hN_cX8_same hn_cX8_same rfl rfl rfl rfl
theorem dX8_same_34 : decode cX8_same 34 = .ok (.iconst (-1), 1) := qr_o2 hN_cX8_same hn_cX8_same rfl rfl
theorem dX8_same_35 : decode cX8_same 35 = .ok (.ireturn, 1) := qr_o172 hN_cX8_same hn_cX8_same rfl rfl
theorem dX8_same_36 : decode cX8_same 36 = .ok (.aload_n 0, 1) := qr_o42 hN_cX8_same hn_cX8_same rfl rfl
theorem dX8_same_37 : decode cX8_same 37 = .ok (.getfield 19, 3) := qr_o180 0 19 hN_cX8_same hn_cX8_same rfl rfl rfl rfl
theorem dX8_same_40 : decode cX8_same 40 = .ok (.getfield 115, 3) := qr_o180 0 115 hN_cX8_same hn_cX8_same rfl rfl rfl rfl
theorem dX8_same_43 : decode cX8_same 43 = .ok (.getfield 119, 3) := qr_o180 0 119 hN_cX8_same hn_cX8_same rfl rfl rfl rfl
theorem dX8_same_46 : decode cX8_same 46 = .ok (.bipush 20, 2) := qr_o16 20 rfl hN_cX8_same hn_cX8_same rfl rfl rfl
theorem dX8_same_48 : decode cX8_same 48 = .ok (.if_icmp .lt 6, 3) := qr_o161 0 6 rfl hN_cX8_same hn_cX8_same rfl rfl rfl rfl
theorem dX8_same_51 : decode cX8_same 51 = .ok (.bipush (-3), 2) := qr_w16 253 3 rfl rfl hN_cX8_same hn_cX8_same rfl rfl rfl
theorem dX8_same_53 : decode cX8_same 53 = .ok (.ireturn, 1) := qr_o172 hN_cX8_same hn_cX8_same rfl rfl
theorem dX8_same_54 : decode cX8_same 54 = .ok (.aload_n 0, 1) := qr_o42 hN_cX8_same hn_cX8_same rfl rfl
theorem dX8_same_55 : decode cX8_same 55 = .ok (.getfield 19, 3) := qr_o180 0 19 hN_cX8_same hn_cX8_same rfl rfl rfl rfl
theorem dX8_same_58 : decode cX8_same 58 = .ok (.getfield 115, 3) := qr_o180 0 115 hN_cX8_same hn_cX8_same rfl rfl rfl rfl
theorem dX8_same_61 : decode cX8_same 61 = .ok (.iload_n 1, 1) := qr_o27 hN_cX8_same hn_cX8_same rfl rfl
theorem dX8_same_62 : decode cX8_same 62 = .ok (.iload_n 2, 1) := qr_o28 hN_cX8_same hn_cX8_same rfl rfl
theorem dX8_same_63 : decode cX8_same 63 = .ok (.iload_n 3, 1) := qr_o29 hN_cX8_same hn_cX8_same rfl rfl
theorem dX8_same_64 : decode cX8_same 64 = .ok (.iload 4, 2) := qr_o21 4 hN_cX8_same hn_cX8_same rfl rfl rfl
theorem dX8_same_66 : decode cX8_same 66 = .ok (.invokevirtual 124, 3) := qr_o182 0 124 hN_cX8_same hn_cX8_same rfl rfl rfl rfl
theorem dX8_same_69 : decode cX8_same 69 = .ok (.aload_n 0, 1) := qr_o42 hN_cX8_same hn_cX8_same rfl rfl
theorem dX8_same_70 : decode cX8_same 70 = .ok (.getfield 19, 3) := qr_o180 0 19 hN_cX8_same hn_cX8_same rfl rfl rfl rfl
theorem dX8_same_73 : decode cX8_same 73 = .ok (.getfield 115, 3) := qr_o180 0 115 hN_cX8_same hn_cX8_same rfl rfl rfl rfl
theorem dX8_same_76 : decode cX8_same 76 = .ok (.getfield 119, 3) := qr_o180 0 119 hN_cX8_same hn_cX8_same rfl rfl rfl rfl
theorem dX8_same_79 : decode cX8_same 79 = .ok (.iconst 1, 1) := qr_o4 hN_cX8_same hn_cX8_same rfl rfl
theorem dX8_same_80 : decode cX8_same 80 = .ok (.isub, 1) := qr_o100 hN_cX8_same hn_cX8_same rfl rfl
theorem dX8_same_81 : decode cX8_same 81 = .ok (.ireturn, 1) := qr_o172 hN_cX8_same hn_cX8_same rfl rfl
def nN_cX8_lie : Nat := 0xac8300b61b7300b41300b42a0e00a78000b61b7300b41300b42a11009a1cac9b1006009a2700b804031c0c00996d00b81b
theorem hN_cX8_lie : qr_n cX8_lie.data.toList = nN_cX8_lie := by decide +kernel
theorem hn_cX8_lie : cX8_lie.size = 49 := by decide +kernel
theorem dX8_lie_0 : decode cX8_lie 0 = .ok (.iload_n 1, 1) := qr_o27 hN_cX8_lie hn_cX8_lie rfl rfl
theorem dX8_lie_1 : decode cX8_lie 1 = .ok (.invokestatic 109, 3) := qr_o184 0 109 hN_cX8_lie hn_cX8_lie rfl rfl rfl rfl
theorem dX8_lie_4 : decode cX8_lie 4 = .ok (.ifCond .eq 12, 3) := qr_o153 0 12 rfl hN_cX8_lie hn_cX8_lie rfl rfl rfl rfl
theorem dX8_lie_7 : decode cX8_lie 7 = .ok (.iload_n 2, 1) := qr_o28 hN_cX8_lie hn_cX8_lie rfl rfl
theorem dX8_lie_8 : decode cX8_lie 8 = .ok (.iconst 0, 1) := qr_o3 hN_cX8_lie hn_cX8_lie rfl rfl
theorem dX8_lie_9 : decode cX8_lie 9 = .ok (.iconst 1, 1) := qr_o4 hN_cX8_lie hn_cX8_lie rfl rfl
theorem dX8_lie_10 : decode cX8_lie 10 = .ok (.invokestatic 39, 3) := qr_o184 0 39 hN_cX8_lie hn_cX8_lie rfl rfl rfl rfl
theorem dX8_lie_13 : decode cX8_lie 13 = .ok (.ifCond .ne 6, 3) := qr_o154 0 6 rfl hN_cX8_lie hn_cX8_lie rfl rfl rfl rfl
theorem dX8_lie_16 : decode cX8_lie 16 = .ok (.bipush (-101), 2) := qr_w16 155 101 rfl rfl hN_cX8_lie hn_cX8_lie rfl rfl rfl
theorem dX8_lie_18 : decode cX8_lie 18 = .ok (.ireturn, 1) := qr_o172 hN_cX8_lie hn_cX8_lie rfl rfl
theorem dX8_lie_19 : decode cX8_lie 19 = .ok (.iload_n 2, 1) := qr_o28 hN_cX8_lie hn_cX8_lie rfl rfl
theorem dX8_lie_20 : decode cX8_lie 20 = .ok (.ifCond .ne 17, 3) := qr_o154 0 17 rfl hN_cX8_lie hn_cX8_lie rfl rfl rfl rfl
theorem dX8_lie_23 : decode cX8_lie 23 = .ok (.aload_n 0, 1) := qr_o42 hN_cX8_lie hn_cX8_lie rfl rfl
theorem dX8_lie_24 : decode cX8_lie 24 = .ok (.getfield 19, 3) := qr_o180 0 19 hN_cX8_lie hn_cX8_lie rfl rfl rfl rfl
theorem dX8_lie_27 : decode cX8_lie 27 = .ok (.getfield 115, 3) := qr_o180 0 115 hN_cX8_lie hn_cX8_lie rfl rfl rfl rfl
theorem dX8_lie_30 : decode cX8_lie 30 = .ok (.iload_n 1, 1) := qr_o27 hN_cX8_lie hn_cX8_lie rfl rfl
theorem dX8_lie_31 : decode cX8_lie 31 = .ok (.invokevirtual 128, 3) := qr_o182 0 128 hN_cX8_lie hn_cX8_lie rfl rfl rfl rfl
theorem dX8_lie_34 : decode cX8_lie 34 = .ok (.goto 14, 3) := qr_o167 0 14 rfl hN_cX8_lie hn_cX8_lie rfl rfl rfl rfl
theorem dX8_lie_37 : decode cX8_lie 37 = .ok (.aload_n 0, 1) := qr_o42 hN_cX8_lie hn_cX8_lie rfl rfl
theorem dX8_lie_38 : decode cX8_lie 38 = .ok (.getfield 19, 3) := qr_o180 0 19 hN_cX8_lie hn_cX8_lie rfl rfl rfl rfl
theorem dX8_lie_41 : decode cX8_lie 41 = .ok (.getfield 115, 3) := qr_o180 0 115 hN_cX8_lie hn_cX8_lie rfl rfl rfl rfl
theorem dX8_lie_44 : decode cX8_lie 44 = .ok (.iload_n 1, 1) := qr_o27 hN_cX8_lie hn_cX8_lie rfl rfl
theorem dX8_lie_45 : decode cX8_lie 45 = .ok (.invokevirtual 131, 3) := qr_o182 0 131 hN_cX8_lie hn_cX8_lie rfl rfl rfl rfl
theorem dX8_lie_48 : decode cX8_lie 48 = .ok (.ireturn, 1) := qr_o172 hN_cX8_lie hn_cX8_lie rfl rfl
def nN_cX8_quarrel : Nat := 0xac030400a7040700998600b47300b41300b42a
theorem hN_cX8_quarrel : qr_n cX8_quarrel.data.toList = nN_cX8_quarrel := by decide +kernel
theorem hn_cX8_quarrel : cX8_quarrel.size = 19 := by decide +kernel
theorem dX8_quarrel_0 : decode cX8_quarrel 0 = .ok (.aload_n 0, 1) := qr_o42 hN_cX8_quarrel hn_cX8_quarrel rfl rfl
theorem dX8_quarrel_1 : decode cX8_quarrel 1 = .ok (.getfield 19, 3) := qr_o180 0 19 hN_cX8_quarrel hn_cX8_quarrel rfl rfl rfl rfl
theorem dX8_quarrel_4 : decode cX8_quarrel 4 = .ok (.getfield 115, 3) := qr_o180 0 115 hN_cX8_quarrel hn_cX8_quarrel rfl rfl rfl rfl
theorem dX8_quarrel_7 : decode cX8_quarrel 7 = .ok (.getfield 134, 3) := qr_o180 0 134 hN_cX8_quarrel hn_cX8_quarrel rfl rfl rfl rfl
theorem dX8_quarrel_10 : decode cX8_quarrel 10 = .ok (.ifCond .eq 7, 3) := qr_o153 0 7 rfl hN_cX8_quarrel hn_cX8_quarrel rfl rfl rfl rfl
theorem dX8_quarrel_13 : decode cX8_quarrel 13 = .ok (.iconst 1, 1) := qr_o4 hN_cX8_quarrel hn_cX8_quarrel rfl rfl
theorem dX8_quarrel_14 : decode cX8_quarrel 14 = .ok (.goto 4, 3) := qr_o167 0 4 rfl hN_cX8_quarrel hn_cX8_quarrel rfl rfl rfl rfl
theorem dX8_quarrel_17 : decode cX8_quarrel 17 = .ok (.iconst 0, 1) := qr_o3 hN_cX8_quarrel hn_cX8_quarrel rfl rfl
theorem dX8_quarrel_18 : decode cX8_quarrel 18 = .ok (.ireturn, 1) := qr_o172 hN_cX8_quarrel hn_cX8_quarrel rfl rfl
def nN_cX8_fits : Nat := 0xac8a00b61d1c04191300b42aac0205009a2700b805031d0c00997000b81c1300c60419043a6000b61b1300b42a
theorem hN_cX8_fits : qr_n cX8_fits.data.toList = nN_cX8_fits := by decide +kernel
theorem hn_cX8_fits : cX8_fits.size = 45 := by decide +kernel
theorem dX8_fits_0 : decode cX8_fits 0 = .ok (.aload_n 0, 1) := qr_o42 hN_cX8_fits hn_cX8_fits rfl rfl
theorem dX8_fits_1 : decode cX8_fits 1 = .ok (.getfield 19, 3) := qr_o180 0 19 hN_cX8_fits hn_cX8_fits rfl rfl rfl rfl
theorem dX8_fits_4 : decode cX8_fits 4 = .ok (.iload_n 1, 1) := qr_o27 hN_cX8_fits hn_cX8_fits rfl rfl
theorem dX8_fits_5 : decode cX8_fits 5 = .ok (.invokevirtual 96, 3) := qr_o182 0 96 hN_cX8_fits hn_cX8_fits rfl rfl rfl rfl
theorem dX8_fits_8 : decode cX8_fits 8 = .ok (.astore 4, 2) := qr_o58 4 hN_cX8_fits hn_cX8_fits rfl rfl rfl
theorem dX8_fits_10 : decode cX8_fits 10 = .ok (.aload 4, 2) := qr_o25 4 hN_cX8_fits hn_cX8_fits rfl rfl rfl
theorem dX8_fits_12 : decode cX8_fits 12 = .ok (.ifnull 19, 3) := qr_o198 0 19 rfl hN_cX8_fits hn_cX8_fits rfl rfl rfl rfl
theorem dX8_fits_15 : decode cX8_fits 15 = .ok (.iload_n 2, 1) := qr_o28 hN_cX8_fits hn_cX8_fits rfl rfl
theorem dX8_fits_16 : decode cX8_fits 16 = .ok (.invokestatic 112, 3) := qr_o184 0 112 hN_cX8_fits hn_cX8_fits rfl rfl rfl rfl
theorem dX8_fits_19 : decode cX8_fits 19 = .ok (.ifCond .eq 12, 3) := qr_o153 0 12 rfl hN_cX8_fits hn_cX8_fits rfl rfl rfl rfl
theorem dX8_fits_22 : decode cX8_fits 22 = .ok (.iload_n 3, 1) := qr_o29 hN_cX8_fits hn_cX8_fits rfl rfl
theorem dX8_fits_23 : decode cX8_fits 23 = .ok (.iconst 0, 1) := qr_o3 hN_cX8_fits hn_cX8_fits rfl rfl
theorem dX8_fits_24 : decode cX8_fits 24 = .ok (.iconst 2, 1) := qr_o5 hN_cX8_fits hn_cX8_fits rfl rfl
theorem dX8_fits_25 : decode cX8_fits 25 = .ok (.invokestatic 39, 3) := qr_o184 0 39 hN_cX8_fits hn_cX8_fits rfl rfl rfl rfl
theorem dX8_fits_28 : decode cX8_fits 28 = .ok (.ifCond .ne 5, 3) := qr_o154 0 5 rfl hN_cX8_fits hn_cX8_fits rfl rfl rfl rfl
theorem dX8_fits_31 : decode cX8_fits 31 = .ok (.iconst (-1), 1) := qr_o2 hN_cX8_fits hn_cX8_fits rfl rfl
theorem dX8_fits_32 : decode cX8_fits 32 = .ok (.ireturn, 1) := qr_o172 hN_cX8_fits hn_cX8_fits rfl rfl
theorem dX8_fits_33 : decode cX8_fits 33 = .ok (.aload_n 0, 1) := qr_o42 hN_cX8_fits hn_cX8_fits rfl rfl
theorem dX8_fits_34 : decode cX8_fits 34 = .ok (.getfield 19, 3) := qr_o180 0 19 hN_cX8_fits hn_cX8_fits rfl rfl rfl rfl
theorem dX8_fits_37 : decode cX8_fits 37 = .ok (.aload 4, 2) := qr_o25 4 hN_cX8_fits hn_cX8_fits rfl rfl rfl
theorem dX8_fits_39 : decode cX8_fits 39 = .ok (.iload_n 2, 1) := qr_o28 hN_cX8_fits hn_cX8_fits rfl rfl
theorem dX8_fits_40 : decode cX8_fits 40 = .ok (.iload_n 3, 1) := qr_o29 hN_cX8_fits hn_cX8_fits rfl rfl
theorem dX8_fits_41 : decode cX8_fits 41 = .ok (.invokevirtual 138, 3) := qr_o182 0 138 hN_cX8_fits hn_cX8_fits rfl rfl rfl rfl
theorem dX8_fits_44 : decode cX8_fits 44 = .ok (.ireturn, 1) := qr_o172 hN_cX8_fits hn_cX8_fits rfl rfl
def nN_cX8_book : Nat := 0xac64049900b41300b42a9500b60615051504151d1c1b1300b42aacfd1006009a9200b6041300b42aac0205009a8e00b80615051504151d1c1b
theorem hN_cX8_book : qr_n cX8_book.data.toList = nN_cX8_book := by decide +kernel
theorem hn_cX8_book : cX8_book.size = 57 := by decide +kernel
theorem dX8_book_0 : decode cX8_book 0 = .ok (.iload_n 1, 1) := qr_o27 hN_cX8_book hn_cX8_book rfl rfl
theorem dX8_book_1 : decode cX8_book 1 = .ok (.iload_n 2, 1) := qr_o28 hN_cX8_book hn_cX8_book rfl rfl
theorem dX8_book_2 : decode cX8_book 2 = .ok (.iload_n 3, 1) := qr_o29 hN_cX8_book hn_cX8_book rfl rfl
theorem dX8_book_3 : decode cX8_book 3 = .ok (.iload 4, 2) := qr_o21 4 hN_cX8_book hn_cX8_book rfl rfl rfl
theorem dX8_book_5 : decode cX8_book 5 = .ok (.iload 5, 2) := qr_o21 5 hN_cX8_book hn_cX8_book rfl rfl rfl
theorem dX8_book_7 : decode cX8_book 7 = .ok (.iload 6, 2) := qr_o21 6 hN_cX8_book hn_cX8_book rfl rfl rfl
theorem dX8_book_9 : decode cX8_book 9 = .ok (.invokestatic 142, 3) := qr_o184 0 142 hN_cX8_book hn_cX8_book rfl rfl rfl rfl
theorem dX8_book_12 : decode cX8_book 12 = .ok (.ifCond .ne 5, 3) := qr_o154 0 5 rfl hN_cX8_book hn_cX8_book rfl rfl rfl rfl
theorem dX8_book_15 : decode cX8_book 15 = .ok (.iconst (-1), 1) := qr_o2 hN_cX8_book hn_cX8_book rfl rfl
theorem dX8_book_16 : decode cX8_book 16 = .ok (.ireturn, 1) := qr_o172 hN_cX8_book hn_cX8_book rfl rfl
theorem dX8_book_17 : decode cX8_book 17 = .ok (.aload_n 0, 1) := qr_o42 hN_cX8_book hn_cX8_book rfl rfl
theorem dX8_book_18 : decode cX8_book 18 = .ok (.getfield 19, 3) := qr_o180 0 19 hN_cX8_book hn_cX8_book rfl rfl rfl rfl
theorem dX8_book_21 : decode cX8_book 21 = .ok (.iconst 1, 1) := qr_o4 hN_cX8_book hn_cX8_book rfl rfl
theorem dX8_book_22 : decode cX8_book 22 = .ok (.invokevirtual 146, 3) := qr_o182 0 146 hN_cX8_book hn_cX8_book rfl rfl rfl rfl
theorem dX8_book_25 : decode cX8_book 25 = .ok (.ifCond .ne 6, 3) := qr_o154 0 6 rfl hN_cX8_book hn_cX8_book rfl rfl rfl rfl
theorem dX8_book_28 : decode cX8_book 28 = .ok (.bipush (-3), 2) := qr_w16 253 3 rfl rfl hN_cX8_book hn_cX8_book rfl rfl rfl
theorem dX8_book_30 : decode cX8_book 30 = .ok (.ireturn, 1) := qr_o172 hN_cX8_book hn_cX8_book rfl rfl
theorem dX8_book_31 : decode cX8_book 31 = .ok (.aload_n 0, 1) := qr_o42 hN_cX8_book hn_cX8_book rfl rfl
theorem dX8_book_32 : decode cX8_book 32 = .ok (.getfield 19, 3) := qr_o180 0 19 hN_cX8_book hn_cX8_book rfl rfl rfl rfl
theorem dX8_book_35 : decode cX8_book 35 = .ok (.iload_n 1, 1) := qr_o27 hN_cX8_book hn_cX8_book rfl rfl
theorem dX8_book_36 : decode cX8_book 36 = .ok (.iload_n 2, 1) := qr_o28 hN_cX8_book hn_cX8_book rfl rfl
theorem dX8_book_37 : decode cX8_book 37 = .ok (.iload_n 3, 1) := qr_o29 hN_cX8_book hn_cX8_book rfl rfl
theorem dX8_book_38 : decode cX8_book 38 = .ok (.iload 4, 2) := qr_o21 4 hN_cX8_book hn_cX8_book rfl rfl rfl
theorem dX8_book_40 : decode cX8_book 40 = .ok (.iload 5, 2) := qr_o21 5 hN_cX8_book hn_cX8_book rfl rfl rfl
theorem dX8_book_42 : decode cX8_book 42 = .ok (.iload 6, 2) := qr_o21 6 hN_cX8_book hn_cX8_book rfl rfl rfl
theorem dX8_book_44 : decode cX8_book 44 = .ok (.invokevirtual 149, 3) := qr_o182 0 149 hN_cX8_book hn_cX8_book rfl rfl rfl rfl
theorem dX8_book_47 : decode cX8_book 47 = .ok (.aload_n 0, 1) := qr_o42 hN_cX8_book hn_cX8_book rfl rfl
theorem dX8_book_48 : decode cX8_book 48 = .ok (.getfield 19, 3) := qr_o180 0 19 hN_cX8_book hn_cX8_book rfl rfl rfl rfl
theorem dX8_book_51 : decode cX8_book 51 = .ok (.getfield 153, 3) := qr_o180 0 153 hN_cX8_book hn_cX8_book rfl rfl rfl rfl
theorem dX8_book_54 : decode cX8_book 54 = .ok (.iconst 1, 1) := qr_o4 hN_cX8_book hn_cX8_book rfl rfl
theorem dX8_book_55 : decode cX8_book 55 = .ok (.isub, 1) := qr_o100 hN_cX8_book hn_cX8_book rfl rfl
theorem dX8_book_56 : decode cX8_book 56 = .ok (.ireturn, 1) := qr_o172 hN_cX8_book hn_cX8_book rfl rfl
def nN_cX8_off : Nat := 0xac04b200b5012daf00b51c2dacfe10060099ac00b62d0a009aa800b62dac020500a2a300b42d1c0b0099a000b81c1200c62d4e9c00b61b1300b42a
theorem hN_cX8_off : qr_n cX8_off.data.toList = nN_cX8_off := by decide +kernel
theorem hn_cX8_off : cX8_off.size = 59 := by decide +kernel
theorem dX8_off_0 : decode cX8_off 0 = .ok (.aload_n 0, 1) := qr_o42 hN_cX8_off hn_cX8_off rfl rfl
theorem dX8_off_1 : decode cX8_off 1 = .ok (.getfield 19, 3) := qr_o180 0 19 hN_cX8_off hn_cX8_off rfl rfl rfl rfl
theorem dX8_off_4 : decode cX8_off 4 = .ok (.iload_n 1, 1) := qr_o27 hN_cX8_off hn_cX8_off rfl rfl
theorem dX8_off_5 : decode cX8_off 5 = .ok (.invokevirtual 156, 3) := qr_o182 0 156 hN_cX8_off hn_cX8_off rfl rfl rfl rfl
theorem dX8_off_8 : decode cX8_off 8 = .ok (.astore_n 3, 1) := qr_o78 hN_cX8_off hn_cX8_off rfl rfl
theorem dX8_off_9 : decode cX8_off 9 = .ok (.aload_n 3, 1) := qr_o45 hN_cX8_off hn_cX8_off rfl rfl
theorem dX8_off_10 : decode cX8_off 10 = .ok (.ifnull 18, 3) := qr_o198 0 18 rfl hN_cX8_off hn_cX8_off rfl rfl rfl rfl
theorem dX8_off_13 : decode cX8_off 13 = .ok (.iload_n 2, 1) := qr_o28 hN_cX8_off hn_cX8_off rfl rfl
theorem dX8_off_14 : decode cX8_off 14 = .ok (.invokestatic 160, 3) := qr_o184 0 160 hN_cX8_off hn_cX8_off rfl rfl rfl rfl
theorem dX8_off_17 : decode cX8_off 17 = .ok (.ifCond .eq 11, 3) := qr_o153 0 11 rfl hN_cX8_off hn_cX8_off rfl rfl rfl rfl
theorem dX8_off_20 : decode cX8_off 20 = .ok (.iload_n 2, 1) := qr_o28 hN_cX8_off hn_cX8_off rfl rfl
theorem dX8_off_21 : decode cX8_off 21 = .ok (.aload_n 3, 1) := qr_o45 hN_cX8_off hn_cX8_off rfl rfl
theorem dX8_off_22 : decode cX8_off 22 = .ok (.getfield 163, 3) := qr_o180 0 163 hN_cX8_off hn_cX8_off rfl rfl rfl rfl
theorem dX8_off_25 : decode cX8_off 25 = .ok (.if_icmp .ge 5, 3) := qr_o162 0 5 rfl hN_cX8_off hn_cX8_off rfl rfl rfl rfl
theorem dX8_off_28 : decode cX8_off 28 = .ok (.iconst (-1), 1) := qr_o2 hN_cX8_off hn_cX8_off rfl rfl
theorem dX8_off_29 : decode cX8_off 29 = .ok (.ireturn, 1) := qr_o172 hN_cX8_off hn_cX8_off rfl rfl
theorem dX8_off_30 : decode cX8_off 30 = .ok (.aload_n 3, 1) := qr_o45 hN_cX8_off hn_cX8_off rfl rfl
theorem dX8_off_31 : decode cX8_off 31 = .ok (.invokevirtual 168, 3) := qr_o182 0 168 hN_cX8_off hn_cX8_off rfl rfl rfl rfl
theorem dX8_off_34 : decode cX8_off 34 = .ok (.ifCond .ne 10, 3) := qr_o154 0 10 rfl hN_cX8_off hn_cX8_off rfl rfl rfl rfl
theorem dX8_off_37 : decode cX8_off 37 = .ok (.aload_n 3, 1) := qr_o45 hN_cX8_off hn_cX8_off rfl rfl
theorem dX8_off_38 : decode cX8_off 38 = .ok (.invokevirtual 172, 3) := qr_o182 0 172 hN_cX8_off hn_cX8_off rfl rfl rfl rfl
theorem dX8_off_41 : decode cX8_off 41 = .ok (.ifCond .eq 6, 3) := qr_o153 0 6 rfl hN_cX8_off hn_cX8_off rfl rfl rfl rfl
theorem dX8_off_44 : decode cX8_off 44 = .ok (.bipush (-2), 2) := qr_w16 254 2 rfl rfl hN_cX8_off hn_cX8_off rfl rfl rfl
theorem dX8_off_46 : decode cX8_off 46 = .ok (.ireturn, 1) := qr_o172 hN_cX8_off hn_cX8_off rfl rfl
theorem dX8_off_47 : decode cX8_off 47 = .ok (.aload_n 3, 1) := qr_o45 hN_cX8_off hn_cX8_off rfl rfl
theorem dX8_off_48 : decode cX8_off 48 = .ok (.iload_n 2, 1) := qr_o28 hN_cX8_off hn_cX8_off rfl rfl
theorem dX8_off_49 : decode cX8_off 49 = .ok (.putfield 175, 3) := qr_o181 0 175 hN_cX8_off hn_cX8_off rfl rfl rfl rfl
theorem dX8_off_52 : decode cX8_off 52 = .ok (.aload_n 3, 1) := qr_o45 hN_cX8_off hn_cX8_off rfl rfl
theorem dX8_off_53 : decode cX8_off 53 = .ok (.aconst_null, 1) := qr_o1 hN_cX8_off hn_cX8_off rfl rfl
theorem dX8_off_54 : decode cX8_off 54 = .ok (.putfield 178, 3) := qr_o181 0 178 hN_cX8_off hn_cX8_off rfl rfl rfl rfl
theorem dX8_off_57 : decode cX8_off 57 = .ok (.iconst 1, 1) := qr_o4 hN_cX8_off hn_cX8_off rfl rfl
theorem dX8_off_58 : decode cX8_off 58 = .ok (.ireturn, 1) := qr_o172 hN_cX8_off hn_cX8_off rfl rfl
def nN_cX8_give : Nat := 0xacbd00b62cb200b5b900b6022c1300b42a2cacfe1006009ab600b62cac020500c72c4d9c00b61b1300b42a
theorem hN_cX8_give : qr_n cX8_give.data.toList = nN_cX8_give := by decide +kernel
theorem hn_cX8_give : cX8_give.size = 43 := by decide +kernel
theorem dX8_give_0 : decode cX8_give 0 = .ok (.aload_n 0, 1) := qr_o42 hN_cX8_give hn_cX8_give rfl rfl
theorem dX8_give_1 : decode cX8_give 1 = .ok (.getfield 19, 3) := qr_o180 0 19 hN_cX8_give hn_cX8_give rfl rfl rfl rfl
theorem dX8_give_4 : decode cX8_give 4 = .ok (.iload_n 1, 1) := qr_o27 hN_cX8_give hn_cX8_give rfl rfl
theorem dX8_give_5 : decode cX8_give 5 = .ok (.invokevirtual 156, 3) := qr_o182 0 156 hN_cX8_give hn_cX8_give rfl rfl rfl rfl
theorem dX8_give_8 : decode cX8_give 8 = .ok (.astore_n 2, 1) := qr_o77 hN_cX8_give hn_cX8_give rfl rfl
theorem dX8_give_9 : decode cX8_give 9 = .ok (.aload_n 2, 1) := qr_o44 hN_cX8_give hn_cX8_give rfl rfl
theorem dX8_give_10 : decode cX8_give 10 = .ok (.ifnonnull 5, 3) := qr_o199 0 5 rfl hN_cX8_give hn_cX8_give rfl rfl rfl rfl
theorem dX8_give_13 : decode cX8_give 13 = .ok (.iconst (-1), 1) := qr_o2 hN_cX8_give hn_cX8_give rfl rfl
theorem dX8_give_14 : decode cX8_give 14 = .ok (.ireturn, 1) := qr_o172 hN_cX8_give hn_cX8_give rfl rfl
theorem dX8_give_15 : decode cX8_give 15 = .ok (.aload_n 2, 1) := qr_o44 hN_cX8_give hn_cX8_give rfl rfl
theorem dX8_give_16 : decode cX8_give 16 = .ok (.invokevirtual 182, 3) := qr_o182 0 182 hN_cX8_give hn_cX8_give rfl rfl rfl rfl
theorem dX8_give_19 : decode cX8_give 19 = .ok (.ifCond .ne 6, 3) := qr_o154 0 6 rfl hN_cX8_give hn_cX8_give rfl rfl rfl rfl
theorem dX8_give_22 : decode cX8_give 22 = .ok (.bipush (-2), 2) := qr_w16 254 2 rfl rfl hN_cX8_give hn_cX8_give rfl rfl rfl
theorem dX8_give_24 : decode cX8_give 24 = .ok (.ireturn, 1) := qr_o172 hN_cX8_give hn_cX8_give rfl rfl
theorem dX8_give_25 : decode cX8_give 25 = .ok (.aload_n 2, 1) := qr_o44 hN_cX8_give hn_cX8_give rfl rfl
theorem dX8_give_26 : decode cX8_give 26 = .ok (.aload_n 0, 1) := qr_o42 hN_cX8_give hn_cX8_give rfl rfl
theorem dX8_give_27 : decode cX8_give 27 = .ok (.getfield 19, 3) := qr_o180 0 19 hN_cX8_give hn_cX8_give rfl rfl rfl rfl
theorem dX8_give_30 : decode cX8_give 30 = .ok (.aload_n 2, 1) := qr_o44 hN_cX8_give hn_cX8_give rfl rfl
theorem dX8_give_31 : decode cX8_give 31 = .ok (.iconst (-1), 1) := qr_o2 hN_cX8_give hn_cX8_give rfl rfl
theorem dX8_give_32 : decode cX8_give 32 = .ok (.invokevirtual 185, 3) := qr_o182 0 185 hN_cX8_give hn_cX8_give rfl rfl rfl rfl
theorem dX8_give_35 : decode cX8_give 35 = .ok (.putfield 178, 3) := qr_o181 0 178 hN_cX8_give hn_cX8_give rfl rfl rfl rfl
theorem dX8_give_38 : decode cX8_give 38 = .ok (.aload_n 2, 1) := qr_o44 hN_cX8_give hn_cX8_give rfl rfl
theorem dX8_give_39 : decode cX8_give 39 = .ok (.invokevirtual 189, 3) := qr_o182 0 189 hN_cX8_give hn_cX8_give rfl rfl rfl rfl
theorem dX8_give_42 : decode cX8_give 42 = .ok (.ireturn, 1) := qr_o172 hN_cX8_give hn_cX8_give rfl rfl
def nN_cX8_has : Nat := 0xacbd00b62c0700a7020700c72c4d9c00b61b1300b42a
theorem hN_cX8_has : qr_n cX8_has.data.toList = nN_cX8_has := by decide +kernel
theorem hn_cX8_has : cX8_has.size = 22 := by decide +kernel
theorem dX8_has_0 : decode cX8_has 0 = .ok (.aload_n 0, 1) := qr_o42 hN_cX8_has hn_cX8_has rfl rfl
theorem dX8_has_1 : decode cX8_has 1 = .ok (.getfield 19, 3) := qr_o180 0 19 hN_cX8_has hn_cX8_has rfl rfl rfl rfl
theorem dX8_has_4 : decode cX8_has 4 = .ok (.iload_n 1, 1) := qr_o27 hN_cX8_has hn_cX8_has rfl rfl
theorem dX8_has_5 : decode cX8_has 5 = .ok (.invokevirtual 156, 3) := qr_o182 0 156 hN_cX8_has hn_cX8_has rfl rfl rfl rfl
theorem dX8_has_8 : decode cX8_has 8 = .ok (.astore_n 2, 1) := qr_o77 hN_cX8_has hn_cX8_has rfl rfl
theorem dX8_has_9 : decode cX8_has 9 = .ok (.aload_n 2, 1) := qr_o44 hN_cX8_has hn_cX8_has rfl rfl
theorem dX8_has_10 : decode cX8_has 10 = .ok (.ifnonnull 7, 3) := qr_o199 0 7 rfl hN_cX8_has hn_cX8_has rfl rfl rfl rfl
theorem dX8_has_13 : decode cX8_has 13 = .ok (.iconst (-1), 1) := qr_o2 hN_cX8_has hn_cX8_has rfl rfl
theorem dX8_has_14 : decode cX8_has 14 = .ok (.goto 7, 3) := qr_o167 0 7 rfl hN_cX8_has hn_cX8_has rfl rfl rfl rfl
theorem dX8_has_17 : decode cX8_has 17 = .ok (.aload_n 2, 1) := qr_o44 hN_cX8_has hn_cX8_has rfl rfl
theorem dX8_has_18 : decode cX8_has 18 = .ok (.invokevirtual 189, 3) := qr_o182 0 189 hN_cX8_has hn_cX8_has rfl rfl rfl rfl
theorem dX8_has_21 : decode cX8_has 21 = .ok (.ireturn, 1) := qr_o172 hN_cX8_has hn_cX8_has rfl rfl
def nN_cX8_free : Nat := 0xac030400a704070099c100b604192d1300b42aac020500c704190800c62d043a9c00b61c1300b42a4e6000b61b1300b42a
theorem hN_cX8_free : qr_n cX8_free.data.toList = nN_cX8_free := by decide +kernel
theorem hn_cX8_free : cX8_free.size = 49 := by decide +kernel
theorem dX8_free_0 : decode cX8_free 0 = .ok (.aload_n 0, 1) := qr_o42 hN_cX8_free hn_cX8_free rfl rfl
theorem dX8_free_1 : decode cX8_free 1 = .ok (.getfield 19, 3) := qr_o180 0 19 hN_cX8_free hn_cX8_free rfl rfl rfl rfl
theorem dX8_free_4 : decode cX8_free 4 = .ok (.iload_n 1, 1) := qr_o27 hN_cX8_free hn_cX8_free rfl rfl
theorem dX8_free_5 : decode cX8_free 5 = .ok (.invokevirtual 96, 3) := qr_o182 0 96 hN_cX8_free hn_cX8_free rfl rfl rfl rfl
theorem dX8_free_8 : decode cX8_free 8 = .ok (.astore_n 3, 1) := qr_o78 hN_cX8_free hn_cX8_free rfl rfl
theorem dX8_free_9 : decode cX8_free 9 = .ok (.aload_n 0, 1) := qr_o42 hN_cX8_free hn_cX8_free rfl rfl
theorem dX8_free_10 : decode cX8_free 10 = .ok (.getfield 19, 3) := qr_o180 0 19 hN_cX8_free hn_cX8_free rfl rfl rfl rfl
theorem dX8_free_13 : decode cX8_free 13 = .ok (.iload_n 2, 1) := qr_o28 hN_cX8_free hn_cX8_free rfl rfl
theorem dX8_free_14 : decode cX8_free 14 = .ok (.invokevirtual 156, 3) := qr_o182 0 156 hN_cX8_free hn_cX8_free rfl rfl rfl rfl
theorem dX8_free_17 : decode cX8_free 17 = .ok (.astore 4, 2) := qr_o58 4 hN_cX8_free hn_cX8_free rfl rfl rfl
theorem dX8_free_19 : decode cX8_free 19 = .ok (.aload_n 3, 1) := qr_o45 hN_cX8_free hn_cX8_free rfl rfl
theorem dX8_free_20 : decode cX8_free 20 = .ok (.ifnull 8, 3) := qr_o198 0 8 rfl hN_cX8_free hn_cX8_free rfl rfl rfl rfl
theorem dX8_free_23 : decode cX8_free 23 = .ok (.aload 4, 2) := qr_o25 4 hN_cX8_free hn_cX8_free rfl rfl rfl
theorem dX8_free_25 : decode cX8_free 25 = .ok (.ifnonnull 5, 3) := qr_o199 0 5 rfl hN_cX8_free hn_cX8_free rfl rfl rfl rfl
theorem dX8_free_28 : decode cX8_free 28 = .ok (.iconst (-1), 1) := qr_o2 hN_cX8_free hn_cX8_free rfl rfl
theorem dX8_free_29 : decode cX8_free 29 = .ok (.ireturn, 1) := qr_o172 hN_cX8_free hn_cX8_free rfl rfl
theorem dX8_free_30 : decode cX8_free 30 = .ok (.aload_n 0, 1) := qr_o42 hN_cX8_free hn_cX8_free rfl rfl
theorem dX8_free_31 : decode cX8_free 31 = .ok (.getfield 19, 3) := qr_o180 0 19 hN_cX8_free hn_cX8_free rfl rfl rfl rfl
theorem dX8_free_34 : decode cX8_free 34 = .ok (.aload_n 3, 1) := qr_o45 hN_cX8_free hn_cX8_free rfl rfl
theorem dX8_free_35 : decode cX8_free 35 = .ok (.aload 4, 2) := qr_o25 4 hN_cX8_free hn_cX8_free rfl rfl rfl
theorem dX8_free_37 : decode cX8_free 37 = .ok (.invokevirtual 193, 3) := qr_o182 0 193 hN_cX8_free hn_cX8_free rfl rfl rfl rfl
theorem dX8_free_40 : decode cX8_free 40 = .ok (.ifCond .eq 7, 3) := qr_o153 0 7 rfl hN_cX8_free hn_cX8_free rfl rfl rfl rfl
theorem dX8_free_43 : decode cX8_free 43 = .ok (.iconst 1, 1) := qr_o4 hN_cX8_free hn_cX8_free rfl rfl
theorem dX8_free_44 : decode cX8_free 44 = .ok (.goto 4, 3) := qr_o167 0 4 rfl hN_cX8_free hn_cX8_free rfl rfl rfl rfl
theorem dX8_free_47 : decode cX8_free 47 = .ok (.iconst 0, 1) := qr_o3 hN_cX8_free hn_cX8_free rfl rfl
theorem dX8_free_48 : decode cX8_free 48 = .ok (.ireturn, 1) := qr_o172 hN_cX8_free hn_cX8_free rfl rfl
def nN_cX8_away : Nat := 0xacc900b6051904191300b42a0e00a7c500b6051904191300b42a11009a1dac0205009a2700b804031d0c00c605191100c60419053a9c00b61c1300b42a043a6000b61b1300b42a
theorem hN_cX8_away : qr_n cX8_away.data.toList = nN_cX8_away := by decide +kernel
theorem hn_cX8_away : cX8_away.size = 71 := by decide +kernel
theorem dX8_away_0 : decode cX8_away 0 = .ok (.aload_n 0, 1) := qr_o42 hN_cX8_away hn_cX8_away rfl rfl
theorem dX8_away_1 : decode cX8_away 1 = .ok (.getfield 19, 3) := qr_o180 0 19 hN_cX8_away hn_cX8_away rfl rfl rfl rfl
theorem dX8_away_4 : decode cX8_away 4 = .ok (.iload_n 1, 1) := qr_o27 hN_cX8_away hn_cX8_away rfl rfl
theorem dX8_away_5 : decode cX8_away 5 = .ok (.invokevirtual 96, 3) := qr_o182 0 96 hN_cX8_away hn_cX8_away rfl rfl rfl rfl
theorem dX8_away_8 : decode cX8_away 8 = .ok (.astore 4, 2) := qr_o58 4 hN_cX8_away hn_cX8_away rfl rfl rfl
theorem dX8_away_10 : decode cX8_away 10 = .ok (.aload_n 0, 1) := qr_o42 hN_cX8_away hn_cX8_away rfl rfl
theorem dX8_away_11 : decode cX8_away 11 = .ok (.getfield 19, 3) := qr_o180 0 19 hN_cX8_away hn_cX8_away rfl rfl rfl rfl
theorem dX8_away_14 : decode cX8_away 14 = .ok (.iload_n 2, 1) := qr_o28 hN_cX8_away hn_cX8_away rfl rfl
theorem dX8_away_15 : decode cX8_away 15 = .ok (.invokevirtual 156, 3) := qr_o182 0 156 hN_cX8_away hn_cX8_away rfl rfl rfl rfl
theorem dX8_away_18 : decode cX8_away 18 = .ok (.astore 5, 2) := qr_o58 5 hN_cX8_away hn_cX8_away rfl rfl rfl
theorem dX8_away_20 : decode cX8_away 20 = .ok (.aload 4, 2) := qr_o25 4 hN_cX8_away hn_cX8_away rfl rfl rfl
theorem dX8_away_22 : decode cX8_away 22 = .ok (.ifnull 17, 3) := qr_o198 0 17 rfl hN_cX8_away hn_cX8_away rfl rfl rfl rfl
theorem dX8_away_25 : decode cX8_away 25 = .ok (.aload 5, 2) := qr_o25 5 hN_cX8_away hn_cX8_away rfl rfl rfl
theorem dX8_away_27 : decode cX8_away 27 = .ok (.ifnull 12, 3) := qr_o198 0 12 rfl hN_cX8_away hn_cX8_away rfl rfl rfl rfl
theorem dX8_away_30 : decode cX8_away 30 = .ok (.iload_n 3, 1) := qr_o29 hN_cX8_away hn_cX8_away rfl rfl
theorem dX8_away_31 : decode cX8_away 31 = .ok (.iconst 0, 1) := qr_o3 hN_cX8_away hn_cX8_away rfl rfl
theorem dX8_away_32 : decode cX8_away 32 = .ok (.iconst 1, 1) := qr_o4 hN_cX8_away hn_cX8_away rfl rfl
theorem dX8_away_33 : decode cX8_away 33 = .ok (.invokestatic 39, 3) := qr_o184 0 39 hN_cX8_away hn_cX8_away rfl rfl rfl rfl
theorem dX8_away_36 : decode cX8_away 36 = .ok (.ifCond .ne 5, 3) := qr_o154 0 5 rfl hN_cX8_away hn_cX8_away rfl rfl rfl rfl
theorem dX8_away_39 : decode cX8_away 39 = .ok (.iconst (-1), 1) := qr_o2 hN_cX8_away hn_cX8_away rfl rfl
theorem dX8_away_40 : decode cX8_away 40 = .ok (.ireturn, 1) := qr_o172 hN_cX8_away hn_cX8_away rfl rfl
theorem dX8_away_41 : decode cX8_away 41 = .ok (.iload_n 3, 1) := qr_o29 hN_cX8_away hn_cX8_away rfl rfl
theorem dX8_away_42 : decode cX8_away 42 = .ok (.ifCond .ne 17, 3) := qr_o154 0 17 rfl hN_cX8_away hn_cX8_away rfl rfl rfl rfl
theorem dX8_away_45 : decode cX8_away 45 = .ok (.aload_n 0, 1) := qr_o42 hN_cX8_away hn_cX8_away rfl rfl
theorem dX8_away_46 : decode cX8_away 46 = .ok (.getfield 19, 3) := qr_o180 0 19 hN_cX8_away hn_cX8_away rfl rfl rfl rfl
theorem dX8_away_49 : decode cX8_away 49 = .ok (.aload 4, 2) := qr_o25 4 hN_cX8_away hn_cX8_away rfl rfl rfl
theorem dX8_away_51 : decode cX8_away 51 = .ok (.aload 5, 2) := qr_o25 5 hN_cX8_away hn_cX8_away rfl rfl rfl
theorem dX8_away_53 : decode cX8_away 53 = .ok (.invokevirtual 197, 3) := qr_o182 0 197 hN_cX8_away hn_cX8_away rfl rfl rfl rfl
theorem dX8_away_56 : decode cX8_away 56 = .ok (.goto 14, 3) := qr_o167 0 14 rfl hN_cX8_away hn_cX8_away rfl rfl rfl rfl
theorem dX8_away_59 : decode cX8_away 59 = .ok (.aload_n 0, 1) := qr_o42 hN_cX8_away hn_cX8_away rfl rfl
theorem dX8_away_60 : decode cX8_away 60 = .ok (.getfield 19, 3) := qr_o180 0 19 hN_cX8_away hn_cX8_away rfl rfl rfl rfl
theorem dX8_away_63 : decode cX8_away 63 = .ok (.aload 4, 2) := qr_o25 4 hN_cX8_away hn_cX8_away rfl rfl rfl
theorem dX8_away_65 : decode cX8_away 65 = .ok (.aload 5, 2) := qr_o25 5 hN_cX8_away hn_cX8_away rfl rfl rfl
theorem dX8_away_67 : decode cX8_away 67 = .ok (.invokevirtual 201, 3) := qr_o182 0 201 hN_cX8_away hn_cX8_away rfl rfl rfl rfl
theorem dX8_away_70 : decode cX8_away 70 = .ok (.ireturn, 1) := qr_o172 hN_cX8_away hn_cX8_away rfl rfl
def nN_cX8_tear : Nat := 0xacd200b61c2d1300b42acf00b51c2dacfe10060099cc00b61c2dac0205009aa000b81c0a00c62d4e6000b61b1300b42a
theorem hN_cX8_tear : qr_n cX8_tear.data.toList = nN_cX8_tear := by decide +kernel
theorem hn_cX8_tear : cX8_tear.size = 48 := by decide +kernel
theorem dX8_tear_0 : decode cX8_tear 0 = .ok (.aload_n 0, 1) := qr_o42 hN_cX8_tear hn_cX8_tear rfl rfl
theorem dX8_tear_1 : decode cX8_tear 1 = .ok (.getfield 19, 3) := qr_o180 0 19 hN_cX8_tear hn_cX8_tear rfl rfl rfl rfl
theorem dX8_tear_4 : decode cX8_tear 4 = .ok (.iload_n 1, 1) := qr_o27 hN_cX8_tear hn_cX8_tear rfl rfl
theorem dX8_tear_5 : decode cX8_tear 5 = .ok (.invokevirtual 96, 3) := qr_o182 0 96 hN_cX8_tear hn_cX8_tear rfl rfl rfl rfl
theorem dX8_tear_8 : decode cX8_tear 8 = .ok (.astore_n 3, 1) := qr_o78 hN_cX8_tear hn_cX8_tear rfl rfl
theorem dX8_tear_9 : decode cX8_tear 9 = .ok (.aload_n 3, 1) := qr_o45 hN_cX8_tear hn_cX8_tear rfl rfl
theorem dX8_tear_10 : decode cX8_tear 10 = .ok (.ifnull 10, 3) := qr_o198 0 10 rfl hN_cX8_tear hn_cX8_tear rfl rfl rfl rfl
theorem dX8_tear_13 : decode cX8_tear 13 = .ok (.iload_n 2, 1) := qr_o28 hN_cX8_tear hn_cX8_tear rfl rfl
theorem dX8_tear_14 : decode cX8_tear 14 = .ok (.invokestatic 160, 3) := qr_o184 0 160 hN_cX8_tear hn_cX8_tear rfl rfl rfl rfl
theorem dX8_tear_17 : decode cX8_tear 17 = .ok (.ifCond .ne 5, 3) := qr_o154 0 5 rfl hN_cX8_tear hn_cX8_tear rfl rfl rfl rfl
theorem dX8_tear_20 : decode cX8_tear 20 = .ok (.iconst (-1), 1) := qr_o2 hN_cX8_tear hn_cX8_tear rfl rfl
theorem dX8_tear_21 : decode cX8_tear 21 = .ok (.ireturn, 1) := qr_o172 hN_cX8_tear hn_cX8_tear rfl rfl
theorem dX8_tear_22 : decode cX8_tear 22 = .ok (.aload_n 3, 1) := qr_o45 hN_cX8_tear hn_cX8_tear rfl rfl
theorem dX8_tear_23 : decode cX8_tear 23 = .ok (.iload_n 2, 1) := qr_o28 hN_cX8_tear hn_cX8_tear rfl rfl
theorem dX8_tear_24 : decode cX8_tear 24 = .ok (.invokevirtual 204, 3) := qr_o182 0 204 hN_cX8_tear hn_cX8_tear rfl rfl rfl rfl
theorem dX8_tear_27 : decode cX8_tear 27 = .ok (.ifCond .eq 6, 3) := qr_o153 0 6 rfl hN_cX8_tear hn_cX8_tear rfl rfl rfl rfl
theorem dX8_tear_30 : decode cX8_tear 30 = .ok (.bipush (-2), 2) := qr_w16 254 2 rfl rfl hN_cX8_tear hn_cX8_tear rfl rfl rfl
theorem dX8_tear_32 : decode cX8_tear 32 = .ok (.ireturn, 1) := qr_o172 hN_cX8_tear hn_cX8_tear rfl rfl
theorem dX8_tear_33 : decode cX8_tear 33 = .ok (.aload_n 3, 1) := qr_o45 hN_cX8_tear hn_cX8_tear rfl rfl
theorem dX8_tear_34 : decode cX8_tear 34 = .ok (.iload_n 2, 1) := qr_o28 hN_cX8_tear hn_cX8_tear rfl rfl
theorem dX8_tear_35 : decode cX8_tear 35 = .ok (.putfield 207, 3) := qr_o181 0 207 hN_cX8_tear hn_cX8_tear rfl rfl rfl rfl
theorem dX8_tear_38 : decode cX8_tear 38 = .ok (.aload_n 0, 1) := qr_o42 hN_cX8_tear hn_cX8_tear rfl rfl
theorem dX8_tear_39 : decode cX8_tear 39 = .ok (.getfield 19, 3) := qr_o180 0 19 hN_cX8_tear hn_cX8_tear rfl rfl rfl rfl
theorem dX8_tear_42 : decode cX8_tear 42 = .ok (.aload_n 3, 1) := qr_o45 hN_cX8_tear hn_cX8_tear rfl rfl
theorem dX8_tear_43 : decode cX8_tear 43 = .ok (.iload_n 2, 1) := qr_o28 hN_cX8_tear hn_cX8_tear rfl rfl
theorem dX8_tear_44 : decode cX8_tear 44 = .ok (.invokevirtual 210, 3) := qr_o182 0 210 hN_cX8_tear hn_cX8_tear rfl rfl rfl rfl
theorem dX8_tear_47 : decode cX8_tear 47 = .ok (.ireturn, 1) := qr_o172 hN_cX8_tear hn_cX8_tear rfl rfl
def nN_cX8_mend : Nat := 0xac04cf00b5fc102cacfe1006009ad600b62cac020500c72c4d6000b61b1300b42a
theorem hN_cX8_mend : qr_n cX8_mend.data.toList = nN_cX8_mend := by decide +kernel
theorem hn_cX8_mend : cX8_mend.size = 33 := by decide +kernel
theorem dX8_mend_0 : decode cX8_mend 0 = .ok (.aload_n 0, 1) := qr_o42 hN_cX8_mend hn_cX8_mend rfl rfl
theorem dX8_mend_1 : decode cX8_mend 1 = .ok (.getfield 19, 3) := qr_o180 0 19 hN_cX8_mend hn_cX8_mend rfl rfl rfl rfl
theorem dX8_mend_4 : decode cX8_mend 4 = .ok (.iload_n 1, 1) := qr_o27 hN_cX8_mend hn_cX8_mend rfl rfl
theorem dX8_mend_5 : decode cX8_mend 5 = .ok (.invokevirtual 96, 3) := qr_o182 0 96 hN_cX8_mend hn_cX8_mend rfl rfl rfl rfl
theorem dX8_mend_8 : decode cX8_mend 8 = .ok (.astore_n 2, 1) := qr_o77 hN_cX8_mend hn_cX8_mend rfl rfl
theorem dX8_mend_9 : decode cX8_mend 9 = .ok (.aload_n 2, 1) := qr_o44 hN_cX8_mend hn_cX8_mend rfl rfl
theorem dX8_mend_10 : decode cX8_mend 10 = .ok (.ifnonnull 5, 3) := qr_o199 0 5 rfl hN_cX8_mend hn_cX8_mend rfl rfl rfl rfl
theorem dX8_mend_13 : decode cX8_mend 13 = .ok (.iconst (-1), 1) := qr_o2 hN_cX8_mend hn_cX8_mend rfl rfl
theorem dX8_mend_14 : decode cX8_mend 14 = .ok (.ireturn, 1) := qr_o172 hN_cX8_mend hn_cX8_mend rfl rfl
theorem dX8_mend_15 : decode cX8_mend 15 = .ok (.aload_n 2, 1) := qr_o44 hN_cX8_mend hn_cX8_mend rfl rfl
theorem dX8_mend_16 : decode cX8_mend 16 = .ok (.invokevirtual 214, 3) := qr_o182 0 214 hN_cX8_mend hn_cX8_mend rfl rfl rfl rfl
theorem dX8_mend_19 : decode cX8_mend 19 = .ok (.ifCond .ne 6, 3) := qr_o154 0 6 rfl hN_cX8_mend hn_cX8_mend rfl rfl rfl rfl
theorem dX8_mend_22 : decode cX8_mend 22 = .ok (.bipush (-2), 2) := qr_w16 254 2 rfl rfl hN_cX8_mend hn_cX8_mend rfl rfl rfl
theorem dX8_mend_24 : decode cX8_mend 24 = .ok (.ireturn, 1) := qr_o172 hN_cX8_mend hn_cX8_mend rfl rfl
theorem dX8_mend_25 : decode cX8_mend 25 = .ok (.aload_n 2, 1) := qr_o44 hN_cX8_mend hn_cX8_mend rfl rfl
theorem dX8_mend_26 : decode cX8_mend 26 = .ok (.bipush (-4), 2) := qr_w16 252 4 rfl rfl hN_cX8_mend hn_cX8_mend rfl rfl rfl
theorem dX8_mend_28 : decode cX8_mend 28 = .ok (.putfield 207, 3) := qr_o181 0 207 hN_cX8_mend hn_cX8_mend rfl rfl rfl rfl
theorem dX8_mend_31 : decode cX8_mend 31 = .ok (.iconst 1, 1) := qr_o4 hN_cX8_mend hn_cX8_mend rfl rfl
theorem dX8_mend_32 : decode cX8_mend 32 = .ok (.ireturn, 1) := qr_o172 hN_cX8_mend hn_cX8_mend rfl rfl
def nN_cX8_chain : Nat := 0xacfe100500a7d900b62c1c00b42a0e0099b600b62cac020500c72c4d9c00b61b1300b42a
theorem hN_cX8_chain : qr_n cX8_chain.data.toList = nN_cX8_chain := by decide +kernel
theorem hn_cX8_chain : cX8_chain.size = 36 := by decide +kernel
theorem dX8_chain_0 : decode cX8_chain 0 = .ok (.aload_n 0, 1) := qr_o42 hN_cX8_chain hn_cX8_chain rfl rfl
theorem dX8_chain_1 : decode cX8_chain 1 = .ok (.getfield 19, 3) := qr_o180 0 19 hN_cX8_chain hn_cX8_chain rfl rfl rfl rfl
theorem dX8_chain_4 : decode cX8_chain 4 = .ok (.iload_n 1, 1) := qr_o27 hN_cX8_chain hn_cX8_chain rfl rfl
theorem dX8_chain_5 : decode cX8_chain 5 = .ok (.invokevirtual 156, 3) := qr_o182 0 156 hN_cX8_chain hn_cX8_chain rfl rfl rfl rfl
theorem dX8_chain_8 : decode cX8_chain 8 = .ok (.astore_n 2, 1) := qr_o77 hN_cX8_chain hn_cX8_chain rfl rfl
theorem dX8_chain_9 : decode cX8_chain 9 = .ok (.aload_n 2, 1) := qr_o44 hN_cX8_chain hn_cX8_chain rfl rfl
theorem dX8_chain_10 : decode cX8_chain 10 = .ok (.ifnonnull 5, 3) := qr_o199 0 5 rfl hN_cX8_chain hn_cX8_chain rfl rfl rfl rfl
theorem dX8_chain_13 : decode cX8_chain 13 = .ok (.iconst (-1), 1) := qr_o2 hN_cX8_chain hn_cX8_chain rfl rfl
theorem dX8_chain_14 : decode cX8_chain 14 = .ok (.ireturn, 1) := qr_o172 hN_cX8_chain hn_cX8_chain rfl rfl
theorem dX8_chain_15 : decode cX8_chain 15 = .ok (.aload_n 2, 1) := qr_o44 hN_cX8_chain hn_cX8_chain rfl rfl
theorem dX8_chain_16 : decode cX8_chain 16 = .ok (.invokevirtual 182, 3) := qr_o182 0 182 hN_cX8_chain hn_cX8_chain rfl rfl rfl rfl
theorem dX8_chain_19 : decode cX8_chain 19 = .ok (.ifCond .eq 14, 3) := qr_o153 0 14 rfl hN_cX8_chain hn_cX8_chain rfl rfl rfl rfl
theorem dX8_chain_22 : decode cX8_chain 22 = .ok (.aload_n 0, 1) := qr_o42 hN_cX8_chain hn_cX8_chain rfl rfl
theorem dX8_chain_23 : decode cX8_chain 23 = .ok (.getfield 28, 3) := qr_o180 0 28 hN_cX8_chain hn_cX8_chain rfl rfl rfl rfl
theorem dX8_chain_26 : decode cX8_chain 26 = .ok (.aload_n 2, 1) := qr_o44 hN_cX8_chain hn_cX8_chain rfl rfl
theorem dX8_chain_27 : decode cX8_chain 27 = .ok (.invokevirtual 217, 3) := qr_o182 0 217 hN_cX8_chain hn_cX8_chain rfl rfl rfl rfl
theorem dX8_chain_30 : decode cX8_chain 30 = .ok (.goto 5, 3) := qr_o167 0 5 rfl hN_cX8_chain hn_cX8_chain rfl rfl rfl rfl
theorem dX8_chain_33 : decode cX8_chain 33 = .ok (.bipush (-2), 2) := qr_w16 254 2 rfl rfl hN_cX8_chain hn_cX8_chain rfl rfl rfl
theorem dX8_chain_35 : decode cX8_chain 35 = .ok (.ireturn, 1) := qr_o172 hN_cX8_chain hn_cX8_chain rfl rfl
def nN_cX8_link : Nat := 0xace200b61c1c00b42a0b00a7df00b61c1c00b42a0e009a1dac020500a104151cac041506009c04150436dd00b61b2aac0205009a2700b804031d0c009b1c
theorem hN_cX8_link : qr_n cX8_link.data.toList = nN_cX8_link := by decide +kernel
theorem hn_cX8_link : cX8_link.size = 62 := by decide +kernel
theorem dX8_link_0 : decode cX8_link 0 = .ok (.iload_n 2, 1) := qr_o28 hN_cX8_link hn_cX8_link rfl rfl
theorem dX8_link_1 : decode cX8_link 1 = .ok (.ifCond .lt 12, 3) := qr_o155 0 12 rfl hN_cX8_link hn_cX8_link rfl rfl rfl rfl
theorem dX8_link_4 : decode cX8_link 4 = .ok (.iload_n 3, 1) := qr_o29 hN_cX8_link hn_cX8_link rfl rfl
theorem dX8_link_5 : decode cX8_link 5 = .ok (.iconst 0, 1) := qr_o3 hN_cX8_link hn_cX8_link rfl rfl
theorem dX8_link_6 : decode cX8_link 6 = .ok (.iconst 1, 1) := qr_o4 hN_cX8_link hn_cX8_link rfl rfl
theorem dX8_link_7 : decode cX8_link 7 = .ok (.invokestatic 39, 3) := qr_o184 0 39 hN_cX8_link hn_cX8_link rfl rfl rfl rfl
theorem dX8_link_10 : decode cX8_link 10 = .ok (.ifCond .ne 5, 3) := qr_o154 0 5 rfl hN_cX8_link hn_cX8_link rfl rfl rfl rfl
theorem dX8_link_13 : decode cX8_link 13 = .ok (.iconst (-1), 1) := qr_o2 hN_cX8_link hn_cX8_link rfl rfl
theorem dX8_link_14 : decode cX8_link 14 = .ok (.ireturn, 1) := qr_o172 hN_cX8_link hn_cX8_link rfl rfl
theorem dX8_link_15 : decode cX8_link 15 = .ok (.aload_n 0, 1) := qr_o42 hN_cX8_link hn_cX8_link rfl rfl
theorem dX8_link_16 : decode cX8_link 16 = .ok (.iload_n 1, 1) := qr_o27 hN_cX8_link hn_cX8_link rfl rfl
theorem dX8_link_17 : decode cX8_link 17 = .ok (.invokevirtual 221, 3) := qr_o182 0 221 hN_cX8_link hn_cX8_link rfl rfl rfl rfl
theorem dX8_link_20 : decode cX8_link 20 = .ok (.istore 4, 2) := qr_o54 4 hN_cX8_link hn_cX8_link rfl rfl rfl
theorem dX8_link_22 : decode cX8_link 22 = .ok (.iload 4, 2) := qr_o21 4 hN_cX8_link hn_cX8_link rfl rfl rfl
theorem dX8_link_24 : decode cX8_link 24 = .ok (.ifCond .ge 6, 3) := qr_o156 0 6 rfl hN_cX8_link hn_cX8_link rfl rfl rfl rfl
theorem dX8_link_27 : decode cX8_link 27 = .ok (.iload 4, 2) := qr_o21 4 hN_cX8_link hn_cX8_link rfl rfl rfl
theorem dX8_link_29 : decode cX8_link 29 = .ok (.ireturn, 1) := qr_o172 hN_cX8_link hn_cX8_link rfl rfl
theorem dX8_link_30 : decode cX8_link 30 = .ok (.iload_n 2, 1) := qr_o28 hN_cX8_link hn_cX8_link rfl rfl
theorem dX8_link_31 : decode cX8_link 31 = .ok (.iload 4, 2) := qr_o21 4 hN_cX8_link hn_cX8_link rfl rfl rfl
theorem dX8_link_33 : decode cX8_link 33 = .ok (.if_icmp .lt 5, 3) := qr_o161 0 5 rfl hN_cX8_link hn_cX8_link rfl rfl rfl rfl
theorem dX8_link_36 : decode cX8_link 36 = .ok (.iconst (-1), 1) := qr_o2 hN_cX8_link hn_cX8_link rfl rfl
theorem dX8_link_37 : decode cX8_link 37 = .ok (.ireturn, 1) := qr_o172 hN_cX8_link hn_cX8_link rfl rfl
theorem dX8_link_38 : decode cX8_link 38 = .ok (.iload_n 3, 1) := qr_o29 hN_cX8_link hn_cX8_link rfl rfl
theorem dX8_link_39 : decode cX8_link 39 = .ok (.ifCond .ne 14, 3) := qr_o154 0 14 rfl hN_cX8_link hn_cX8_link rfl rfl rfl rfl
theorem dX8_link_42 : decode cX8_link 42 = .ok (.aload_n 0, 1) := qr_o42 hN_cX8_link hn_cX8_link rfl rfl
theorem dX8_link_43 : decode cX8_link 43 = .ok (.getfield 28, 3) := qr_o180 0 28 hN_cX8_link hn_cX8_link rfl rfl rfl rfl
theorem dX8_link_46 : decode cX8_link 46 = .ok (.iload_n 2, 1) := qr_o28 hN_cX8_link hn_cX8_link rfl rfl
theorem dX8_link_47 : decode cX8_link 47 = .ok (.invokevirtual 223, 3) := qr_o182 0 223 hN_cX8_link hn_cX8_link rfl rfl rfl rfl
theorem dX8_link_50 : decode cX8_link 50 = .ok (.goto 11, 3) := qr_o167 0 11 rfl hN_cX8_link hn_cX8_link rfl rfl rfl rfl
theorem dX8_link_53 : decode cX8_link 53 = .ok (.aload_n 0, 1) := qr_o42 hN_cX8_link hn_cX8_link rfl rfl
theorem dX8_link_54 : decode cX8_link 54 = .ok (.getfield 28, 3) := qr_o180 0 28 hN_cX8_link hn_cX8_link rfl rfl rfl rfl
theorem dX8_link_57 : decode cX8_link 57 = .ok (.iload_n 2, 1) := qr_o28 hN_cX8_link hn_cX8_link rfl rfl
theorem dX8_link_58 : decode cX8_link 58 = .ok (.invokevirtual 226, 3) := qr_o182 0 226 hN_cX8_link hn_cX8_link rfl rfl rfl rfl
theorem dX8_link_61 : decode cX8_link 61 = .ok (.ireturn, 1) := qr_o172 hN_cX8_link hn_cX8_link rfl rfl
def nN_cX8_swap : Nat := 0xac1ce500b61c00b42a0a009e1c3ddd00b61b2a
theorem hN_cX8_swap : qr_n cX8_swap.data.toList = nN_cX8_swap := by decide +kernel
theorem hn_cX8_swap : cX8_swap.size = 19 := by decide +kernel
theorem dX8_swap_0 : decode cX8_swap 0 = .ok (.aload_n 0, 1) := qr_o42 hN_cX8_swap hn_cX8_swap rfl rfl
theorem dX8_swap_1 : decode cX8_swap 1 = .ok (.iload_n 1, 1) := qr_o27 hN_cX8_swap hn_cX8_swap rfl rfl
theorem dX8_swap_2 : decode cX8_swap 2 = .ok (.invokevirtual 221, 3) := qr_o182 0 221 hN_cX8_swap hn_cX8_swap rfl rfl rfl rfl
theorem dX8_swap_5 : decode cX8_swap 5 = .ok (.istore_n 2, 1) := qr_o61 hN_cX8_swap hn_cX8_swap rfl rfl
theorem dX8_swap_6 : decode cX8_swap 6 = .ok (.iload_n 2, 1) := qr_o28 hN_cX8_swap hn_cX8_swap rfl rfl
theorem dX8_swap_7 : decode cX8_swap 7 = .ok (.ifCond .le 10, 3) := qr_o158 0 10 rfl hN_cX8_swap hn_cX8_swap rfl rfl rfl rfl
theorem dX8_swap_10 : decode cX8_swap 10 = .ok (.aload_n 0, 1) := qr_o42 hN_cX8_swap hn_cX8_swap rfl rfl
theorem dX8_swap_11 : decode cX8_swap 11 = .ok (.getfield 28, 3) := qr_o180 0 28 hN_cX8_swap hn_cX8_swap rfl rfl rfl rfl
theorem dX8_swap_14 : decode cX8_swap 14 = .ok (.invokevirtual 229, 3) := qr_o182 0 229 hN_cX8_swap hn_cX8_swap rfl rfl rfl rfl
theorem dX8_swap_17 : decode cX8_swap 17 = .ok (.iload_n 2, 1) := qr_o28 hN_cX8_swap hn_cX8_swap rfl rfl
theorem dX8_swap_18 : decode cX8_swap 18 = .ok (.ireturn, 1) := qr_o172 hN_cX8_swap hn_cX8_swap rfl rfl
def nN_cX8_match : Nat := 0xac05150500a7041508009a1cdbffa701068404360615053607150b00a4051507150736eb00b606151b1300b42a2400a309100615063603053602043603ac1d0500a0051cacfc1006009a1d3ee800b61b1300b42aac0205009a2700b805031c0c00992700b807031b
theorem hN_cX8_match : qr_n cX8_match.data.toList = nN_cX8_match := by decide +kernel
theorem hn_cX8_match : cX8_match.size = 104 := by decide +kernel
theorem dX8_match_0 : decode cX8_match 0 = .ok (.iload_n 1, 1) := qr_o27 hN_cX8_match hn_cX8_match rfl rfl
theorem dX8_match_1 : decode cX8_match 1 = .ok (.iconst 0, 1) := qr_o3 hN_cX8_match hn_cX8_match rfl rfl
theorem dX8_match_2 : decode cX8_match 2 = .ok (.iconst 4, 1) := qr_o7 hN_cX8_match hn_cX8_match rfl rfl
theorem dX8_match_3 : decode cX8_match 3 = .ok (.invokestatic 39, 3) := qr_o184 0 39 hN_cX8_match hn_cX8_match rfl rfl rfl rfl
theorem dX8_match_6 : decode cX8_match 6 = .ok (.ifCond .eq 12, 3) := qr_o153 0 12 rfl hN_cX8_match hn_cX8_match rfl rfl rfl rfl
theorem dX8_match_9 : decode cX8_match 9 = .ok (.iload_n 2, 1) := qr_o28 hN_cX8_match hn_cX8_match rfl rfl
theorem dX8_match_10 : decode cX8_match 10 = .ok (.iconst 0, 1) := qr_o3 hN_cX8_match hn_cX8_match rfl rfl
theorem dX8_match_11 : decode cX8_match 11 = .ok (.iconst 2, 1) := qr_o5 hN_cX8_match hn_cX8_match rfl rfl
theorem dX8_match_12 : decode cX8_match 12 = .ok (.invokestatic 39, 3) := qr_o184 0 39 hN_cX8_match hn_cX8_match rfl rfl rfl rfl
theorem dX8_match_15 : decode cX8_match 15 = .ok (.ifCond .ne 5, 3) := qr_o154 0 5 rfl hN_cX8_match hn_cX8_match rfl rfl rfl rfl
theorem dX8_match_18 : decode cX8_match 18 = .ok (.iconst (-1), 1) := qr_o2 hN_cX8_match hn_cX8_match rfl rfl
theorem dX8_match_19 : decode cX8_match 19 = .ok (.ireturn, 1) := qr_o172 hN_cX8_match hn_cX8_match rfl rfl
theorem dX8_match_20 : decode cX8_match 20 = .ok (.aload_n 0, 1) := qr_o42 hN_cX8_match hn_cX8_match rfl rfl
theorem dX8_match_21 : decode cX8_match 21 = .ok (.getfield 19, 3) := qr_o180 0 19 hN_cX8_match hn_cX8_match rfl rfl rfl rfl
theorem dX8_match_24 : decode cX8_match 24 = .ok (.iload_n 1, 1) := qr_o27 hN_cX8_match hn_cX8_match rfl rfl
theorem dX8_match_25 : decode cX8_match 25 = .ok (.invokevirtual 232, 3) := qr_o182 0 232 hN_cX8_match hn_cX8_match rfl rfl rfl rfl
theorem dX8_match_28 : decode cX8_match 28 = .ok (.istore_n 3, 1) := qr_o62 hN_cX8_match hn_cX8_match rfl rfl
theorem dX8_match_29 : decode cX8_match 29 = .ok (.iload_n 3, 1) := qr_o29 hN_cX8_match hn_cX8_match rfl rfl
theorem dX8_match_30 : decode cX8_match 30 = .ok (.ifCond .ne 6, 3) := qr_o154 0 6 rfl hN_cX8_match hn_cX8_match rfl rfl rfl rfl
theorem dX8_match_33 : decode cX8_match 33 = .ok (.bipush (-4), 2) := qr_w16 252 4 rfl rfl hN_cX8_match hn_cX8_match rfl rfl rfl
theorem dX8_match_35 : decode cX8_match 35 = .ok (.ireturn, 1) := qr_o172 hN_cX8_match hn_cX8_match rfl rfl
theorem dX8_match_36 : decode cX8_match 36 = .ok (.iload_n 2, 1) := qr_o28 hN_cX8_match hn_cX8_match rfl rfl
theorem dX8_match_37 : decode cX8_match 37 = .ok (.iconst 2, 1) := qr_o5 hN_cX8_match hn_cX8_match rfl rfl
theorem dX8_match_38 : decode cX8_match 38 = .ok (.if_icmp .ne 5, 3) := qr_o160 0 5 rfl hN_cX8_match hn_cX8_match rfl rfl rfl rfl
theorem dX8_match_41 : decode cX8_match 41 = .ok (.iload_n 3, 1) := qr_o29 hN_cX8_match hn_cX8_match rfl rfl
theorem dX8_match_42 : decode cX8_match 42 = .ok (.ireturn, 1) := qr_o172 hN_cX8_match hn_cX8_match rfl rfl
theorem dX8_match_43 : decode cX8_match 43 = .ok (.iconst 0, 1) := qr_o3 hN_cX8_match hn_cX8_match rfl rfl
theorem dX8_match_44 : decode cX8_match 44 = .ok (.istore 4, 2) := qr_o54 4 hN_cX8_match hn_cX8_match rfl rfl rfl
theorem dX8_match_46 : decode cX8_match 46 = .ok (.iconst (-1), 1) := qr_o2 hN_cX8_match hn_cX8_match rfl rfl
theorem dX8_match_47 : decode cX8_match 47 = .ok (.istore 5, 2) := qr_o54 5 hN_cX8_match hn_cX8_match rfl rfl rfl
theorem dX8_match_49 : decode cX8_match 49 = .ok (.iconst 0, 1) := qr_o3 hN_cX8_match hn_cX8_match rfl rfl
theorem dX8_match_50 : decode cX8_match 50 = .ok (.istore 6, 2) := qr_o54 6 hN_cX8_match hn_cX8_match rfl rfl rfl
theorem dX8_match_52 : decode cX8_match 52 = .ok (.iload 6, 2) := qr_o21 6 hN_cX8_match hn_cX8_match rfl rfl rfl
theorem dX8_match_54 : decode cX8_match 54 = .ok (.bipush 9, 2) := qr_o16 9 rfl hN_cX8_match hn_cX8_match rfl rfl rfl
theorem dX8_match_56 : decode cX8_match 56 = .ok (.if_icmp .gt 36, 3) := qr_o163 0 36 rfl hN_cX8_match hn_cX8_match rfl rfl rfl rfl
theorem dX8_match_59 : decode cX8_match 59 = .ok (.aload_n 0, 1) := qr_o42 hN_cX8_match hn_cX8_match rfl rfl
theorem dX8_match_60 : decode cX8_match 60 = .ok (.getfield 19, 3) := qr_o180 0 19 hN_cX8_match hn_cX8_match rfl rfl rfl rfl
theorem dX8_match_63 : decode cX8_match 63 = .ok (.iload_n 1, 1) := qr_o27 hN_cX8_match hn_cX8_match rfl rfl
theorem dX8_match_64 : decode cX8_match 64 = .ok (.iload 6, 2) := qr_o21 6 hN_cX8_match hn_cX8_match rfl rfl rfl
theorem dX8_match_66 : decode cX8_match 66 = .ok (.invokevirtual 235, 3) := qr_o182 0 235 hN_cX8_match hn_cX8_match rfl rfl rfl rfl
theorem dX8_match_69 : decode cX8_match 69 = .ok (.istore 7, 2) := qr_o54 7 hN_cX8_match hn_cX8_match rfl rfl rfl
theorem dX8_match_71 : decode cX8_match 71 = .ok (.iload 7, 2) := qr_o21 7 hN_cX8_match hn_cX8_match rfl rfl rfl
theorem dX8_match_73 : decode cX8_match 73 = .ok (.iload 5, 2) := qr_o21 5 hN_cX8_match hn_cX8_match rfl rfl rfl
theorem dX8_match_75 : decode cX8_match 75 = .ok (.if_icmp .le 11, 3) := qr_o164 0 11 rfl hN_cX8_match hn_cX8_match rfl rfl rfl rfl
theorem dX8_match_78 : decode cX8_match 78 = .ok (.iload 7, 2) := qr_o21 7 hN_cX8_match hn_cX8_match rfl rfl rfl
theorem dX8_match_80 : decode cX8_match 80 = .ok (.istore 5, 2) := qr_o54 5 hN_cX8_match hn_cX8_match rfl rfl rfl
theorem dX8_match_82 : decode cX8_match 82 = .ok (.iload 6, 2) := qr_o21 6 hN_cX8_match hn_cX8_match rfl rfl rfl
theorem dX8_match_84 : decode cX8_match 84 = .ok (.istore 4, 2) := qr_o54 4 hN_cX8_match hn_cX8_match rfl rfl rfl
theorem dX8_match_86 : decode cX8_match 86 = .ok (.iinc 6 1, 3) := qr_o132 6 1 rfl hN_cX8_match hn_cX8_match rfl rfl rfl rfl
theorem dX8_match_89 : decode cX8_match 89 = .ok (.goto (-37), 3) := qr_w167 255 219 37 rfl rfl hN_cX8_match hn_cX8_match rfl rfl rfl rfl
theorem dX8_match_92 : decode cX8_match 92 = .ok (.iload_n 2, 1) := qr_o28 hN_cX8_match hn_cX8_match rfl rfl
theorem dX8_match_93 : decode cX8_match 93 = .ok (.ifCond .ne 8, 3) := qr_o154 0 8 rfl hN_cX8_match hn_cX8_match rfl rfl rfl rfl
theorem dX8_match_96 : decode cX8_match 96 = .ok (.iload 4, 2) := qr_o21 4 hN_cX8_match hn_cX8_match rfl rfl rfl
theorem dX8_match_98 : decode cX8_match 98 = .ok (.goto 5, 3) := qr_o167 0 5 rfl hN_cX8_match hn_cX8_match rfl rfl rfl rfl
theorem dX8_match_101 : decode cX8_match 101 = .ok (.iload 5, 2) := qr_o21 5 hN_cX8_match hn_cX8_match rfl rfl rfl
theorem dX8_match_103 : decode cX8_match 103 = .ok (.ireturn, 1) := qr_o172 hN_cX8_match hn_cX8_match rfl rfl
def nN_cX8_asOf : Nat := 0xacee00b604151d1b1300b42a0e00a7ee00b67c011114101b1300b42a13009a1cac0205009a2700b804031c0c0099a000b81b
theorem hN_cX8_asOf : qr_n cX8_asOf.data.toList = nN_cX8_asOf := by decide +kernel
theorem hn_cX8_asOf : cX8_asOf.size = 50 := by decide +kernel
theorem dX8_asOf_0 : decode cX8_asOf 0 = .ok (.iload_n 1, 1) := qr_o27 hN_cX8_asOf hn_cX8_asOf rfl rfl
theorem dX8_asOf_1 : decode cX8_asOf 1 = .ok (.invokestatic 160, 3) := qr_o184 0 160 hN_cX8_asOf hn_cX8_asOf rfl rfl rfl rfl
theorem dX8_asOf_4 : decode cX8_asOf 4 = .ok (.ifCond .eq 12, 3) := qr_o153 0 12 rfl hN_cX8_asOf hn_cX8_asOf rfl rfl rfl rfl
theorem dX8_asOf_7 : decode cX8_asOf 7 = .ok (.iload_n 2, 1) := qr_o28 hN_cX8_asOf hn_cX8_asOf rfl rfl
theorem dX8_asOf_8 : decode cX8_asOf 8 = .ok (.iconst 0, 1) := qr_o3 hN_cX8_asOf hn_cX8_asOf rfl rfl
theorem dX8_asOf_9 : decode cX8_asOf 9 = .ok (.iconst 1, 1) := qr_o4 hN_cX8_asOf hn_cX8_asOf rfl rfl
theorem dX8_asOf_10 : decode cX8_asOf 10 = .ok (.invokestatic 39, 3) := qr_o184 0 39 hN_cX8_asOf hn_cX8_asOf rfl rfl rfl rfl
theorem dX8_asOf_13 : decode cX8_asOf 13 = .ok (.ifCond .ne 5, 3) := qr_o154 0 5 rfl hN_cX8_asOf hn_cX8_asOf rfl rfl rfl rfl
theorem dX8_asOf_16 : decode cX8_asOf 16 = .ok (.iconst (-1), 1) := qr_o2 hN_cX8_asOf hn_cX8_asOf rfl rfl
theorem dX8_asOf_17 : decode cX8_asOf 17 = .ok (.ireturn, 1) := qr_o172 hN_cX8_asOf hn_cX8_asOf rfl rfl
theorem dX8_asOf_18 : decode cX8_asOf 18 = .ok (.iload_n 2, 1) := qr_o28 hN_cX8_asOf hn_cX8_asOf rfl rfl
theorem dX8_asOf_19 : decode cX8_asOf 19 = .ok (.ifCond .ne 19, 3) := qr_o154 0 19 rfl hN_cX8_asOf hn_cX8_asOf rfl rfl rfl rfl
theorem dX8_asOf_22 : decode cX8_asOf 22 = .ok (.aload_n 0, 1) := qr_o42 hN_cX8_asOf hn_cX8_asOf rfl rfl
theorem dX8_asOf_23 : decode cX8_asOf 23 = .ok (.getfield 19, 3) := qr_o180 0 19 hN_cX8_asOf hn_cX8_asOf rfl rfl rfl rfl
theorem dX8_asOf_26 : decode cX8_asOf 26 = .ok (.iload_n 1, 1) := qr_o27 hN_cX8_asOf hn_cX8_asOf rfl rfl
theorem dX8_asOf_27 : decode cX8_asOf 27 = .ok (.bipush 20, 2) := qr_o16 20 rfl hN_cX8_asOf hn_cX8_asOf rfl rfl rfl
theorem dX8_asOf_29 : decode cX8_asOf 29 = .ok (.sipush 380, 3) := qr_o17 1 124 rfl hN_cX8_asOf hn_cX8_asOf rfl rfl rfl rfl
theorem dX8_asOf_32 : decode cX8_asOf 32 = .ok (.invokevirtual 238, 3) := qr_o182 0 238 hN_cX8_asOf hn_cX8_asOf rfl rfl rfl rfl
theorem dX8_asOf_35 : decode cX8_asOf 35 = .ok (.goto 14, 3) := qr_o167 0 14 rfl hN_cX8_asOf hn_cX8_asOf rfl rfl rfl rfl
theorem dX8_asOf_38 : decode cX8_asOf 38 = .ok (.aload_n 0, 1) := qr_o42 hN_cX8_asOf hn_cX8_asOf rfl rfl
theorem dX8_asOf_39 : decode cX8_asOf 39 = .ok (.getfield 19, 3) := qr_o180 0 19 hN_cX8_asOf hn_cX8_asOf rfl rfl rfl rfl
theorem dX8_asOf_42 : decode cX8_asOf 42 = .ok (.iload_n 1, 1) := qr_o27 hN_cX8_asOf hn_cX8_asOf rfl rfl
theorem dX8_asOf_43 : decode cX8_asOf 43 = .ok (.iload_n 3, 1) := qr_o29 hN_cX8_asOf hn_cX8_asOf rfl rfl
theorem dX8_asOf_44 : decode cX8_asOf 44 = .ok (.iload 4, 2) := qr_o21 4 hN_cX8_asOf hn_cX8_asOf rfl rfl rfl
theorem dX8_asOf_46 : decode cX8_asOf 46 = .ok (.invokevirtual 238, 3) := qr_o182 0 238 hN_cX8_asOf hn_cX8_asOf rfl rfl rfl rfl
theorem dX8_asOf_49 : decode cX8_asOf 49 = .ok (.ireturn, 1) := qr_o172 hN_cX8_asOf hn_cX8_asOf rfl rfl
def nN_cX8_out : Nat := 0xacfa00b42df600b6f200b6b200b42d1300b42a1c2dacfe10060099ac00b62d0a00c6b200b42dac0205009a2700b8ff0f11031c0e00c62d4e9c00b61b1300b42a
theorem hN_cX8_out : qr_n cX8_out.data.toList = nN_cX8_out := by decide +kernel
theorem hn_cX8_out : cX8_out.size = 64 := by decide +kernel
theorem dX8_out_0 : decode cX8_out 0 = .ok (.aload_n 0, 1) := qr_o42 hN_cX8_out hn_cX8_out rfl rfl
theorem dX8_out_1 : decode cX8_out 1 = .ok (.getfield 19, 3) := qr_o180 0 19 hN_cX8_out hn_cX8_out rfl rfl rfl rfl
theorem dX8_out_4 : decode cX8_out 4 = .ok (.iload_n 1, 1) := qr_o27 hN_cX8_out hn_cX8_out rfl rfl
theorem dX8_out_5 : decode cX8_out 5 = .ok (.invokevirtual 156, 3) := qr_o182 0 156 hN_cX8_out hn_cX8_out rfl rfl rfl rfl
theorem dX8_out_8 : decode cX8_out 8 = .ok (.astore_n 3, 1) := qr_o78 hN_cX8_out hn_cX8_out rfl rfl
theorem dX8_out_9 : decode cX8_out 9 = .ok (.aload_n 3, 1) := qr_o45 hN_cX8_out hn_cX8_out rfl rfl
theorem dX8_out_10 : decode cX8_out 10 = .ok (.ifnull 14, 3) := qr_o198 0 14 rfl hN_cX8_out hn_cX8_out rfl rfl rfl rfl
theorem dX8_out_13 : decode cX8_out 13 = .ok (.iload_n 2, 1) := qr_o28 hN_cX8_out hn_cX8_out rfl rfl
theorem dX8_out_14 : decode cX8_out 14 = .ok (.iconst 0, 1) := qr_o3 hN_cX8_out hn_cX8_out rfl rfl
theorem dX8_out_15 : decode cX8_out 15 = .ok (.sipush 4095, 3) := qr_o17 15 255 rfl hN_cX8_out hn_cX8_out rfl rfl rfl rfl
theorem dX8_out_18 : decode cX8_out 18 = .ok (.invokestatic 39, 3) := qr_o184 0 39 hN_cX8_out hn_cX8_out rfl rfl rfl rfl
theorem dX8_out_21 : decode cX8_out 21 = .ok (.ifCond .ne 5, 3) := qr_o154 0 5 rfl hN_cX8_out hn_cX8_out rfl rfl rfl rfl
theorem dX8_out_24 : decode cX8_out 24 = .ok (.iconst (-1), 1) := qr_o2 hN_cX8_out hn_cX8_out rfl rfl
theorem dX8_out_25 : decode cX8_out 25 = .ok (.ireturn, 1) := qr_o172 hN_cX8_out hn_cX8_out rfl rfl
theorem dX8_out_26 : decode cX8_out 26 = .ok (.aload_n 3, 1) := qr_o45 hN_cX8_out hn_cX8_out rfl rfl
theorem dX8_out_27 : decode cX8_out 27 = .ok (.getfield 178, 3) := qr_o180 0 178 hN_cX8_out hn_cX8_out rfl rfl rfl rfl
theorem dX8_out_30 : decode cX8_out 30 = .ok (.ifnull 10, 3) := qr_o198 0 10 rfl hN_cX8_out hn_cX8_out rfl rfl rfl rfl
theorem dX8_out_33 : decode cX8_out 33 = .ok (.aload_n 3, 1) := qr_o45 hN_cX8_out hn_cX8_out rfl rfl
theorem dX8_out_34 : decode cX8_out 34 = .ok (.invokevirtual 172, 3) := qr_o182 0 172 hN_cX8_out hn_cX8_out rfl rfl rfl rfl
theorem dX8_out_37 : decode cX8_out 37 = .ok (.ifCond .eq 6, 3) := qr_o153 0 6 rfl hN_cX8_out hn_cX8_out rfl rfl rfl rfl
theorem dX8_out_40 : decode cX8_out 40 = .ok (.bipush (-2), 2) := qr_w16 254 2 rfl rfl hN_cX8_out hn_cX8_out rfl rfl rfl
theorem dX8_out_42 : decode cX8_out 42 = .ok (.ireturn, 1) := qr_o172 hN_cX8_out hn_cX8_out rfl rfl
theorem dX8_out_43 : decode cX8_out 43 = .ok (.aload_n 3, 1) := qr_o45 hN_cX8_out hn_cX8_out rfl rfl
theorem dX8_out_44 : decode cX8_out 44 = .ok (.iload_n 2, 1) := qr_o28 hN_cX8_out hn_cX8_out rfl rfl
theorem dX8_out_45 : decode cX8_out 45 = .ok (.aload_n 0, 1) := qr_o42 hN_cX8_out hn_cX8_out rfl rfl
theorem dX8_out_46 : decode cX8_out 46 = .ok (.getfield 19, 3) := qr_o180 0 19 hN_cX8_out hn_cX8_out rfl rfl rfl rfl
theorem dX8_out_49 : decode cX8_out 49 = .ok (.aload_n 3, 1) := qr_o45 hN_cX8_out hn_cX8_out rfl rfl
theorem dX8_out_50 : decode cX8_out 50 = .ok (.getfield 178, 3) := qr_o180 0 178 hN_cX8_out hn_cX8_out rfl rfl rfl rfl
theorem dX8_out_53 : decode cX8_out 53 = .ok (.invokevirtual 242, 3) := qr_o182 0 242 hN_cX8_out hn_cX8_out rfl rfl rfl rfl
theorem dX8_out_56 : decode cX8_out 56 = .ok (.invokevirtual 246, 3) := qr_o182 0 246 hN_cX8_out hn_cX8_out rfl rfl rfl rfl
theorem dX8_out_59 : decode cX8_out 59 = .ok (.aload_n 3, 1) := qr_o45 hN_cX8_out hn_cX8_out rfl rfl
theorem dX8_out_60 : decode cX8_out 60 = .ok (.getfield 250, 3) := qr_o180 0 250 hN_cX8_out hn_cX8_out rfl rfl rfl rfl
theorem dX8_out_63 : decode cX8_out 63 = .ok (.ireturn, 1) := qr_o172 hN_cX8_out hn_cX8_out rfl rfl
def nN_cX8_home : Nat := 0xac64fa00b404190801b604191300b42a0501b560040501b45905190201b61d1c0419acfe1206009f04ff00b40419acfd120600a2c500b6041905191300b42a1cacfe120600c70519053ab200b40419acfd1206009a2700b8ff0f11021d0e0099a000b81c1500c60419043a9c00b61b1300b42a
theorem hN_cX8_home : qr_n cX8_home.data.toList = nN_cX8_home := by decide +kernel
theorem hn_cX8_home : cX8_home.size = 115 := by decide +kernel
theorem dX8_home_0 : decode cX8_home 0 = .ok (.aload_n 0, 1) := qr_o42 hN_cX8_home hn_cX8_home rfl rfl
theorem dX8_home_1 : decode cX8_home 1 = .ok (.getfield 19, 3) := qr_o180 0 19 hN_cX8_home hn_cX8_home rfl rfl rfl rfl
theorem dX8_home_4 : decode cX8_home 4 = .ok (.iload_n 1, 1) := qr_o27 hN_cX8_home hn_cX8_home rfl rfl
theorem dX8_home_5 : decode cX8_home 5 = .ok (.invokevirtual 156, 3) := qr_o182 0 156 hN_cX8_home hn_cX8_home rfl rfl rfl rfl
theorem dX8_home_8 : decode cX8_home 8 = .ok (.astore 4, 2) := qr_o58 4 hN_cX8_home hn_cX8_home rfl rfl rfl
theorem dX8_home_10 : decode cX8_home 10 = .ok (.aload 4, 2) := qr_o25 4 hN_cX8_home hn_cX8_home rfl rfl rfl
theorem dX8_home_12 : decode cX8_home 12 = .ok (.ifnull 21, 3) := qr_o198 0 21 rfl hN_cX8_home hn_cX8_home rfl rfl rfl rfl
theorem dX8_home_15 : decode cX8_home 15 = .ok (.iload_n 2, 1) := qr_o28 hN_cX8_home hn_cX8_home rfl rfl
theorem dX8_home_16 : decode cX8_home 16 = .ok (.invokestatic 160, 3) := qr_o184 0 160 hN_cX8_home hn_cX8_home rfl rfl rfl rfl
theorem dX8_home_19 : decode cX8_home 19 = .ok (.ifCond .eq 14, 3) := qr_o153 0 14 rfl hN_cX8_home hn_cX8_home rfl rfl rfl rfl
theorem dX8_home_22 : decode cX8_home 22 = .ok (.iload_n 3, 1) := qr_o29 hN_cX8_home hn_cX8_home rfl rfl
theorem dX8_home_23 : decode cX8_home 23 = .ok (.iconst (-1), 1) := qr_o2 hN_cX8_home hn_cX8_home rfl rfl
theorem dX8_home_24 : decode cX8_home 24 = .ok (.sipush 4095, 3) := qr_o17 15 255 rfl hN_cX8_home hn_cX8_home rfl rfl rfl rfl
theorem dX8_home_27 : decode cX8_home 27 = .ok (.invokestatic 39, 3) := qr_o184 0 39 hN_cX8_home hn_cX8_home rfl rfl rfl rfl
theorem dX8_home_30 : decode cX8_home 30 = .ok (.ifCond .ne 6, 3) := qr_o154 0 6 rfl hN_cX8_home hn_cX8_home rfl rfl rfl rfl
theorem dX8_home_33 : decode cX8_home 33 = .ok (.ldc 253, 2) := qr_o18 253 hN_cX8_home hn_cX8_home rfl rfl rfl
theorem dX8_home_35 : decode cX8_home 35 = .ok (.ireturn, 1) := qr_o172 hN_cX8_home hn_cX8_home rfl rfl
theorem dX8_home_36 : decode cX8_home 36 = .ok (.aload 4, 2) := qr_o25 4 hN_cX8_home hn_cX8_home rfl rfl rfl
theorem dX8_home_38 : decode cX8_home 38 = .ok (.getfield 178, 3) := qr_o180 0 178 hN_cX8_home hn_cX8_home rfl rfl rfl rfl
theorem dX8_home_41 : decode cX8_home 41 = .ok (.astore 5, 2) := qr_o58 5 hN_cX8_home hn_cX8_home rfl rfl rfl
theorem dX8_home_43 : decode cX8_home 43 = .ok (.aload 5, 2) := qr_o25 5 hN_cX8_home hn_cX8_home rfl rfl rfl
theorem dX8_home_45 : decode cX8_home 45 = .ok (.ifnonnull 6, 3) := qr_o199 0 6 rfl hN_cX8_home hn_cX8_home rfl rfl rfl rfl
theorem dX8_home_48 : decode cX8_home 48 = .ok (.ldc 254, 2) := qr_o18 254 hN_cX8_home hn_cX8_home rfl rfl rfl
theorem dX8_home_50 : decode cX8_home 50 = .ok (.ireturn, 1) := qr_o172 hN_cX8_home hn_cX8_home rfl rfl
theorem dX8_home_51 : decode cX8_home 51 = .ok (.iload_n 2, 1) := qr_o28 hN_cX8_home hn_cX8_home rfl rfl
theorem dX8_home_52 : decode cX8_home 52 = .ok (.aload_n 0, 1) := qr_o42 hN_cX8_home hn_cX8_home rfl rfl
theorem dX8_home_53 : decode cX8_home 53 = .ok (.getfield 19, 3) := qr_o180 0 19 hN_cX8_home hn_cX8_home rfl rfl rfl rfl
theorem dX8_home_56 : decode cX8_home 56 = .ok (.aload 5, 2) := qr_o25 5 hN_cX8_home hn_cX8_home rfl rfl rfl
theorem dX8_home_58 : decode cX8_home 58 = .ok (.aload 4, 2) := qr_o25 4 hN_cX8_home hn_cX8_home rfl rfl rfl
theorem dX8_home_60 : decode cX8_home 60 = .ok (.invokevirtual 197, 3) := qr_o182 0 197 hN_cX8_home hn_cX8_home rfl rfl rfl rfl
theorem dX8_home_63 : decode cX8_home 63 = .ok (.if_icmp .ge 6, 3) := qr_o162 0 6 rfl hN_cX8_home hn_cX8_home rfl rfl rfl rfl
theorem dX8_home_66 : decode cX8_home 66 = .ok (.ldc 253, 2) := qr_o18 253 hN_cX8_home hn_cX8_home rfl rfl rfl
theorem dX8_home_68 : decode cX8_home 68 = .ok (.ireturn, 1) := qr_o172 hN_cX8_home hn_cX8_home rfl rfl
theorem dX8_home_69 : decode cX8_home 69 = .ok (.aload 4, 2) := qr_o25 4 hN_cX8_home hn_cX8_home rfl rfl rfl
theorem dX8_home_71 : decode cX8_home 71 = .ok (.getfield 255, 3) := qr_o180 0 255 hN_cX8_home hn_cX8_home rfl rfl rfl rfl
theorem dX8_home_74 : decode cX8_home 74 = .ok (.iconst 1, 1) := qr_o4 hN_cX8_home hn_cX8_home rfl rfl
theorem dX8_home_75 : decode cX8_home 75 = .ok (.if_icmp .eq 6, 3) := qr_o159 0 6 rfl hN_cX8_home hn_cX8_home rfl rfl rfl rfl
theorem dX8_home_78 : decode cX8_home 78 = .ok (.ldc 254, 2) := qr_o18 254 hN_cX8_home hn_cX8_home rfl rfl rfl
theorem dX8_home_80 : decode cX8_home 80 = .ok (.ireturn, 1) := qr_o172 hN_cX8_home hn_cX8_home rfl rfl
theorem dX8_home_81 : decode cX8_home 81 = .ok (.aload 4, 2) := qr_o25 4 hN_cX8_home hn_cX8_home rfl rfl rfl
theorem dX8_home_83 : decode cX8_home 83 = .ok (.iload_n 2, 1) := qr_o28 hN_cX8_home hn_cX8_home rfl rfl
theorem dX8_home_84 : decode cX8_home 84 = .ok (.iload_n 3, 1) := qr_o29 hN_cX8_home hn_cX8_home rfl rfl
theorem dX8_home_85 : decode cX8_home 85 = .ok (.invokevirtual 258, 3) := qr_o182 1 2 hN_cX8_home hn_cX8_home rfl rfl rfl rfl
theorem dX8_home_88 : decode cX8_home 88 = .ok (.aload 5, 2) := qr_o25 5 hN_cX8_home hn_cX8_home rfl rfl rfl
theorem dX8_home_90 : decode cX8_home 90 = .ok (.dup, 1) := qr_o89 hN_cX8_home hn_cX8_home rfl rfl
theorem dX8_home_91 : decode cX8_home 91 = .ok (.getfield 261, 3) := qr_o180 1 5 hN_cX8_home hn_cX8_home rfl rfl rfl rfl
theorem dX8_home_94 : decode cX8_home 94 = .ok (.iconst 1, 1) := qr_o4 hN_cX8_home hn_cX8_home rfl rfl
theorem dX8_home_95 : decode cX8_home 95 = .ok (.iadd, 1) := qr_o96 hN_cX8_home hn_cX8_home rfl rfl
theorem dX8_home_96 : decode cX8_home 96 = .ok (.putfield 261, 3) := qr_o181 1 5 hN_cX8_home hn_cX8_home rfl rfl rfl rfl
theorem dX8_home_99 : decode cX8_home 99 = .ok (.aload_n 0, 1) := qr_o42 hN_cX8_home hn_cX8_home rfl rfl
theorem dX8_home_100 : decode cX8_home 100 = .ok (.getfield 19, 3) := qr_o180 0 19 hN_cX8_home hn_cX8_home rfl rfl rfl rfl
theorem dX8_home_103 : decode cX8_home 103 = .ok (.aload 4, 2) := qr_o25 4 hN_cX8_home hn_cX8_home rfl rfl rfl
theorem dX8_home_105 : decode cX8_home 105 = .ok (.invokevirtual 264, 3) := qr_o182 1 8 hN_cX8_home hn_cX8_home rfl rfl rfl rfl
theorem dX8_home_108 : decode cX8_home 108 = .ok (.aload 4, 2) := qr_o25 4 hN_cX8_home hn_cX8_home rfl rfl rfl
theorem dX8_home_110 : decode cX8_home 110 = .ok (.getfield 250, 3) := qr_o180 0 250 hN_cX8_home hn_cX8_home rfl rfl rfl rfl
theorem dX8_home_113 : decode cX8_home 113 = .ok (.isub, 1) := qr_o100 hN_cX8_home hn_cX8_home rfl rfl
theorem dX8_home_114 : decode cX8_home 114 = .ok (.ireturn, 1) := qr_o172 hN_cX8_home hn_cX8_home rfl rfl
def nN_cX8_about : Nat := 0xac0801b62d1300b42aac0e01b62d1300b42aac0b01b62d1300b42aacfa00b42dacff00b42d330000002a000000250000002000000003000000000000003c000000000000aa1cac0205009f05ff00b42d0d00a1051c100099ac00b62d0a00a1041cac0205009a2700b807031c0c00c62d4e9c00b61b1300b42a
theorem hN_cX8_about : qr_n cX8_about.data.toList = nN_cX8_about := by decide +kernel
theorem hn_cX8_about : cX8_about.size = 121 := by decide +kernel
theorem dX8_about_0 : decode cX8_about 0 = .ok (.aload_n 0, 1) := qr_o42 hN_cX8_about hn_cX8_about rfl rfl
theorem dX8_about_1 : decode cX8_about 1 = .ok (.getfield 19, 3) := qr_o180 0 19 hN_cX8_about hn_cX8_about rfl rfl rfl rfl
theorem dX8_about_4 : decode cX8_about 4 = .ok (.iload_n 1, 1) := qr_o27 hN_cX8_about hn_cX8_about rfl rfl
theorem dX8_about_5 : decode cX8_about 5 = .ok (.invokevirtual 156, 3) := qr_o182 0 156 hN_cX8_about hn_cX8_about rfl rfl rfl rfl
theorem dX8_about_8 : decode cX8_about 8 = .ok (.astore_n 3, 1) := qr_o78 hN_cX8_about hn_cX8_about rfl rfl
theorem dX8_about_9 : decode cX8_about 9 = .ok (.aload_n 3, 1) := qr_o45 hN_cX8_about hn_cX8_about rfl rfl
theorem dX8_about_10 : decode cX8_about 10 = .ok (.ifnull 12, 3) := qr_o198 0 12 rfl hN_cX8_about hn_cX8_about rfl rfl rfl rfl
theorem dX8_about_13 : decode cX8_about 13 = .ok (.iload_n 2, 1) := qr_o28 hN_cX8_about hn_cX8_about rfl rfl
theorem dX8_about_14 : decode cX8_about 14 = .ok (.iconst 0, 1) := qr_o3 hN_cX8_about hn_cX8_about rfl rfl
theorem dX8_about_15 : decode cX8_about 15 = .ok (.iconst 4, 1) := qr_o7 hN_cX8_about hn_cX8_about rfl rfl
theorem dX8_about_16 : decode cX8_about 16 = .ok (.invokestatic 39, 3) := qr_o184 0 39 hN_cX8_about hn_cX8_about rfl rfl rfl rfl
theorem dX8_about_19 : decode cX8_about 19 = .ok (.ifCond .ne 5, 3) := qr_o154 0 5 rfl hN_cX8_about hn_cX8_about rfl rfl rfl rfl
theorem dX8_about_22 : decode cX8_about 22 = .ok (.iconst (-1), 1) := qr_o2 hN_cX8_about hn_cX8_about rfl rfl
theorem dX8_about_23 : decode cX8_about 23 = .ok (.ireturn, 1) := qr_o172 hN_cX8_about hn_cX8_about rfl rfl
theorem dX8_about_24 : decode cX8_about 24 = .ok (.iload_n 2, 1) := qr_o28 hN_cX8_about hn_cX8_about rfl rfl
theorem dX8_about_25 : decode cX8_about 25 = .ok (.iconst 1, 1) := qr_o4 hN_cX8_about hn_cX8_about rfl rfl
theorem dX8_about_26 : decode cX8_about 26 = .ok (.if_icmp .lt 10, 3) := qr_o161 0 10 rfl hN_cX8_about hn_cX8_about rfl rfl rfl rfl
theorem dX8_about_29 : decode cX8_about 29 = .ok (.aload_n 3, 1) := qr_o45 hN_cX8_about hn_cX8_about rfl rfl
theorem dX8_about_30 : decode cX8_about 30 = .ok (.invokevirtual 172, 3) := qr_o182 0 172 hN_cX8_about hn_cX8_about rfl rfl rfl rfl
theorem dX8_about_33 : decode cX8_about 33 = .ok (.ifCond .eq 16, 3) := qr_o153 0 16 rfl hN_cX8_about hn_cX8_about rfl rfl rfl rfl
theorem dX8_about_36 : decode cX8_about 36 = .ok (.iload_n 2, 1) := qr_o28 hN_cX8_about hn_cX8_about rfl rfl
theorem dX8_about_37 : decode cX8_about 37 = .ok (.iconst 2, 1) := qr_o5 hN_cX8_about hn_cX8_about rfl rfl
theorem dX8_about_38 : decode cX8_about 38 = .ok (.if_icmp .lt 13, 3) := qr_o161 0 13 rfl hN_cX8_about hn_cX8_about rfl rfl rfl rfl
theorem dX8_about_41 : decode cX8_about 41 = .ok (.aload_n 3, 1) := qr_o45 hN_cX8_about hn_cX8_about rfl rfl
theorem dX8_about_42 : decode cX8_about 42 = .ok (.getfield 255, 3) := qr_o180 0 255 hN_cX8_about hn_cX8_about rfl rfl rfl rfl
theorem dX8_about_45 : decode cX8_about 45 = .ok (.iconst 2, 1) := qr_o5 hN_cX8_about hn_cX8_about rfl rfl
theorem dX8_about_46 : decode cX8_about 46 = .ok (.if_icmp .eq 5, 3) := qr_o159 0 5 rfl hN_cX8_about hn_cX8_about rfl rfl rfl rfl
theorem dX8_about_49 : decode cX8_about 49 = .ok (.iconst (-1), 1) := qr_o2 hN_cX8_about hn_cX8_about rfl rfl
theorem dX8_about_50 : decode cX8_about 50 = .ok (.ireturn, 1) := qr_o172 hN_cX8_about hn_cX8_about rfl rfl
theorem dX8_about_51 : decode cX8_about 51 = .ok (.iload_n 2, 1) := qr_o28 hN_cX8_about hn_cX8_about rfl rfl
theorem dX8_about_52 : decode cX8_about 52 = .ok (.tableswitch 60 0 3 #[32, 37, 42, 51], 32) := by decide +kernel
theorem dX8_about_84 : decode cX8_about 84 = .ok (.aload_n 3, 1) := qr_o45 hN_cX8_about hn_cX8_about rfl rfl
theorem dX8_about_85 : decode cX8_about 85 = .ok (.getfield 255, 3) := qr_o180 0 255 hN_cX8_about hn_cX8_about rfl rfl rfl rfl
theorem dX8_about_88 : decode cX8_about 88 = .ok (.ireturn, 1) := qr_o172 hN_cX8_about hn_cX8_about rfl rfl
theorem dX8_about_89 : decode cX8_about 89 = .ok (.aload_n 3, 1) := qr_o45 hN_cX8_about hn_cX8_about rfl rfl
theorem dX8_about_90 : decode cX8_about 90 = .ok (.getfield 250, 3) := qr_o180 0 250 hN_cX8_about hn_cX8_about rfl rfl rfl rfl
theorem dX8_about_93 : decode cX8_about 93 = .ok (.ireturn, 1) := qr_o172 hN_cX8_about hn_cX8_about rfl rfl
theorem dX8_about_94 : decode cX8_about 94 = .ok (.aload_n 0, 1) := qr_o42 hN_cX8_about hn_cX8_about rfl rfl
theorem dX8_about_95 : decode cX8_about 95 = .ok (.getfield 19, 3) := qr_o180 0 19 hN_cX8_about hn_cX8_about rfl rfl rfl rfl
theorem dX8_about_98 : decode cX8_about 98 = .ok (.aload_n 3, 1) := qr_o45 hN_cX8_about hn_cX8_about rfl rfl
theorem dX8_about_99 : decode cX8_about 99 = .ok (.invokevirtual 267, 3) := qr_o182 1 11 hN_cX8_about hn_cX8_about rfl rfl rfl rfl
theorem dX8_about_102 : decode cX8_about 102 = .ok (.ireturn, 1) := qr_o172 hN_cX8_about hn_cX8_about rfl rfl
theorem dX8_about_103 : decode cX8_about 103 = .ok (.aload_n 0, 1) := qr_o42 hN_cX8_about hn_cX8_about rfl rfl
theorem dX8_about_104 : decode cX8_about 104 = .ok (.getfield 19, 3) := qr_o180 0 19 hN_cX8_about hn_cX8_about rfl rfl rfl rfl
theorem dX8_about_107 : decode cX8_about 107 = .ok (.aload_n 3, 1) := qr_o45 hN_cX8_about hn_cX8_about rfl rfl
theorem dX8_about_108 : decode cX8_about 108 = .ok (.invokevirtual 270, 3) := qr_o182 1 14 hN_cX8_about hn_cX8_about rfl rfl rfl rfl
theorem dX8_about_111 : decode cX8_about 111 = .ok (.ireturn, 1) := qr_o172 hN_cX8_about hn_cX8_about rfl rfl
theorem dX8_about_112 : decode cX8_about 112 = .ok (.aload_n 0, 1) := qr_o42 hN_cX8_about hn_cX8_about rfl rfl
theorem dX8_about_113 : decode cX8_about 113 = .ok (.getfield 19, 3) := qr_o180 0 19 hN_cX8_about hn_cX8_about rfl rfl rfl rfl
theorem dX8_about_116 : decode cX8_about 116 = .ok (.aload_n 3, 1) := qr_o45 hN_cX8_about hn_cX8_about rfl rfl
theorem dX8_about_117 : decode cX8_about 117 = .ok (.invokevirtual 264, 3) := qr_o182 1 8 hN_cX8_about hn_cX8_about rfl rfl rfl rfl
theorem dX8_about_120 : decode cX8_about 120 = .ok (.ireturn, 1) := qr_o172 hN_cX8_about hn_cX8_about rfl rfl
def nN_cX8_retire : Nat := 0xac1701b62c1401b5042cacfe100600991101b62cac020500c72c4d6000b61b1300b42a
theorem hN_cX8_retire : qr_n cX8_retire.data.toList = nN_cX8_retire := by decide +kernel
theorem hn_cX8_retire : cX8_retire.size = 35 := by decide +kernel
theorem dX8_retire_0 : decode cX8_retire 0 = .ok (.aload_n 0, 1) := qr_o42 hN_cX8_retire hn_cX8_retire rfl rfl
theorem dX8_retire_1 : decode cX8_retire 1 = .ok (.getfield 19, 3) := qr_o180 0 19 hN_cX8_retire hn_cX8_retire rfl rfl rfl rfl
theorem dX8_retire_4 : decode cX8_retire 4 = .ok (.iload_n 1, 1) := qr_o27 hN_cX8_retire hn_cX8_retire rfl rfl
theorem dX8_retire_5 : decode cX8_retire 5 = .ok (.invokevirtual 96, 3) := qr_o182 0 96 hN_cX8_retire hn_cX8_retire rfl rfl rfl rfl
theorem dX8_retire_8 : decode cX8_retire 8 = .ok (.astore_n 2, 1) := qr_o77 hN_cX8_retire hn_cX8_retire rfl rfl
theorem dX8_retire_9 : decode cX8_retire 9 = .ok (.aload_n 2, 1) := qr_o44 hN_cX8_retire hn_cX8_retire rfl rfl
theorem dX8_retire_10 : decode cX8_retire 10 = .ok (.ifnonnull 5, 3) := qr_o199 0 5 rfl hN_cX8_retire hn_cX8_retire rfl rfl rfl rfl
theorem dX8_retire_13 : decode cX8_retire 13 = .ok (.iconst (-1), 1) := qr_o2 hN_cX8_retire hn_cX8_retire rfl rfl
theorem dX8_retire_14 : decode cX8_retire 14 = .ok (.ireturn, 1) := qr_o172 hN_cX8_retire hn_cX8_retire rfl rfl
theorem dX8_retire_15 : decode cX8_retire 15 = .ok (.aload_n 2, 1) := qr_o44 hN_cX8_retire hn_cX8_retire rfl rfl
theorem dX8_retire_16 : decode cX8_retire 16 = .ok (.invokevirtual 273, 3) := qr_o182 1 17 hN_cX8_retire hn_cX8_retire rfl rfl rfl rfl
theorem dX8_retire_19 : decode cX8_retire 19 = .ok (.ifCond .eq 6, 3) := qr_o153 0 6 rfl hN_cX8_retire hn_cX8_retire rfl rfl rfl rfl
theorem dX8_retire_22 : decode cX8_retire 22 = .ok (.bipush (-2), 2) := qr_w16 254 2 rfl rfl hN_cX8_retire hn_cX8_retire rfl rfl rfl
theorem dX8_retire_24 : decode cX8_retire 24 = .ok (.ireturn, 1) := qr_o172 hN_cX8_retire hn_cX8_retire rfl rfl
theorem dX8_retire_25 : decode cX8_retire 25 = .ok (.aload_n 2, 1) := qr_o44 hN_cX8_retire hn_cX8_retire rfl rfl
theorem dX8_retire_26 : decode cX8_retire 26 = .ok (.iconst 1, 1) := qr_o4 hN_cX8_retire hn_cX8_retire rfl rfl
theorem dX8_retire_27 : decode cX8_retire 27 = .ok (.putfield 276, 3) := qr_o181 1 20 hN_cX8_retire hn_cX8_retire rfl rfl rfl rfl
theorem dX8_retire_30 : decode cX8_retire 30 = .ok (.aload_n 2, 1) := qr_o44 hN_cX8_retire hn_cX8_retire rfl rfl
theorem dX8_retire_31 : decode cX8_retire 31 = .ok (.invokevirtual 279, 3) := qr_o182 1 23 hN_cX8_retire hn_cX8_retire rfl rfl rfl rfl
theorem dX8_retire_34 : decode cX8_retire 34 = .ok (.ireturn, 1) := qr_o172 hN_cX8_retire hn_cX8_retire rfl rfl
def nN_cX8_count : Nat := 0xac02ac2001b61b1300b42aac9900b41300b42aac7700b47300b41300b42aac1d01b61b1300b42aac1a01b41300b42a3700000053000000530000004b0000004000000037000000370000002f00000007000000000000005c0000000000aa1b
theorem hN_cX8_count : qr_n cX8_count.data.toList = nN_cX8_count := by decide +kernel
theorem hn_cX8_count : cX8_count.size = 95 := by decide +kernel
theorem dX8_count_0 : decode cX8_count 0 = .ok (.iload_n 1, 1) := qr_o27 hN_cX8_count hn_cX8_count rfl rfl
theorem dX8_count_1 : decode cX8_count 1 = .ok (.tableswitch 92 0 7 #[47, 55, 55, 64, 75, 83, 83, 55], 47) := by decide +kernel
theorem dX8_count_48 : decode cX8_count 48 = .ok (.aload_n 0, 1) := qr_o42 hN_cX8_count hn_cX8_count rfl rfl
theorem dX8_count_49 : decode cX8_count 49 = .ok (.getfield 19, 3) := qr_o180 0 19 hN_cX8_count hn_cX8_count rfl rfl rfl rfl
theorem dX8_count_52 : decode cX8_count 52 = .ok (.getfield 282, 3) := qr_o180 1 26 hN_cX8_count hn_cX8_count rfl rfl rfl rfl
theorem dX8_count_55 : decode cX8_count 55 = .ok (.ireturn, 1) := qr_o172 hN_cX8_count hn_cX8_count rfl rfl
theorem dX8_count_56 : decode cX8_count 56 = .ok (.aload_n 0, 1) := qr_o42 hN_cX8_count hn_cX8_count rfl rfl
theorem dX8_count_57 : decode cX8_count 57 = .ok (.getfield 19, 3) := qr_o180 0 19 hN_cX8_count hn_cX8_count rfl rfl rfl rfl
theorem dX8_count_60 : decode cX8_count 60 = .ok (.iload_n 1, 1) := qr_o27 hN_cX8_count hn_cX8_count rfl rfl
theorem dX8_count_61 : decode cX8_count 61 = .ok (.invokevirtual 285, 3) := qr_o182 1 29 hN_cX8_count hn_cX8_count rfl rfl rfl rfl
theorem dX8_count_64 : decode cX8_count 64 = .ok (.ireturn, 1) := qr_o172 hN_cX8_count hn_cX8_count rfl rfl
theorem dX8_count_65 : decode cX8_count 65 = .ok (.aload_n 0, 1) := qr_o42 hN_cX8_count hn_cX8_count rfl rfl
theorem dX8_count_66 : decode cX8_count 66 = .ok (.getfield 19, 3) := qr_o180 0 19 hN_cX8_count hn_cX8_count rfl rfl rfl rfl
theorem dX8_count_69 : decode cX8_count 69 = .ok (.getfield 115, 3) := qr_o180 0 115 hN_cX8_count hn_cX8_count rfl rfl rfl rfl
theorem dX8_count_72 : decode cX8_count 72 = .ok (.getfield 119, 3) := qr_o180 0 119 hN_cX8_count hn_cX8_count rfl rfl rfl rfl
theorem dX8_count_75 : decode cX8_count 75 = .ok (.ireturn, 1) := qr_o172 hN_cX8_count hn_cX8_count rfl rfl
theorem dX8_count_76 : decode cX8_count 76 = .ok (.aload_n 0, 1) := qr_o42 hN_cX8_count hn_cX8_count rfl rfl
theorem dX8_count_77 : decode cX8_count 77 = .ok (.getfield 19, 3) := qr_o180 0 19 hN_cX8_count hn_cX8_count rfl rfl rfl rfl
theorem dX8_count_80 : decode cX8_count 80 = .ok (.getfield 153, 3) := qr_o180 0 153 hN_cX8_count hn_cX8_count rfl rfl rfl rfl
theorem dX8_count_83 : decode cX8_count 83 = .ok (.ireturn, 1) := qr_o172 hN_cX8_count hn_cX8_count rfl rfl
theorem dX8_count_84 : decode cX8_count 84 = .ok (.aload_n 0, 1) := qr_o42 hN_cX8_count hn_cX8_count rfl rfl
theorem dX8_count_85 : decode cX8_count 85 = .ok (.getfield 19, 3) := qr_o180 0 19 hN_cX8_count hn_cX8_count rfl rfl rfl rfl
theorem dX8_count_88 : decode cX8_count 88 = .ok (.iload_n 1, 1) := qr_o27 hN_cX8_count hn_cX8_count rfl rfl
theorem dX8_count_89 : decode cX8_count 89 = .ok (.invokevirtual 288, 3) := qr_o182 1 32 hN_cX8_count hn_cX8_count rfl rfl rfl rfl
theorem dX8_count_92 : decode cX8_count 92 = .ok (.ireturn, 1) := qr_o172 hN_cX8_count hn_cX8_count rfl rfl
theorem dX8_count_93 : decode cX8_count 93 = .ok (.iconst (-1), 1) := qr_o2 hN_cX8_count hn_cX8_count rfl rfl
theorem dX8_count_94 : decode cX8_count 94 = .ok (.ireturn, 1) := qr_o172 hN_cX8_count hn_cX8_count rfl rfl
def nN_cX8_sheet : Nat := 0xac1d2901b61d1c321b2300b42aacf21006009c1dac020500a424101d0900992601b81c1000992301b81b
theorem hN_cX8_sheet : qr_n cX8_sheet.data.toList = nN_cX8_sheet := by decide +kernel
theorem hn_cX8_sheet : cX8_sheet.size = 42 := by decide +kernel
theorem dX8_sheet_0 : decode cX8_sheet 0 = .ok (.iload_n 1, 1) := qr_o27 hN_cX8_sheet hn_cX8_sheet rfl rfl
theorem dX8_sheet_1 : decode cX8_sheet 1 = .ok (.invokestatic 291, 3) := qr_o184 1 35 hN_cX8_sheet hn_cX8_sheet rfl rfl rfl rfl
theorem dX8_sheet_4 : decode cX8_sheet 4 = .ok (.ifCond .eq 16, 3) := qr_o153 0 16 rfl hN_cX8_sheet hn_cX8_sheet rfl rfl rfl rfl
theorem dX8_sheet_7 : decode cX8_sheet 7 = .ok (.iload_n 2, 1) := qr_o28 hN_cX8_sheet hn_cX8_sheet rfl rfl
theorem dX8_sheet_8 : decode cX8_sheet 8 = .ok (.invokestatic 294, 3) := qr_o184 1 38 hN_cX8_sheet hn_cX8_sheet rfl rfl rfl rfl
theorem dX8_sheet_11 : decode cX8_sheet 11 = .ok (.ifCond .eq 9, 3) := qr_o153 0 9 rfl hN_cX8_sheet hn_cX8_sheet rfl rfl rfl rfl
theorem dX8_sheet_14 : decode cX8_sheet 14 = .ok (.iload_n 3, 1) := qr_o29 hN_cX8_sheet hn_cX8_sheet rfl rfl
theorem dX8_sheet_15 : decode cX8_sheet 15 = .ok (.bipush 36, 2) := qr_o16 36 rfl hN_cX8_sheet hn_cX8_sheet rfl rfl rfl
theorem dX8_sheet_17 : decode cX8_sheet 17 = .ok (.if_icmp .le 5, 3) := qr_o164 0 5 rfl hN_cX8_sheet hn_cX8_sheet rfl rfl rfl rfl
theorem dX8_sheet_20 : decode cX8_sheet 20 = .ok (.iconst (-1), 1) := qr_o2 hN_cX8_sheet hn_cX8_sheet rfl rfl
theorem dX8_sheet_21 : decode cX8_sheet 21 = .ok (.ireturn, 1) := qr_o172 hN_cX8_sheet hn_cX8_sheet rfl rfl
theorem dX8_sheet_22 : decode cX8_sheet 22 = .ok (.iload_n 3, 1) := qr_o29 hN_cX8_sheet hn_cX8_sheet rfl rfl
theorem dX8_sheet_23 : decode cX8_sheet 23 = .ok (.ifCond .ge 6, 3) := qr_o156 0 6 rfl hN_cX8_sheet hn_cX8_sheet rfl rfl rfl rfl
theorem dX8_sheet_26 : decode cX8_sheet 26 = .ok (.bipush (-14), 2) := qr_w16 242 14 rfl rfl hN_cX8_sheet hn_cX8_sheet rfl rfl rfl
theorem dX8_sheet_28 : decode cX8_sheet 28 = .ok (.ireturn, 1) := qr_o172 hN_cX8_sheet hn_cX8_sheet rfl rfl
theorem dX8_sheet_29 : decode cX8_sheet 29 = .ok (.aload_n 0, 1) := qr_o42 hN_cX8_sheet hn_cX8_sheet rfl rfl
theorem dX8_sheet_30 : decode cX8_sheet 30 = .ok (.getfield 35, 3) := qr_o180 0 35 hN_cX8_sheet hn_cX8_sheet rfl rfl rfl rfl
theorem dX8_sheet_33 : decode cX8_sheet 33 = .ok (.iload_n 1, 1) := qr_o27 hN_cX8_sheet hn_cX8_sheet rfl rfl
theorem dX8_sheet_34 : decode cX8_sheet 34 = .ok (.aaload, 1) := qr_o50 hN_cX8_sheet hn_cX8_sheet rfl rfl
theorem dX8_sheet_35 : decode cX8_sheet 35 = .ok (.iload_n 2, 1) := qr_o28 hN_cX8_sheet hn_cX8_sheet rfl rfl
theorem dX8_sheet_36 : decode cX8_sheet 36 = .ok (.iload_n 3, 1) := qr_o29 hN_cX8_sheet hn_cX8_sheet rfl rfl
theorem dX8_sheet_37 : decode cX8_sheet 37 = .ok (.invokevirtual 297, 3) := qr_o182 1 41 hN_cX8_sheet hn_cX8_sheet rfl rfl rfl rfl
theorem dX8_sheet_40 : decode cX8_sheet 40 = .ok (.iload_n 3, 1) := qr_o29 hN_cX8_sheet hn_cX8_sheet rfl rfl
theorem dX8_sheet_41 : decode cX8_sheet 41 = .ok (.ireturn, 1) := qr_o172 hN_cX8_sheet hn_cX8_sheet rfl rfl
def nN_cX8_drop : Nat := 0xac2f01b42c2c01b5032cacf51006009a2c01b42c4d321b2300b42aac0205009a2301b81b
theorem hN_cX8_drop : qr_n cX8_drop.data.toList = nN_cX8_drop := by decide +kernel
theorem hn_cX8_drop : cX8_drop.size = 36 := by decide +kernel
theorem dX8_drop_0 : decode cX8_drop 0 = .ok (.iload_n 1, 1) := qr_o27 hN_cX8_drop hn_cX8_drop rfl rfl
theorem dX8_drop_1 : decode cX8_drop 1 = .ok (.invokestatic 291, 3) := qr_o184 1 35 hN_cX8_drop hn_cX8_drop rfl rfl rfl rfl
theorem dX8_drop_4 : decode cX8_drop 4 = .ok (.ifCond .ne 5, 3) := qr_o154 0 5 rfl hN_cX8_drop hn_cX8_drop rfl rfl rfl rfl
theorem dX8_drop_7 : decode cX8_drop 7 = .ok (.iconst (-1), 1) := qr_o2 hN_cX8_drop hn_cX8_drop rfl rfl
theorem dX8_drop_8 : decode cX8_drop 8 = .ok (.ireturn, 1) := qr_o172 hN_cX8_drop hn_cX8_drop rfl rfl
theorem dX8_drop_9 : decode cX8_drop 9 = .ok (.aload_n 0, 1) := qr_o42 hN_cX8_drop hn_cX8_drop rfl rfl
theorem dX8_drop_10 : decode cX8_drop 10 = .ok (.getfield 35, 3) := qr_o180 0 35 hN_cX8_drop hn_cX8_drop rfl rfl rfl rfl
theorem dX8_drop_13 : decode cX8_drop 13 = .ok (.iload_n 1, 1) := qr_o27 hN_cX8_drop hn_cX8_drop rfl rfl
theorem dX8_drop_14 : decode cX8_drop 14 = .ok (.aaload, 1) := qr_o50 hN_cX8_drop hn_cX8_drop rfl rfl
theorem dX8_drop_15 : decode cX8_drop 15 = .ok (.astore_n 2, 1) := qr_o77 hN_cX8_drop hn_cX8_drop rfl rfl
theorem dX8_drop_16 : decode cX8_drop 16 = .ok (.aload_n 2, 1) := qr_o44 hN_cX8_drop hn_cX8_drop rfl rfl
theorem dX8_drop_17 : decode cX8_drop 17 = .ok (.getfield 300, 3) := qr_o180 1 44 hN_cX8_drop hn_cX8_drop rfl rfl rfl rfl
theorem dX8_drop_20 : decode cX8_drop 20 = .ok (.ifCond .ne 6, 3) := qr_o154 0 6 rfl hN_cX8_drop hn_cX8_drop rfl rfl rfl rfl
theorem dX8_drop_23 : decode cX8_drop 23 = .ok (.bipush (-11), 2) := qr_w16 245 11 rfl rfl hN_cX8_drop hn_cX8_drop rfl rfl rfl
theorem dX8_drop_25 : decode cX8_drop 25 = .ok (.ireturn, 1) := qr_o172 hN_cX8_drop hn_cX8_drop rfl rfl
theorem dX8_drop_26 : decode cX8_drop 26 = .ok (.aload_n 2, 1) := qr_o44 hN_cX8_drop hn_cX8_drop rfl rfl
theorem dX8_drop_27 : decode cX8_drop 27 = .ok (.iconst 0, 1) := qr_o3 hN_cX8_drop hn_cX8_drop rfl rfl
theorem dX8_drop_28 : decode cX8_drop 28 = .ok (.putfield 300, 3) := qr_o181 1 44 hN_cX8_drop hn_cX8_drop rfl rfl rfl rfl
theorem dX8_drop_31 : decode cX8_drop 31 = .ok (.aload_n 2, 1) := qr_o44 hN_cX8_drop hn_cX8_drop rfl rfl
theorem dX8_drop_32 : decode cX8_drop 32 = .ok (.getfield 303, 3) := qr_o180 1 47 hN_cX8_drop hn_cX8_drop rfl rfl rfl rfl
theorem dX8_drop_35 : decode cX8_drop 35 = .ok (.ireturn, 1) := qr_o172 hN_cX8_drop hn_cX8_drop rfl rfl
def nN_cX8_item : Nat := 0xac043701b604151d0519acf31006009a3301b6041d0519ac0615060099061506363001b61c0519053a321b2300b42aac0205009a2601b81c0a00992301b81b
theorem hN_cX8_item : qr_n cX8_item.data.toList = nN_cX8_item := by decide +kernel
theorem hn_cX8_item : cX8_item.size = 63 := by decide +kernel
theorem dX8_item_0 : decode cX8_item 0 = .ok (.iload_n 1, 1) := qr_o27 hN_cX8_item hn_cX8_item rfl rfl
theorem dX8_item_1 : decode cX8_item 1 = .ok (.invokestatic 291, 3) := qr_o184 1 35 hN_cX8_item hn_cX8_item rfl rfl rfl rfl
theorem dX8_item_4 : decode cX8_item 4 = .ok (.ifCond .eq 10, 3) := qr_o153 0 10 rfl hN_cX8_item hn_cX8_item rfl rfl rfl rfl
theorem dX8_item_7 : decode cX8_item 7 = .ok (.iload_n 2, 1) := qr_o28 hN_cX8_item hn_cX8_item rfl rfl
theorem dX8_item_8 : decode cX8_item 8 = .ok (.invokestatic 294, 3) := qr_o184 1 38 hN_cX8_item hn_cX8_item rfl rfl rfl rfl
theorem dX8_item_11 : decode cX8_item 11 = .ok (.ifCond .ne 5, 3) := qr_o154 0 5 rfl hN_cX8_item hn_cX8_item rfl rfl rfl rfl
theorem dX8_item_14 : decode cX8_item 14 = .ok (.iconst (-1), 1) := qr_o2 hN_cX8_item hn_cX8_item rfl rfl
theorem dX8_item_15 : decode cX8_item 15 = .ok (.ireturn, 1) := qr_o172 hN_cX8_item hn_cX8_item rfl rfl
theorem dX8_item_16 : decode cX8_item 16 = .ok (.aload_n 0, 1) := qr_o42 hN_cX8_item hn_cX8_item rfl rfl
theorem dX8_item_17 : decode cX8_item 17 = .ok (.getfield 35, 3) := qr_o180 0 35 hN_cX8_item hn_cX8_item rfl rfl rfl rfl
theorem dX8_item_20 : decode cX8_item 20 = .ok (.iload_n 1, 1) := qr_o27 hN_cX8_item hn_cX8_item rfl rfl
theorem dX8_item_21 : decode cX8_item 21 = .ok (.aaload, 1) := qr_o50 hN_cX8_item hn_cX8_item rfl rfl
theorem dX8_item_22 : decode cX8_item 22 = .ok (.astore 5, 2) := qr_o58 5 hN_cX8_item hn_cX8_item rfl rfl rfl
theorem dX8_item_24 : decode cX8_item 24 = .ok (.aload 5, 2) := qr_o25 5 hN_cX8_item hn_cX8_item rfl rfl rfl
theorem dX8_item_26 : decode cX8_item 26 = .ok (.iload_n 2, 1) := qr_o28 hN_cX8_item hn_cX8_item rfl rfl
theorem dX8_item_27 : decode cX8_item 27 = .ok (.invokevirtual 304, 3) := qr_o182 1 48 hN_cX8_item hn_cX8_item rfl rfl rfl rfl
theorem dX8_item_30 : decode cX8_item 30 = .ok (.istore 6, 2) := qr_o54 6 hN_cX8_item hn_cX8_item rfl rfl rfl
theorem dX8_item_32 : decode cX8_item 32 = .ok (.iload 6, 2) := qr_o21 6 hN_cX8_item hn_cX8_item rfl rfl rfl
theorem dX8_item_34 : decode cX8_item 34 = .ok (.ifCond .eq 6, 3) := qr_o153 0 6 rfl hN_cX8_item hn_cX8_item rfl rfl rfl rfl
theorem dX8_item_37 : decode cX8_item 37 = .ok (.iload 6, 2) := qr_o21 6 hN_cX8_item hn_cX8_item rfl rfl rfl
theorem dX8_item_39 : decode cX8_item 39 = .ok (.ireturn, 1) := qr_o172 hN_cX8_item hn_cX8_item rfl rfl
theorem dX8_item_40 : decode cX8_item 40 = .ok (.aload 5, 2) := qr_o25 5 hN_cX8_item hn_cX8_item rfl rfl rfl
theorem dX8_item_42 : decode cX8_item 42 = .ok (.iload_n 3, 1) := qr_o29 hN_cX8_item hn_cX8_item rfl rfl
theorem dX8_item_43 : decode cX8_item 43 = .ok (.iconst 1, 1) := qr_o4 hN_cX8_item hn_cX8_item rfl rfl
theorem dX8_item_44 : decode cX8_item 44 = .ok (.invokevirtual 307, 3) := qr_o182 1 51 hN_cX8_item hn_cX8_item rfl rfl rfl rfl
theorem dX8_item_47 : decode cX8_item 47 = .ok (.ifCond .ne 6, 3) := qr_o154 0 6 rfl hN_cX8_item hn_cX8_item rfl rfl rfl rfl
theorem dX8_item_50 : decode cX8_item 50 = .ok (.bipush (-13), 2) := qr_w16 243 13 rfl rfl hN_cX8_item hn_cX8_item rfl rfl rfl
theorem dX8_item_52 : decode cX8_item 52 = .ok (.ireturn, 1) := qr_o172 hN_cX8_item hn_cX8_item rfl rfl
theorem dX8_item_53 : decode cX8_item 53 = .ok (.aload 5, 2) := qr_o25 5 hN_cX8_item hn_cX8_item rfl rfl rfl
theorem dX8_item_55 : decode cX8_item 55 = .ok (.iload_n 3, 1) := qr_o29 hN_cX8_item hn_cX8_item rfl rfl
theorem dX8_item_56 : decode cX8_item 56 = .ok (.iload 4, 2) := qr_o21 4 hN_cX8_item hn_cX8_item rfl rfl rfl
theorem dX8_item_58 : decode cX8_item 58 = .ok (.invokevirtual 311, 3) := qr_o182 1 55 hN_cX8_item hn_cX8_item rfl rfl rfl rfl
theorem dX8_item_61 : decode cX8_item 61 = .ok (.iconst 1, 1) := qr_o4 hN_cX8_item hn_cX8_item rfl rfl
theorem dX8_item_62 : decode cX8_item 62 = .ok (.ireturn, 1) := qr_o172 hN_cX8_item hn_cX8_item rfl rfl
def nN_cX8_books : Nat := 0xac9900b41300b42ae9ffa70107843e01b66068061007151d05192a1600a204150715073603acfd1006009a9200b604151300b42ae4ffa7010784acfe1006009a3a01b86068061007151d05191b00a204150715073603acf31006009a3301b668061004151d0519ac0615060099061506363001b61c0519053a321b2300b42aac0205009a2700b806100304150e00992601b81c1500992301b81b
theorem hN_cX8_books : qr_n cX8_books.data.toList = nN_cX8_books := by decide +kernel
theorem hn_cX8_books : cX8_books.size = 154 := by decide +kernel
theorem dX8_books_0 : decode cX8_books 0 = .ok (.iload_n 1, 1) := qr_o27 hN_cX8_books hn_cX8_books rfl rfl
theorem dX8_books_1 : decode cX8_books 1 = .ok (.invokestatic 291, 3) := qr_o184 1 35 hN_cX8_books hn_cX8_books rfl rfl rfl rfl
theorem dX8_books_4 : decode cX8_books 4 = .ok (.ifCond .eq 21, 3) := qr_o153 0 21 rfl hN_cX8_books hn_cX8_books rfl rfl rfl rfl
theorem dX8_books_7 : decode cX8_books 7 = .ok (.iload_n 2, 1) := qr_o28 hN_cX8_books hn_cX8_books rfl rfl
theorem dX8_books_8 : decode cX8_books 8 = .ok (.invokestatic 294, 3) := qr_o184 1 38 hN_cX8_books hn_cX8_books rfl rfl rfl rfl
theorem dX8_books_11 : decode cX8_books 11 = .ok (.ifCond .eq 14, 3) := qr_o153 0 14 rfl hN_cX8_books hn_cX8_books rfl rfl rfl rfl
theorem dX8_books_14 : decode cX8_books 14 = .ok (.iload 4, 2) := qr_o21 4 hN_cX8_books hn_cX8_books rfl rfl rfl
theorem dX8_books_16 : decode cX8_books 16 = .ok (.iconst 0, 1) := qr_o3 hN_cX8_books hn_cX8_books rfl rfl
theorem dX8_books_17 : decode cX8_books 17 = .ok (.bipush 6, 2) := qr_o16 6 rfl hN_cX8_books hn_cX8_books rfl rfl rfl
theorem dX8_books_19 : decode cX8_books 19 = .ok (.invokestatic 39, 3) := qr_o184 0 39 hN_cX8_books hn_cX8_books rfl rfl rfl rfl
theorem dX8_books_22 : decode cX8_books 22 = .ok (.ifCond .ne 5, 3) := qr_o154 0 5 rfl hN_cX8_books hn_cX8_books rfl rfl rfl rfl
theorem dX8_books_25 : decode cX8_books 25 = .ok (.iconst (-1), 1) := qr_o2 hN_cX8_books hn_cX8_books rfl rfl
theorem dX8_books_26 : decode cX8_books 26 = .ok (.ireturn, 1) := qr_o172 hN_cX8_books hn_cX8_books rfl rfl
theorem dX8_books_27 : decode cX8_books 27 = .ok (.aload_n 0, 1) := qr_o42 hN_cX8_books hn_cX8_books rfl rfl
theorem dX8_books_28 : decode cX8_books 28 = .ok (.getfield 35, 3) := qr_o180 0 35 hN_cX8_books hn_cX8_books rfl rfl rfl rfl
theorem dX8_books_31 : decode cX8_books 31 = .ok (.iload_n 1, 1) := qr_o27 hN_cX8_books hn_cX8_books rfl rfl
theorem dX8_books_32 : decode cX8_books 32 = .ok (.aaload, 1) := qr_o50 hN_cX8_books hn_cX8_books rfl rfl
theorem dX8_books_33 : decode cX8_books 33 = .ok (.astore 5, 2) := qr_o58 5 hN_cX8_books hn_cX8_books rfl rfl rfl
theorem dX8_books_35 : decode cX8_books 35 = .ok (.aload 5, 2) := qr_o25 5 hN_cX8_books hn_cX8_books rfl rfl rfl
theorem dX8_books_37 : decode cX8_books 37 = .ok (.iload_n 2, 1) := qr_o28 hN_cX8_books hn_cX8_books rfl rfl
theorem dX8_books_38 : decode cX8_books 38 = .ok (.invokevirtual 304, 3) := qr_o182 1 48 hN_cX8_books hn_cX8_books rfl rfl rfl rfl
theorem dX8_books_41 : decode cX8_books 41 = .ok (.istore 6, 2) := qr_o54 6 hN_cX8_books hn_cX8_books rfl rfl rfl
theorem dX8_books_43 : decode cX8_books 43 = .ok (.iload 6, 2) := qr_o21 6 hN_cX8_books hn_cX8_books rfl rfl rfl
theorem dX8_books_45 : decode cX8_books 45 = .ok (.ifCond .eq 6, 3) := qr_o153 0 6 rfl hN_cX8_books hn_cX8_books rfl rfl rfl rfl
theorem dX8_books_48 : decode cX8_books 48 = .ok (.iload 6, 2) := qr_o21 6 hN_cX8_books hn_cX8_books rfl rfl rfl
theorem dX8_books_50 : decode cX8_books 50 = .ok (.ireturn, 1) := qr_o172 hN_cX8_books hn_cX8_books rfl rfl
theorem dX8_books_51 : decode cX8_books 51 = .ok (.aload 5, 2) := qr_o25 5 hN_cX8_books hn_cX8_books rfl rfl rfl
theorem dX8_books_53 : decode cX8_books 53 = .ok (.iload_n 3, 1) := qr_o29 hN_cX8_books hn_cX8_books rfl rfl
theorem dX8_books_54 : decode cX8_books 54 = .ok (.iload 4, 2) := qr_o21 4 hN_cX8_books hn_cX8_books rfl rfl rfl
theorem dX8_books_56 : decode cX8_books 56 = .ok (.bipush 6, 2) := qr_o16 6 rfl hN_cX8_books hn_cX8_books rfl rfl rfl
theorem dX8_books_58 : decode cX8_books 58 = .ok (.imul, 1) := qr_o104 hN_cX8_books hn_cX8_books rfl rfl
theorem dX8_books_59 : decode cX8_books 59 = .ok (.invokevirtual 307, 3) := qr_o182 1 51 hN_cX8_books hn_cX8_books rfl rfl rfl rfl
theorem dX8_books_62 : decode cX8_books 62 = .ok (.ifCond .ne 6, 3) := qr_o154 0 6 rfl hN_cX8_books hn_cX8_books rfl rfl rfl rfl
theorem dX8_books_65 : decode cX8_books 65 = .ok (.bipush (-13), 2) := qr_w16 243 13 rfl rfl hN_cX8_books hn_cX8_books rfl rfl rfl
theorem dX8_books_67 : decode cX8_books 67 = .ok (.ireturn, 1) := qr_o172 hN_cX8_books hn_cX8_books rfl rfl
theorem dX8_books_68 : decode cX8_books 68 = .ok (.iconst 0, 1) := qr_o3 hN_cX8_books hn_cX8_books rfl rfl
theorem dX8_books_69 : decode cX8_books 69 = .ok (.istore 7, 2) := qr_o54 7 hN_cX8_books hn_cX8_books rfl rfl rfl
theorem dX8_books_71 : decode cX8_books 71 = .ok (.iload 7, 2) := qr_o21 7 hN_cX8_books hn_cX8_books rfl rfl rfl
theorem dX8_books_73 : decode cX8_books 73 = .ok (.iload 4, 2) := qr_o21 4 hN_cX8_books hn_cX8_books rfl rfl rfl
theorem dX8_books_75 : decode cX8_books 75 = .ok (.if_icmp .ge 27, 3) := qr_o162 0 27 rfl hN_cX8_books hn_cX8_books rfl rfl rfl rfl
theorem dX8_books_78 : decode cX8_books 78 = .ok (.aload 5, 2) := qr_o25 5 hN_cX8_books hn_cX8_books rfl rfl rfl
theorem dX8_books_80 : decode cX8_books 80 = .ok (.iload_n 3, 1) := qr_o29 hN_cX8_books hn_cX8_books rfl rfl
theorem dX8_books_81 : decode cX8_books 81 = .ok (.iload 7, 2) := qr_o21 7 hN_cX8_books hn_cX8_books rfl rfl rfl
theorem dX8_books_83 : decode cX8_books 83 = .ok (.bipush 6, 2) := qr_o16 6 rfl hN_cX8_books hn_cX8_books rfl rfl rfl
theorem dX8_books_85 : decode cX8_books 85 = .ok (.imul, 1) := qr_o104 hN_cX8_books hn_cX8_books rfl rfl
theorem dX8_books_86 : decode cX8_books 86 = .ok (.iadd, 1) := qr_o96 hN_cX8_books hn_cX8_books rfl rfl
theorem dX8_books_87 : decode cX8_books 87 = .ok (.invokestatic 314, 3) := qr_o184 1 58 hN_cX8_books hn_cX8_books rfl rfl rfl rfl
theorem dX8_books_90 : decode cX8_books 90 = .ok (.ifCond .ne 6, 3) := qr_o154 0 6 rfl hN_cX8_books hn_cX8_books rfl rfl rfl rfl
theorem dX8_books_93 : decode cX8_books 93 = .ok (.bipush (-2), 2) := qr_w16 254 2 rfl rfl hN_cX8_books hn_cX8_books rfl rfl rfl
theorem dX8_books_95 : decode cX8_books 95 = .ok (.ireturn, 1) := qr_o172 hN_cX8_books hn_cX8_books rfl rfl
theorem dX8_books_96 : decode cX8_books 96 = .ok (.iinc 7 1, 3) := qr_o132 7 1 rfl hN_cX8_books hn_cX8_books rfl rfl rfl rfl
theorem dX8_books_99 : decode cX8_books 99 = .ok (.goto (-28), 3) := qr_w167 255 228 28 rfl rfl hN_cX8_books hn_cX8_books rfl rfl rfl rfl
theorem dX8_books_102 : decode cX8_books 102 = .ok (.aload_n 0, 1) := qr_o42 hN_cX8_books hn_cX8_books rfl rfl
theorem dX8_books_103 : decode cX8_books 103 = .ok (.getfield 19, 3) := qr_o180 0 19 hN_cX8_books hn_cX8_books rfl rfl rfl rfl
theorem dX8_books_106 : decode cX8_books 106 = .ok (.iload 4, 2) := qr_o21 4 hN_cX8_books hn_cX8_books rfl rfl rfl
theorem dX8_books_108 : decode cX8_books 108 = .ok (.invokevirtual 146, 3) := qr_o182 0 146 hN_cX8_books hn_cX8_books rfl rfl rfl rfl
theorem dX8_books_111 : decode cX8_books 111 = .ok (.ifCond .ne 6, 3) := qr_o154 0 6 rfl hN_cX8_books hn_cX8_books rfl rfl rfl rfl
theorem dX8_books_114 : decode cX8_books 114 = .ok (.bipush (-3), 2) := qr_w16 253 3 rfl rfl hN_cX8_books hn_cX8_books rfl rfl rfl
theorem dX8_books_116 : decode cX8_books 116 = .ok (.ireturn, 1) := qr_o172 hN_cX8_books hn_cX8_books rfl rfl
theorem dX8_books_117 : decode cX8_books 117 = .ok (.iconst 0, 1) := qr_o3 hN_cX8_books hn_cX8_books rfl rfl
theorem dX8_books_118 : decode cX8_books 118 = .ok (.istore 7, 2) := qr_o54 7 hN_cX8_books hn_cX8_books rfl rfl rfl
theorem dX8_books_120 : decode cX8_books 120 = .ok (.iload 7, 2) := qr_o21 7 hN_cX8_books hn_cX8_books rfl rfl rfl
theorem dX8_books_122 : decode cX8_books 122 = .ok (.iload 4, 2) := qr_o21 4 hN_cX8_books hn_cX8_books rfl rfl rfl
theorem dX8_books_124 : decode cX8_books 124 = .ok (.if_icmp .ge 22, 3) := qr_o162 0 22 rfl hN_cX8_books hn_cX8_books rfl rfl rfl rfl
theorem dX8_books_127 : decode cX8_books 127 = .ok (.aload_n 0, 1) := qr_o42 hN_cX8_books hn_cX8_books rfl rfl
theorem dX8_books_128 : decode cX8_books 128 = .ok (.aload 5, 2) := qr_o25 5 hN_cX8_books hn_cX8_books rfl rfl rfl
theorem dX8_books_130 : decode cX8_books 130 = .ok (.iload_n 3, 1) := qr_o29 hN_cX8_books hn_cX8_books rfl rfl
theorem dX8_books_131 : decode cX8_books 131 = .ok (.iload 7, 2) := qr_o21 7 hN_cX8_books hn_cX8_books rfl rfl rfl
theorem dX8_books_133 : decode cX8_books 133 = .ok (.bipush 6, 2) := qr_o16 6 rfl hN_cX8_books hn_cX8_books rfl rfl rfl
theorem dX8_books_135 : decode cX8_books 135 = .ok (.imul, 1) := qr_o104 hN_cX8_books hn_cX8_books rfl rfl
theorem dX8_books_136 : decode cX8_books 136 = .ok (.iadd, 1) := qr_o96 hN_cX8_books hn_cX8_books rfl rfl
theorem dX8_books_137 : decode cX8_books 137 = .ok (.invokevirtual 318, 3) := qr_o182 1 62 hN_cX8_books hn_cX8_books rfl rfl rfl rfl
theorem dX8_books_140 : decode cX8_books 140 = .ok (.iinc 7 1, 3) := qr_o132 7 1 rfl hN_cX8_books hn_cX8_books rfl rfl rfl rfl
theorem dX8_books_143 : decode cX8_books 143 = .ok (.goto (-23), 3) := qr_w167 255 233 23 rfl rfl hN_cX8_books hn_cX8_books rfl rfl rfl rfl
theorem dX8_books_146 : decode cX8_books 146 = .ok (.aload_n 0, 1) := qr_o42 hN_cX8_books hn_cX8_books rfl rfl
theorem dX8_books_147 : decode cX8_books 147 = .ok (.getfield 19, 3) := qr_o180 0 19 hN_cX8_books hn_cX8_books rfl rfl rfl rfl
theorem dX8_books_150 : decode cX8_books 150 = .ok (.getfield 153, 3) := qr_o180 0 153 hN_cX8_books hn_cX8_books rfl rfl rfl rfl
theorem dX8_books_153 : decode cX8_books 153 = .ok (.ireturn, 1) := qr_o172 hN_cX8_books hn_cX8_books rfl rfl
def nN_cX8_isIn : Nat := 0xac030400a7040700a31c1a0c00a11b1a
theorem hN_cX8_isIn : qr_n cX8_isIn.data.toList = nN_cX8_isIn := by decide +kernel
theorem hn_cX8_isIn : cX8_isIn.size = 16 := by decide +kernel
theorem dX8_isIn_0 : decode cX8_isIn 0 = .ok (.iload_n 0, 1) := qr_o26 hN_cX8_isIn hn_cX8_isIn rfl rfl
theorem dX8_isIn_1 : decode cX8_isIn 1 = .ok (.iload_n 1, 1) := qr_o27 hN_cX8_isIn hn_cX8_isIn rfl rfl
theorem dX8_isIn_2 : decode cX8_isIn 2 = .ok (.if_icmp .lt 12, 3) := qr_o161 0 12 rfl hN_cX8_isIn hn_cX8_isIn rfl rfl rfl rfl
theorem dX8_isIn_5 : decode cX8_isIn 5 = .ok (.iload_n 0, 1) := qr_o26 hN_cX8_isIn hn_cX8_isIn rfl rfl
theorem dX8_isIn_6 : decode cX8_isIn 6 = .ok (.iload_n 2, 1) := qr_o28 hN_cX8_isIn hn_cX8_isIn rfl rfl
theorem dX8_isIn_7 : decode cX8_isIn 7 = .ok (.if_icmp .gt 7, 3) := qr_o163 0 7 rfl hN_cX8_isIn hn_cX8_isIn rfl rfl rfl rfl
theorem dX8_isIn_10 : decode cX8_isIn 10 = .ok (.iconst 1, 1) := qr_o4 hN_cX8_isIn hn_cX8_isIn rfl rfl
theorem dX8_isIn_11 : decode cX8_isIn 11 = .ok (.goto 4, 3) := qr_o167 0 4 rfl hN_cX8_isIn hn_cX8_isIn rfl rfl rfl rfl
theorem dX8_isIn_14 : decode cX8_isIn 14 = .ok (.iconst 0, 1) := qr_o3 hN_cX8_isIn hn_cX8_isIn rfl rfl
theorem dX8_isIn_15 : decode cX8_isIn 15 = .ok (.ireturn, 1) := qr_o172 hN_cX8_isIn hn_cX8_isIn rfl rfl
def nN_cX8_isTown : Nat := 0xac2700b80810031a
theorem hN_cX8_isTown : qr_n cX8_isTown.data.toList = nN_cX8_isTown := by decide +kernel
theorem hn_cX8_isTown : cX8_isTown.size = 8 := by decide +kernel
theorem dX8_isTown_0 : decode cX8_isTown 0 = .ok (.iload_n 0, 1) := qr_o26 hN_cX8_isTown hn_cX8_isTown rfl rfl
theorem dX8_isTown_1 : decode cX8_isTown 1 = .ok (.iconst 0, 1) := qr_o3 hN_cX8_isTown hn_cX8_isTown rfl rfl
theorem dX8_isTown_2 : decode cX8_isTown 2 = .ok (.bipush 8, 2) := qr_o16 8 rfl hN_cX8_isTown hn_cX8_isTown rfl rfl rfl
theorem dX8_isTown_4 : decode cX8_isTown 4 = .ok (.invokestatic 39, 3) := qr_o184 0 39 hN_cX8_isTown hn_cX8_isTown rfl rfl rfl rfl
theorem dX8_isTown_7 : decode cX8_isTown 7 = .ok (.ireturn, 1) := qr_o172 hN_cX8_isTown hn_cX8_isTown rfl rfl
def nN_cX8_isMaker : Nat := 0xac2700b808031a
theorem hN_cX8_isMaker : qr_n cX8_isMaker.data.toList = nN_cX8_isMaker := by decide +kernel
theorem hn_cX8_isMaker : cX8_isMaker.size = 7 := by decide +kernel
theorem dX8_isMaker_0 : decode cX8_isMaker 0 = .ok (.iload_n 0, 1) := qr_o26 hN_cX8_isMaker hn_cX8_isMaker rfl rfl
theorem dX8_isMaker_1 : decode cX8_isMaker 1 = .ok (.iconst 0, 1) := qr_o3 hN_cX8_isMaker hn_cX8_isMaker rfl rfl
theorem dX8_isMaker_2 : decode cX8_isMaker 2 = .ok (.iconst 5, 1) := qr_o8 hN_cX8_isMaker hn_cX8_isMaker rfl rfl
theorem dX8_isMaker_3 : decode cX8_isMaker 3 = .ok (.invokestatic 39, 3) := qr_o184 0 39 hN_cX8_isMaker hn_cX8_isMaker rfl rfl rfl rfl
theorem dX8_isMaker_6 : decode cX8_isMaker 6 = .ok (.ireturn, 1) := qr_o172 hN_cX8_isMaker hn_cX8_isMaker rfl rfl
def nN_cX8_isLabel : Nat := 0xac2700b82810041a
theorem hN_cX8_isLabel : qr_n cX8_isLabel.data.toList = nN_cX8_isLabel := by decide +kernel
theorem hn_cX8_isLabel : cX8_isLabel.size = 8 := by decide +kernel
theorem dX8_isLabel_0 : decode cX8_isLabel 0 = .ok (.iload_n 0, 1) := qr_o26 hN_cX8_isLabel hn_cX8_isLabel rfl rfl
theorem dX8_isLabel_1 : decode cX8_isLabel 1 = .ok (.iconst 1, 1) := qr_o4 hN_cX8_isLabel hn_cX8_isLabel rfl rfl
theorem dX8_isLabel_2 : decode cX8_isLabel 2 = .ok (.bipush 40, 2) := qr_o16 40 rfl hN_cX8_isLabel hn_cX8_isLabel rfl rfl rfl
theorem dX8_isLabel_4 : decode cX8_isLabel 4 = .ok (.invokestatic 39, 3) := qr_o184 0 39 hN_cX8_isLabel hn_cX8_isLabel rfl rfl rfl rfl
theorem dX8_isLabel_7 : decode cX8_isLabel 7 = .ok (.ireturn, 1) := qr_o172 hN_cX8_isLabel hn_cX8_isLabel rfl rfl
def nN_cX8_isDay : Nat := 0xac2700b88f0111031a
theorem hN_cX8_isDay : qr_n cX8_isDay.data.toList = nN_cX8_isDay := by decide +kernel
theorem hn_cX8_isDay : cX8_isDay.size = 9 := by decide +kernel
theorem dX8_isDay_0 : decode cX8_isDay 0 = .ok (.iload_n 0, 1) := qr_o26 hN_cX8_isDay hn_cX8_isDay rfl rfl
theorem dX8_isDay_1 : decode cX8_isDay 1 = .ok (.iconst 0, 1) := qr_o3 hN_cX8_isDay hn_cX8_isDay rfl rfl
theorem dX8_isDay_2 : decode cX8_isDay 2 = .ok (.sipush 399, 3) := qr_o17 1 143 rfl hN_cX8_isDay hn_cX8_isDay rfl rfl rfl rfl
theorem dX8_isDay_5 : decode cX8_isDay 5 = .ok (.invokestatic 39, 3) := qr_o184 0 39 hN_cX8_isDay hn_cX8_isDay rfl rfl rfl rfl
theorem dX8_isDay_8 : decode cX8_isDay 8 = .ok (.ireturn, 1) := qr_o172 hN_cX8_isDay hn_cX8_isDay rfl rfl
def nN_cX8_isSheet : Nat := 0xac2700b806031a
theorem hN_cX8_isSheet : qr_n cX8_isSheet.data.toList = nN_cX8_isSheet := by decide +kernel
theorem hn_cX8_isSheet : cX8_isSheet.size = 7 := by decide +kernel
theorem dX8_isSheet_0 : decode cX8_isSheet 0 = .ok (.iload_n 0, 1) := qr_o26 hN_cX8_isSheet hn_cX8_isSheet rfl rfl
theorem dX8_isSheet_1 : decode cX8_isSheet 1 = .ok (.iconst 0, 1) := qr_o3 hN_cX8_isSheet hn_cX8_isSheet rfl rfl
theorem dX8_isSheet_2 : decode cX8_isSheet 2 = .ok (.iconst 3, 1) := qr_o6 hN_cX8_isSheet hn_cX8_isSheet rfl rfl
theorem dX8_isSheet_3 : decode cX8_isSheet 3 = .ok (.invokestatic 39, 3) := qr_o184 0 39 hN_cX8_isSheet hn_cX8_isSheet rfl rfl rfl rfl
theorem dX8_isSheet_6 : decode cX8_isSheet 6 = .ok (.ireturn, 1) := qr_o172 hN_cX8_isSheet hn_cX8_isSheet rfl rfl
def nN_cX8_isLane : Nat := 0xac2700b805031a
theorem hN_cX8_isLane : qr_n cX8_isLane.data.toList = nN_cX8_isLane := by decide +kernel
theorem hn_cX8_isLane : cX8_isLane.size = 7 := by decide +kernel
theorem dX8_isLane_0 : decode cX8_isLane 0 = .ok (.iload_n 0, 1) := qr_o26 hN_cX8_isLane hn_cX8_isLane rfl rfl
end
