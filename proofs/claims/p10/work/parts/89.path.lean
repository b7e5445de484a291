section RCB
variable {np nb k b f : Nat} {so so' : Nat → Nat → Int32} {st st' : Nat → Option (List (Nat × Nat))} {S S' : gw_S} {l : List (Nat × Nat)}
/-- ways from a BOOKING to a FREE PIECE, over so many swaps; PIECES may come again -/
def pT (so : Nat → Nat → Int32) (np nb : Nat) : Nat → Nat → Prop
  | 0, b => ∃ p, p < np ∧ so b p = -1
  | s + 1, b => ∃ p c, p < np ∧ c < nb ∧ so b p = nI c ∧ pT so np nb s c
/-- the first of PIECES for which a step succeeds -/
def fG (np : Nat) (st : Nat → Option (List (Nat × Nat))) : Nat → Option (List (Nat × Nat))
  | 0 => none
  | k + 1 => match st (np - (k + 1)) with
    | some l => some l
    | none => fG np st k
/-- the first CHAIN with so many swaps -/
def fN (so : Nat → Nat → Int32) (np : Nat) : Nat → Nat → List Nat → Option (List (Nat × Nat))
  | 0, b, T => fG np (fun p => if p ∈ T then none else if so b p = -1 then some [(b, p)] else none) np
  | s + 1, b, T => fG np (fun p => if p ∈ T then none else if 0 ≤ so b p then (fN so np s (so b p).toNatClampNeg (p :: T)).map (fun l => (b, p) :: l) else none) np
def fSt (so : Nat → Nat → Int32) (np : Nat) (s b : Nat) (T : List Nat) (p : Nat) : Option (List (Nat × Nat)) := match s with
  | 0 => if p ∈ T then none else if so b p = -1 then some [(b, p)] else none
  | s + 1 => if p ∈ T then none else if 0 ≤ so b p then (fN so np s (so b p).toNatClampNeg (p :: T)).map (fun l => (b, p) :: l) else none
theorem fN_e {s : Nat} {T : List Nat} : fN so np s b T = fG np (fSt so np s b T) np := by cases s <;> rfl
def sR (so : Nat → Nat → Int32) (np nb : Nat) : Prop := nb ≤ 30 ∧ ∀ b, b < nb → ∀ p, p < np → so b p = -2 ∨ so b p = -1 ∨ ∃ c, c < nb ∧ so b p = nI c
theorem fG_c (h : ∀ p, p < np → st p = st' p) : ∀ k, k ≤ np → fG np st k = fG np st' k
  | 0, _ => rfl
  | k + 1, hk => by
    unfold fG
    rw [h _ (by omega), fG_c h k (by omega)]
theorem fG_s : ∀ k, k ≤ np → fG np st k = some l → ∃ p, p < np ∧ st p = some l
  | 0, _, h => by exact absurd h (by unfold fG; simp)
  | k + 1, hk, h => by
    unfold fG at h
    cases e : st (np - (k + 1)) with
    | some l' => rw [e] at h; simp only [Option.some.injEq] at h; subst h; exact ⟨_, by omega, e⟩
    | none => rw [e] at h; exact fG_s k (by omega) h
theorem sR.of (h : sR so np nb) (hb : b < nb) {p : Nat} (hp : p < np) (h0 : 0 ≤ so b p) : ∃ c, c < nb ∧ so b p = nI c := by
  rcases h.2 b hb p hp with q | q | q
  · rw [q] at h0; exact absurd h0 (by decide)
  · rw [q] at h0; exact absurd h0 (by decide)
  · exact q
theorem fN_ok (h : sR so np nb) : ∀ (s b : Nat) (T : List Nat) (l : List (Nat × Nat)), b < nb → fN so np s b T = some l → pT so np nb s b ∧ l.length = s + 1 ∧ ∀ x, x ∈ l → x.1 < nb ∧ x.2 < np
  | 0, b, T, l, hb, e => by
    obtain ⟨p, hp, e⟩ := fG_s np (Nat.le_refl np) e
    split at e
    · exact absurd e (by simp)
    · split at e
      · rename_i q
        simp only [Option.some.injEq] at e
        subst e
        exact ⟨⟨p, hp, q⟩, rfl, fun x hx => by simp only [List.mem_singleton] at hx; subst hx; exact ⟨hb, hp⟩⟩
      · exact absurd e (by simp)
  | s + 1, b, T, l, hb, e => by
    obtain ⟨p, hp, e⟩ := fG_s np (Nat.le_refl np) e
    split at e
    · exact absurd e (by simp)
    · split at e
      · rename_i q
        obtain ⟨c, hc, ec⟩ := h.of hb hp q
        have hnb := h.1
        rw [ec, nI_clamp (by omega)] at e
        cases e2 : fN so np s c (p :: T) with
        | none => rw [e2] at e; exact absurd e (by simp)
        | some l' =>
          rw [e2] at e
          simp only [Option.map_some, Option.some.injEq] at e
          subst e
          obtain ⟨k1, k2, k3⟩ := fN_ok h s c _ l' hc e2
          refine ⟨⟨p, c, hp, hc, ec, k1⟩, by simp [k2], fun x hx => ?_⟩
          simp only [List.mem_cons] at hx
          rcases hx with rfl | hx
          · exact ⟨hb, hp⟩
          · exact k3 x hx
      · exact absurd e (by simp)
theorem fN_q {own : Nat → Nat → Prop} {ok : Nat → Prop} (hR : sR so' np nb) (h : ∀ b, b < nb → ok b → ∀ p, p < np → ¬ own b p → so b p = so' b p) (h2 : ∀ b, b < nb → ∀ p, p < np → ∀ c, c < nb → so' b p = nI c → ok c ∧ ∀ p', own c p' → p' = p) : ∀ (s b : Nat) (T : List Nat), b < nb → ok b → (∀ p, own b p → p ∈ T) → fN so np s b T = fN so' np s b T
  | 0, b, T, hb, hk, ho => by
    refine fG_c (fun p hp => ?_) np (Nat.le_refl np)
    by_cases c : p ∈ T
    · rw [if_pos c, if_pos c]
    · rw [if_neg c, if_neg c, h b hb hk p hp (fun q => c (ho p q))]
  | s + 1, b, T, hb, hk, ho => by
    refine fG_c (fun p hp => ?_) np (Nat.le_refl np)
    by_cases c : p ∈ T
    · rw [if_pos c, if_pos c]
    · rw [if_neg c, if_neg c, h b hb hk p hp (fun q => c (ho p q))]
      by_cases c2 : 0 ≤ so' b p
      · rw [if_pos c2, if_pos c2]
        obtain ⟨c', hc', ec⟩ := hR.of hb hp c2
        have hnb := hR.1
        have := h2 b hb p hp c' hc' ec
        rw [ec, nI_clamp (by omega), fN_q hR h h2 s c' (p :: T) hc' this.1 (fun p' q => by rw [this.2 p' q]; exact List.mem_cons_self)]
      · rw [if_neg c2, if_neg c2]
/-- a CHAIN written down in two rows -/
def fRw (ra rb : Nat) (S : gw_S) : List (Nat × Nat) → Nat → Prop
  | [], _ => True
  | (b, p) :: l, k => S ra k = nI b ∧ S rb k = nI p ∧ fRw ra rb S l (k + 1)
theorem fRw_fr {ra rb : Nat} : ∀ (l : List (Nat × Nat)) (k : Nat), (∀ i, k ≤ i → S' ra i = S ra i ∧ S' rb i = S rb i) → fRw ra rb S l k → fRw ra rb S' l k
  | [], _, _, _ => trivial
  | (b, p) :: l, k, h, hr => ⟨by rw [(h k (Nat.le_refl k)).1]; exact hr.1, by rw [(h k (Nat.le_refl k)).2]; exact hr.2.1, fRw_fr l (k + 1) (fun i hi => h i (by omega)) hr.2.2⟩
theorem fRw_two {ra rb ra' rb' : Nat} : ∀ (l : List (Nat × Nat)) (k : Nat), fRw ra rb S l k → fRw ra' rb' S' l k → ∀ i, i < l.length → ∃ x, x ∈ l ∧ S ra (k + i) = nI x.1 ∧ S rb (k + i) = nI x.2 ∧ S' ra' (k + i) = nI x.1 ∧ S' rb' (k + i) = nI x.2
  | [], _, _, _, i, hi => absurd hi (by simp)
  | (b, p) :: l, k, h, h', 0, _ => ⟨(b, p), List.mem_cons_self, h.1, h.2.1, h'.1, h'.2.1⟩
  | (b, p) :: l, k, h, h', i + 1, hi => by
    obtain ⟨x, h1, h2, h3, h4, h5⟩ := fRw_two l (k + 1) h.2.2 h'.2.2 i (by simpa using hi)
    rw [show k + 1 + i = k + (i + 1) by omega] at h2 h3 h4 h5
    exact ⟨x, List.mem_cons_of_mem _ h1, h2, h3, h4, h5⟩
end RCB
