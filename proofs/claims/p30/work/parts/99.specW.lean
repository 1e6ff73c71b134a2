/-! THE REFERENCE: taking a letter -/
theorem tk_fld {w : Nat} {r : List Nat} (hw : w = 0 ∨ w = 1 ∨ w = 2) (h : leW w (60 :: r) = 0) : ∃ d r2 w', r = d :: 62 :: r2 ∧ fldB d = true ∧ leW w' r2 = 0 ∧ (w' = 0 ∨ w' = 1 ∨ w' = 2) ∧ tkw w (60 :: r) = (256 + d) :: tkw w' r2 := by
  have n1 : nxt w 60 = 3 ∨ nxt w 60 = 5 := by rcases hw with rfl | rfl | rfl <;> decide
  have t1 : tkw w (60 :: r) = tkw (nxt w 60) r := by
    show (if w = 3 ∨ w = 5 then _ else if w = 4 ∨ w = 6 ∨ 60 = 60 then _ else _) = _
    rw [if_neg (by omega), if_pos (Or.inr (Or.inr rfl))]
  have h1 : leW (nxt w 60) r = 0 := h
  generalize nxt w 60 = w1 at n1 t1 h1
  cases r with
  | nil => exact absurd (show w1 = 0 from h1) (by omega)
  | cons d r1 =>
    have h2 : leW (nxt w1 d) r1 = 0 := h1
    have t2 : tkw w1 (d :: r1) = (256 + d) :: tkw (nxt w1 d) r1 := by
      show (if w1 = 3 ∨ w1 = 5 then _ else _) = _
      rw [if_pos n1]
    have hd : fldB d = true := by
      cases hf : fldB d with
      | true => rfl
      | false =>
        have : nxt w1 d = 7 := by rcases n1 with rfl | rfl <;> (show (if fldB d = true then _ else 7) = 7; rw [if_neg (by rw [hf]; decide)])
        rw [this, leW_7] at h2
        exact absurd h2 (by omega)
    have n2 : nxt w1 d = 4 ∨ nxt w1 d = 6 := by
      rcases n1 with rfl | rfl
      · left; show (if fldB d = true then 4 else 7) = 4; rw [if_pos hd]
      · right; show (if fldB d = true then 6 else 7) = 6; rw [if_pos hd]
    generalize nxt w1 d = w2 at n2 t2 h2
    cases r1 with
    | nil => exact absurd (show w2 = 0 from h2) (by omega)
    | cons e r2 =>
      have h3 : leW (nxt w2 e) r2 = 0 := h2
      have he : e = 62 := by
        by_cases hf : e = 62
        · exact hf
        · have : nxt w2 e = 7 := by rcases n2 with rfl | rfl <;> (show (if e = 62 then _ else 7) = 7; rw [if_neg hf])
          rw [this, leW_7] at h3
          exact absurd h3 (by omega)
      subst he
      have t3 : tkw w2 (62 :: r2) = tkw (nxt w2 62) r2 := by
        show (if w2 = 3 ∨ w2 = 5 then _ else if w2 = 4 ∨ w2 = 6 ∨ 62 = 60 then _ else _) = _
        rw [if_neg (by omega), if_pos (by omega)]
      refine ⟨d, r2, nxt w2 62, rfl, hd, h3, ?_, by rw [t1, t2, t3]⟩
      rcases n2 with rfl | rfl
      · left; rfl
      · right; right; rfl
theorem tk_pln {w c : Nat} {r : List Nat} (hw : w = 0 ∨ w = 1 ∨ w = 2) (hc : c ≠ 60) (h : leW w (c :: r) = 0) : leW (nxt w c) r = 0 ∧ (nxt w c = 0 ∨ nxt w c = 1 ∨ nxt w c = 2) ∧ tkw w (c :: r) = c :: tkw (nxt w c) r := by
  have h1 : leW (nxt w c) r = 0 := h
  refine ⟨h1, ?_, ?_⟩
  · have h7 : nxt w c ≠ 7 := fun e => by rw [e, leW_7] at h1; omega
    rcases hw with rfl | rfl | rfl
    · have e : nxt 0 c = if c = 123 then 1 else if c = 60 then 3 else if plnB c = true then 0 else 7 := rfl
      rw [if_neg hc] at e
      rw [e] at h7 ⊢
      split
      · omega
      · next h' => rw [if_neg h'] at h7; split <;> next h'' => (first | omega | (rw [if_neg h''] at h7; omega))
    · have e : nxt 1 c = if c = 60 then 5 else if plnB c = true then 2 else 7 := rfl
      rw [if_neg hc] at e
      rw [e] at h7 ⊢
      split <;> next h'' => (first | omega | (rw [if_neg h''] at h7; omega))
    · have e : nxt 2 c = if c = 125 then 0 else if c = 60 then 5 else if plnB c = true then 2 else 7 := rfl
      rw [if_neg hc] at e
      rw [e] at h7 ⊢
      split
      · omega
      · next h' => rw [if_neg h'] at h7; split <;> next h'' => (first | omega | (rw [if_neg h''] at h7; omega))
  · show (if w = 3 ∨ w = 5 then _ else if w = 4 ∨ w = 6 ∨ c = 60 then _ else _) = _
    rw [if_neg (by omega), if_neg (by omega)]
theorem fldB_ok {d : Nat} (h : fldB d = true) : okTok (256 + d) ∧ d < 127 := by
  unfold fldB at h
  simp only [Bool.or_eq_true, beq_iff_eq] at h
  unfold okTok
  omega
theorem tkw_all : ∀ (m : Nat) (r : List Nat) (w : Nat), r.length ≤ m → (w = 0 ∨ w = 1 ∨ w = 2) → leW w r = 0 → (∀ c ∈ r, c < 256) → (∀ t ∈ tkw w r, okTok t) ∧ (tkw w r).flatMap exT = r ∧ (tkw w r).length ≤ r.length
  | _, [], w, _, hw, _, _ => ⟨fun t ht => by unfold tkw at ht; exact absurd ht List.not_mem_nil, rfl, Nat.le_refl _⟩
  | 0, c :: r, _, hm, _, _, _ => by rw [List.length_cons] at hm; omega
  | m + 1, c :: r, w, hm, hw, h, hc => by
    rw [List.length_cons] at hm
    by_cases e : c = 60
    · subst e
      obtain ⟨d, r2, w', rfl, hd, h2, hw', et⟩ := tk_fld hw h
      rw [List.length_cons, List.length_cons] at hm
      obtain ⟨i1, i2, i3⟩ := tkw_all m r2 w' (by omega) hw' h2 (fun x hx => hc x (by simp [hx]))
      have fo := fldB_ok hd
      rw [et]
      refine ⟨fun t ht => ?_, ?_, ?_⟩
      · rcases List.mem_cons.mp ht with ht | ht
        · rw [ht]; exact fo.1
        · exact i1 t ht
      · rw [List.flatMap_cons, i2]
        unfold exT
        rw [if_neg (by omega), show 256 + d - 256 = d by omega]
        rfl
      · simp only [List.length_cons]; omega
    · obtain ⟨h2, hw', et⟩ := tk_pln hw e h
      obtain ⟨i1, i2, i3⟩ := tkw_all m r (nxt w c) (by omega) hw' h2 (fun x hx => hc x (List.mem_cons_of_mem _ hx))
      have c2 := hc c List.mem_cons_self
      rw [et]
      refine ⟨fun t ht => ?_, ?_, ?_⟩
      · rcases List.mem_cons.mp ht with ht | ht
        · rw [ht]; exact Or.inl ⟨c2, e⟩
        · exact i1 t ht
      · rw [List.flatMap_cons, i2]
        unfold exT
        rw [if_pos c2]
        rfl
      · simp only [List.length_cons]; omega
section OW
variable {z : P0} {KL : Nat → Nat × Nat} {RL : Nat → Nat → Option Nat} {q : Nat → Nat} {b : Nat} {I : Nat → Nat → Int32} {L : Nat → Nat → Int64} {sz : Nat} {ex : Bool} {Q : Res → Mem → Prop} {A : Row}
variable {n : Nat} {H : Nat → Row} {B : List Nat}
theorem takeR_12 {T : List Nat} : takeR A T 12 = T.length := by unfold takeR; rw [updL_n (by omega), upr_s]
theorem takeR_k {T : List Nat} {k : Nat} (h : k < T.length) : takeR A T (413 + k) = T.getD k 0 := by unfold takeR updL; rw [if_pos (by omega), show 413 + k - 413 = k by omega]
theorem takeR_n {T : List Nat} {k : Nat} (h : k ≠ 12 ∧ k < 413) : takeR A T k = A k := by unfold takeR; rw [updL_n (by omega), upr_n h.1]
theorem takeR_snoc {T : List Nat} {c : Nat} : upr (upr (takeR A T) (413 + T.length) c) 12 (T.length + 1) = takeR A (T ++ [c]) := by
  unfold takeR
  rw [updL_snoc, upr_updL (by omega), upr_upr, List.length_append, List.length_singleton]
end OW
