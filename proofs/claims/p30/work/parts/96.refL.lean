/-! THE REFERENCE: items, the whole text, its lines and pages -/
section RL
variable {z : P0} {KL : Nat → Nat × Nat} {RL : Nat → Nat → Option Nat} {q : Nat → Nat} {b : Nat} {I : Nat → Nat → Int32} {L : Nat → Nat → Int64} {sz : Nat} {ex : Bool} {Q : Res → Mem → Prop} {A : Row}
variable {t : List Nat}
/-- a letter: its persons, as the rows of the reference hold them -/
def OkL (A : Row) (g : List Nat) : Prop := g.Pairwise (· < ·) ∧ g ≠ [] ∧ (∀ x ∈ g, x < A 6) ∧ g.length ≤ 6 ∧ (hasW A = true → ∀ x ∈ g, A (53 + x) < A 7)
theorem seqL_len {n M : Nat} : ∀ (L : List (List Nat)) (i : Nat), (∀ x ∈ L, x.length ≤ M) → (seqL n i L).length + (if i = 0 ∧ L ≠ [] then 1 else 0) ≤ L.length * (M + 1)
  | [], i, _ => by unfold seqL; simp
  | x :: r, i, h => by
    have h1 := seqL_len (n := n) r (i + 1) (fun y hy => h y (List.mem_cons_of_mem _ hy))
    have h2 := h x List.mem_cons_self
    rw [if_neg (by omega)] at h1
    rw [seqL_c, List.length_append, List.length_append, List.length_cons, Nat.succ_mul]
    unfold sepL
    by_cases e : i = 0
    · rw [if_pos e, if_pos ⟨e, by simp⟩, List.length_nil]; omega
    · have e2 : ¬ (i = 0 ∧ x :: r ≠ []) := fun y => e y.1
      rw [if_neg e, if_neg e2]
      split <;> rw [List.length_singleton] <;> omega
theorem namesT_len {g : List Nat} (hg : Good A) (h : OkL A g) : (namesT A g).length ≤ 53 := by
  obtain ⟨h1, h2, h3, h4, h5⟩ := h
  have := seqL_len (n := g.length) (M := 8) (g.map (nameL A)) 0 (fun x hx => by
    obtain ⟨p, hp, rfl⟩ := List.mem_map.mp hx
    rw [nameL_len]
    exact (hg.2.2.1 p (h3 p hp)).2.2.2.2.2.2.1)
  rw [if_pos ⟨rfl, by simpa using h2⟩, List.length_map] at this
  unfold namesT
  omega
theorem wordsT_len {g : List Nat} (hg : Good A) (h : OkL A g) (hw : hasW A = true) : (wordsT A g).length ≤ 83 := by
  obtain ⟨h1, h2, h3, h4, h5⟩ := h
  have h6 := nws_len (A := A) g []
  have := seqL_len (n := (nws A [] g).length) (M := 13) ((nws A [] g).map (wordT A)) 0 (fun x hx => by
    obtain ⟨w, hw1, rfl⟩ := List.mem_map.mp hx
    obtain ⟨p, hp, rfl⟩ := nws_mem _ _ _ hw1
    have := (wordT_len (A := A) (w := A (53 + p))).1
    have := (hg.2.2.2.1 _ (h5 hw p hp)).2.1
    omega)
  rw [List.length_map] at this
  have hne : nws A [] g ≠ [] := by
    cases g with
    | nil => exact absurd rfl h2
    | cons x r => unfold nws; rw [if_neg List.not_mem_nil]; simp
  rw [if_pos ⟨rfl, by simpa using hne⟩] at this
  unfold wordsT
  omega
theorem formT_len {g : List Nat} : (formT A g).length ≤ 3 := by unfold formT; split <;> (try split) <;> simp
/-- what one item says -/
def itemT (A : Row) (g : List Nat) (t : Nat) : List Nat := if t < 256 then [t] else fieldT A g (t - 256)
theorem itemT_len {g : List Nat} {t : Nat} (hg : Good A) (h : OkL A g) (ht : okTok t) (hw : t = 375 → hasW A = true) : (itemT A g t).length * 3 ≤ 83 * (exT t).length := by
  unfold itemT exT
  by_cases e : t < 256
  · rw [if_pos e, if_pos e, List.length_singleton]; omega
  · rw [if_neg e, if_neg e]
    unfold fieldT
    rcases ht with ht | ht | ht | ht | ht
    · omega
    · subst ht; simp
    · subst ht
      have := formT_len (A := A) (g := g)
      simp; omega
    · subst ht
      have := namesT_len hg h
      simp; omega
    · have h1 := wordsT_len hg h (hw ht)
      subst ht
      simp; omega
theorem textF_len {g : List Nat} (hg : Good A) (h : OkL A g) : ∀ (T : List Nat) (j : Bool), (∀ t ∈ T, okTok t ∧ (t = 375 → hasW A = true)) → (textF A g j T).length * 3 ≤ 83 * (T.flatMap exT).length
  | [], j, _ => by unfold textF; simp
  | t :: r, j, ht => by
    have ih := fun j => textF_len hg h r j (fun x hx => ht x (List.mem_cons_of_mem _ hx))
    have h1 := itemT_len hg h (ht t List.mem_cons_self).1 (ht t List.mem_cons_self).2
    unfold textF
    rw [List.flatMap_cons, List.length_append]
    split
    · have := ih true; omega
    · split
      · have := ih false; omega
      · rw [List.length_append]
        have := ih j
        split
        · unfold itemT at h1; omega
        · rw [List.length_nil]; omega
theorem toks_ok (hg : Good A) : ∀ t ∈ toks A, okTok t ∧ (t = 375 → hasW A = true) := by
  intro t ht
  unfold toks at ht
  obtain ⟨k, h1, h2⟩ := (segF_mem _ _).mp ht
  rw [Nat.zero_add] at h2
  refine ⟨h2 ▸ hg.tok h1, fun e => ?_⟩
  unfold hasW
  rw [List.any_eq_true]
  exact ⟨t, ht, beq_iff_eq.mpr e⟩
theorem textT_len {g : List Nat} (hg : Good A) (h : OkL A g) : (textT A g).length ≤ 1660 := by
  have h1 := textF_len hg h (toks A) false (toks_ok hg)
  have h2 := hg.2.2.2.2.2
  unfold raw at h2
  unfold textT
  omega
end RL
