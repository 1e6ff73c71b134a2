/-! THE REFERENCE: items, the whole text, its lines and pages -/
section RL
variable {z : P0} {KL : Nat → Nat × Nat} {RL : Nat → Nat → Option Nat} {q : Nat → Nat} {b : Nat} {I : Nat → Nat → Int32} {L : Nat → Nat → Int64} {sz : Nat} {ex : Bool} {Q : Res → Mem → Prop} {A : Row}
variable {t : List Nat}
/-- a letter: its persons, as the rows of the reference hold them -/
def OkL (A : Row) (g : List Nat) : Prop := g.Pairwise (· < ·) ∧ g ≠ [] ∧ (∀ x ∈ g, x < A 6) ∧ g.length ≤ 6 ∧ (hasW A = true → ∀ x ∈ g, A (53 + x) < A 7)
theorem seqL_len {n M : Nat} : ∀ (L : List (List Nat)) (i : Nat), (∀ x ∈ L, x.length ≤ M) → (seqL n i L).length + (if i = 0 ∧ L ≠ [] then 1 else 0) ≤ L.length * (M + 1)
  | [], i, _ => by unfold seqL; simp
  | x :: r, i, h => by
    have h1 := seqL_len (n := n) r (i + 1) (fun y hy => h y (List.mem_cons_of_mem _ hy))
    have h2 := h x List.mem_cons_self
    rw [if_neg (by omega)] at h1
    rw [seqL_c, List.length_append, List.length_append, List.length_cons, Nat.succ_mul]
    unfold sepL
    by_cases e : i = 0
    · rw [if_pos e, if_pos ⟨e, by simp⟩, List.length_nil]; omega
    · have e2 : ¬ (i = 0 ∧ x :: r ≠ []) := fun y => e y.1
      rw [if_neg e, if_neg e2]
      split <;> rw [List.length_singleton] <;> omega
theorem namesT_len {g : List Nat} (hg : Good A) (h : OkL A g) : (namesT A g).length ≤ 53 := by
  obtain ⟨h1, h2, h3, h4, h5⟩ := h
  have := seqL_len (n := g.length) (M := 8) (g.map (nameL A)) 0 (fun x hx => by
    obtain ⟨p, hp, rfl⟩ := List.mem_map.mp hx
    rw [nameL_len]
    exact (hg.2.2.1 p (h3 p hp)).2.2.2.2.2.2.1)
  rw [if_pos ⟨rfl, by simpa using h2⟩, List.length_map] at this
  unfold namesT
  omega
theorem wordsT_len {g : List Nat} (hg : Good A) (h : OkL A g) (hw : hasW A = true) : (wordsT A g).length ≤ 83 := by
  obtain ⟨h1, h2, h3, h4, h5⟩ := h
  have h6 := nws_len (A := A) g []
  have := seqL_len (n := (nws A [] g).length) (M := 13) ((nws A [] g).map (wordT A)) 0 (fun x hx => by
    obtain ⟨w, hw1, rfl⟩ := List.mem_map.mp hx
    obtain ⟨p, hp, rfl⟩ := nws_mem _ _ _ hw1
    have := (wordT_len (A := A) (w := A (53 + p))).1
    have := (hg.2.2.2.1 _ (h5 hw p hp)).2.1
    omega)
  rw [List.length_map] at this
  have hne : nws A [] g ≠ [] := by
    cases g with
    | nil => exact absurd rfl h2
    | cons x r => unfold nws; rw [if_neg List.not_mem_nil]; simp
  rw [if_pos ⟨rfl, by simpa using hne⟩] at this
  unfold wordsT
  omega
theorem formT_len {g : List Nat} : (formT A g).length ≤ 3 := by unfold formT; split <;> (try split) <;> simp
/-- what one item says -/
def itemT (A : Row) (g : List Nat) (t : Nat) : List Nat := if t < 256 then [t] else fieldT A g (t - 256)
theorem itemT_len {g : List Nat} {t : Nat} (hg : Good A) (h : OkL A g) (ht : okTok t) (hw : t = 375 → hasW A = true) : (itemT A g t).length * 3 ≤ 83 * (exT t).length := by
  unfold itemT exT
  by_cases e : t < 256
  · rw [if_pos e, if_pos e, List.length_singleton]; omega
  · rw [if_neg e, if_neg e]
    unfold fieldT
    rcases ht with ht | ht | ht | ht | ht
    · omega
    · subst ht; simp
    · subst ht
      have := formT_len (A := A) (g := g)
      simp; omega
    · subst ht
      have := namesT_len hg h
      simp; omega
    · have h1 := wordsT_len hg h (hw ht)
      subst ht
      simp; omega
theorem textF_len {g : List Nat} (hg : Good A) (h : OkL A g) : ∀ (T : List Nat) (j : Bool), (∀ t ∈ T, okTok t ∧ (t = 375 → hasW A = true)) → (textF A g j T).length * 3 ≤ 83 * (T.flatMap exT).length
  | [], j, _ => by unfold textF; simp
  | t :: r, j, ht => by
    have ih := fun j => textF_len hg h r j (fun x hx => ht x (List.mem_cons_of_mem _ hx))
    have h1 := itemT_len hg h (ht t List.mem_cons_self).1 (ht t List.mem_cons_self).2
    unfold textF
    rw [List.flatMap_cons, List.length_append]
    split
    · have := ih true; omega
    · split
      · have := ih false; omega
      · rw [List.length_append]
        have := ih j
        split
        · unfold itemT at h1; omega
        · rw [List.length_nil]; omega
theorem toks_ok (hg : Good A) : ∀ t ∈ toks A, okTok t ∧ (t = 375 → hasW A = true) := by
  intro t ht
  unfold toks at ht
  obtain ⟨k, h1, h2⟩ := (segF_mem _ _).mp ht
  rw [Nat.zero_add] at h2
  refine ⟨h2 ▸ hg.tok h1, fun e => ?_⟩
  unfold hasW
  rw [List.any_eq_true]
  exact ⟨t, ht, beq_iff_eq.mpr e⟩
theorem textT_len {g : List Nat} (hg : Good A) (h : OkL A g) : (textT A g).length ≤ 1660 := by
  have h1 := textF_len hg h (toks A) false (toks_ok hg)
  have h2 := hg.2.2.2.2.2
  unfold raw at h2
  unfold textT
  omega
set_option maxHeartbeats 4000000 in
theorem c123 {lt it : Nat} {g : List Nat} (hg : Good A) (hlt : lt < 20) (h : OkL A g) (hi : okTok it) (hw : it = 375 → hasW A = true) (hz : RZ b I A) (ho : OT b I t) (m1 : I (ad b 570) lt = nI (maskL g)) (m2 : I (ad b 571) lt = nI g.length)
    (hl : t.length + 83 ≤ 2400) (hQ : ∀ I', OT b I' (t ++ itemT A g it) → Ag pTx b I I' → Q (.inl none) (KAt KL b, I', RAt RL b q, L, sz, ex)) : X z 123 0 [some (.ref (ad b 566)), some (.int (nI it)), some (.int (nI lt))] [] (0, 0) (KAt KL b, I, RAt RL b q, L, sz, ex) Q := by
  have f1 := h
  obtain ⟨h1, h2, h3, h4, h5⟩ := h
  unfold itemT at hQ
  rw [v123_0]
  rcases hi with hi | hi | hi | hi | hi
  · rw [if_pos hi.1] at hQ
    rw [w123_1_d (by omega)]
    simp (disch := omega) only [v123_84, v123_85, u123_86, v123_89, k_566, k_567, k_568, k_569, k_570, k_571, k_572, k_573, k_574, k_575, k_576, r_566_0, r_566_2, r_566_4, r_566_6, r_566_7, r_566_8, r_566_9, r_566_10, r_566_11, r_566_13, va_rf_s, n_cl, n_in_t, n_lt_t, n_lt_f, n_eq_t, n_eq_f, n_sub, nI_add, n_mul, ↓reduceIte, if_true, if_false, eq_self, true_or, or_true, and_self, and_true, true_and, Nat.reduceAdd, Nat.reduceMul, Nat.reduceLeDiff, Nat.zero_le, not_true_eq_false, not_false_eq_true, cat2_n, cat2_i, cat2_r, ws_0, ws_i, ws_r, ws_l, ws_d, aftr_n, aftr_s, bI_ok, bI_t, bI_f, up_s, up_n, n_bit, decide_true, decide_false, Bool.not_true, Bool.not_false, Bool.and_true, Bool.true_and, Bool.false_and, Bool.and_false]
    refine c116 ho (by omega) (fun I1 g1 g2 => ?_)
    simp (disch := omega) only [v123_84, v123_85, u123_86, v123_89, k_566, k_567, k_568, k_569, k_570, k_571, k_572, k_573, k_574, k_575, k_576, r_566_0, r_566_2, r_566_4, r_566_6, r_566_7, r_566_8, r_566_9, r_566_10, r_566_11, r_566_13, va_rf_s, n_cl, n_in_t, n_lt_t, n_lt_f, n_eq_t, n_eq_f, n_sub, nI_add, n_mul, ↓reduceIte, if_true, if_false, eq_self, true_or, or_true, and_self, and_true, true_and, Nat.reduceAdd, Nat.reduceMul, Nat.reduceLeDiff, Nat.zero_le, not_true_eq_false, not_false_eq_true, cat2_n, cat2_i, cat2_r, ws_0, ws_i, ws_r, ws_l, ws_d, aftr_n, aftr_s, bI_ok, bI_t, bI_f, up_s, up_n, n_bit, decide_true, decide_false, Bool.not_true, Bool.not_false, Bool.and_true, Bool.true_and, Bool.false_and, Bool.and_false]
    exact hQ I1 g1 g2
  · subst hi
    rw [if_neg (by omega)] at hQ
    rw [w123_1_355]
    simp (disch := omega) only [v123_44, v123_45, u123_46, v123_49, v123_52, v123_53, u123_54, v123_57, v123_60, v123_61, u123_62, v123_65, v123_68, v123_69, v123_71, v123_72, v123_75, v123_76, v123_77, u123_78, v123_81, v123_84, v123_85, u123_86, v123_89, k_566, k_567, k_568, k_569, k_570, k_571, k_572, k_573, k_574, k_575, k_576, r_566_0, r_566_2, r_566_4, r_566_6, r_566_7, r_566_8, r_566_9, r_566_10, r_566_11, r_566_13, va_rf_s, n_cl, n_in_t, n_lt_t, n_lt_f, n_eq_t, n_eq_f, n_sub, nI_add, n_mul, ↓reduceIte, if_true, if_false, eq_self, true_or, or_true, and_self, and_true, true_and, Nat.reduceAdd, Nat.reduceMul, Nat.reduceLeDiff, Nat.zero_le, not_true_eq_false, not_false_eq_true, cat2_n, cat2_i, cat2_r, ws_0, ws_i, ws_r, ws_l, ws_d, aftr_n, aftr_s, bI_ok, bI_t, bI_f, up_s, up_n, n_bit, decide_true, decide_false, Bool.not_true, Bool.not_false, Bool.and_true, Bool.true_and, Bool.false_and, Bool.and_false, m2]
    refine c116 ho (by omega) (fun I1 g1 g2 => ?_)
    simp (disch := omega) only [v123_44, v123_45, u123_46, v123_49, v123_52, v123_53, u123_54, v123_57, v123_60, v123_61, u123_62, v123_65, v123_68, v123_69, v123_71, v123_72, v123_75, v123_76, v123_77, u123_78, v123_81, v123_84, v123_85, u123_86, v123_89, k_566, k_567, k_568, k_569, k_570, k_571, k_572, k_573, k_574, k_575, k_576, r_566_0, r_566_2, r_566_4, r_566_6, r_566_7, r_566_8, r_566_9, r_566_10, r_566_11, r_566_13, va_rf_s, n_cl, n_in_t, n_lt_t, n_lt_f, n_eq_t, n_eq_f, n_sub, nI_add, n_mul, ↓reduceIte, if_true, if_false, eq_self, true_or, or_true, and_self, and_true, true_and, Nat.reduceAdd, Nat.reduceMul, Nat.reduceLeDiff, Nat.zero_le, not_true_eq_false, not_false_eq_true, cat2_n, cat2_i, cat2_r, ws_0, ws_i, ws_r, ws_l, ws_d, aftr_n, aftr_s, bI_ok, bI_t, bI_f, up_s, up_n, n_bit, decide_true, decide_false, Bool.not_true, Bool.not_false, Bool.and_true, Bool.true_and, Bool.false_and, Bool.and_false]
    exact hQ I1 g1 g2
  · subst hi
    rw [if_neg (by omega)] at hQ
    rw [w123_1_359]
    simp (disch := omega) only [v123_44, v123_45, u123_46, v123_49, v123_52, v123_53, u123_54, v123_57, v123_60, v123_61, u123_62, v123_65, v123_68, v123_69, v123_71, v123_72, v123_75, v123_76, v123_77, u123_78, v123_81, v123_84, v123_85, u123_86, v123_89, k_566, k_567, k_568, k_569, k_570, k_571, k_572, k_573, k_574, k_575, k_576, r_566_0, r_566_2, r_566_4, r_566_6, r_566_7, r_566_8, r_566_9, r_566_10, r_566_11, r_566_13, va_rf_s, n_cl, n_in_t, n_lt_t, n_lt_f, n_eq_t, n_eq_f, n_sub, nI_add, n_mul, ↓reduceIte, if_true, if_false, eq_self, true_or, or_true, and_self, and_true, true_and, Nat.reduceAdd, Nat.reduceMul, Nat.reduceLeDiff, Nat.zero_le, not_true_eq_false, not_false_eq_true, cat2_n, cat2_i, cat2_r, ws_0, ws_i, ws_r, ws_l, ws_d, aftr_n, aftr_s, bI_ok, bI_t, bI_f, up_s, up_n, n_bit, decide_true, decide_false, Bool.not_true, Bool.not_false, Bool.and_true, Bool.true_and, Bool.false_and, Bool.and_false]
    refine c119 hg hlt h1 h2 h3 h4 hz ho m1 m2 (by omega) (fun I1 g1 g2 => ?_)
    simp (disch := omega) only [v123_44, v123_45, u123_46, v123_49, v123_52, v123_53, u123_54, v123_57, v123_60, v123_61, u123_62, v123_65, v123_68, v123_69, v123_71, v123_72, v123_75, v123_76, v123_77, u123_78, v123_81, v123_84, v123_85, u123_86, v123_89, k_566, k_567, k_568, k_569, k_570, k_571, k_572, k_573, k_574, k_575, k_576, r_566_0, r_566_2, r_566_4, r_566_6, r_566_7, r_566_8, r_566_9, r_566_10, r_566_11, r_566_13, va_rf_s, n_cl, n_in_t, n_lt_t, n_lt_f, n_eq_t, n_eq_f, n_sub, nI_add, n_mul, ↓reduceIte, if_true, if_false, eq_self, true_or, or_true, and_self, and_true, true_and, Nat.reduceAdd, Nat.reduceMul, Nat.reduceLeDiff, Nat.zero_le, not_true_eq_false, not_false_eq_true, cat2_n, cat2_i, cat2_r, ws_0, ws_i, ws_r, ws_l, ws_d, aftr_n, aftr_s, bI_ok, bI_t, bI_f, up_s, up_n, n_bit, decide_true, decide_false, Bool.not_true, Bool.not_false, Bool.and_true, Bool.true_and, Bool.false_and, Bool.and_false]
    exact hQ I1 g1 g2
  · subst hi
    rw [if_neg (by omega)] at hQ
    rw [w123_1_366]
    simp (disch := omega) only [v123_44, v123_45, u123_46, v123_49, v123_52, v123_53, u123_54, v123_57, v123_60, v123_61, u123_62, v123_65, v123_68, v123_69, v123_71, v123_72, v123_75, v123_76, v123_77, u123_78, v123_81, v123_84, v123_85, u123_86, v123_89, k_566, k_567, k_568, k_569, k_570, k_571, k_572, k_573, k_574, k_575, k_576, r_566_0, r_566_2, r_566_4, r_566_6, r_566_7, r_566_8, r_566_9, r_566_10, r_566_11, r_566_13, va_rf_s, n_cl, n_in_t, n_lt_t, n_lt_f, n_eq_t, n_eq_f, n_sub, nI_add, n_mul, ↓reduceIte, if_true, if_false, eq_self, true_or, or_true, and_self, and_true, true_and, Nat.reduceAdd, Nat.reduceMul, Nat.reduceLeDiff, Nat.zero_le, not_true_eq_false, not_false_eq_true, cat2_n, cat2_i, cat2_r, ws_0, ws_i, ws_r, ws_l, ws_d, aftr_n, aftr_s, bI_ok, bI_t, bI_f, up_s, up_n, n_bit, decide_true, decide_false, Bool.not_true, Bool.not_false, Bool.and_true, Bool.true_and, Bool.false_and, Bool.and_false]
    refine c118 hg hlt h1 h3 h4 hz ho m1 m2 (by have := namesT_len hg f1; omega) (fun I1 g1 g2 => ?_)
    simp (disch := omega) only [v123_44, v123_45, u123_46, v123_49, v123_52, v123_53, u123_54, v123_57, v123_60, v123_61, u123_62, v123_65, v123_68, v123_69, v123_71, v123_72, v123_75, v123_76, v123_77, u123_78, v123_81, v123_84, v123_85, u123_86, v123_89, k_566, k_567, k_568, k_569, k_570, k_571, k_572, k_573, k_574, k_575, k_576, r_566_0, r_566_2, r_566_4, r_566_6, r_566_7, r_566_8, r_566_9, r_566_10, r_566_11, r_566_13, va_rf_s, n_cl, n_in_t, n_lt_t, n_lt_f, n_eq_t, n_eq_f, n_sub, nI_add, n_mul, ↓reduceIte, if_true, if_false, eq_self, true_or, or_true, and_self, and_true, true_and, Nat.reduceAdd, Nat.reduceMul, Nat.reduceLeDiff, Nat.zero_le, not_true_eq_false, not_false_eq_true, cat2_n, cat2_i, cat2_r, ws_0, ws_i, ws_r, ws_l, ws_d, aftr_n, aftr_s, bI_ok, bI_t, bI_f, up_s, up_n, n_bit, decide_true, decide_false, Bool.not_true, Bool.not_false, Bool.and_true, Bool.true_and, Bool.false_and, Bool.and_false]
    exact hQ I1 g1 g2
  · have hw' := hw hi
    subst hi
    rw [if_neg (by omega)] at hQ
    rw [w123_1_375]
    simp (disch := omega) only [v123_44, v123_45, u123_46, v123_49, v123_52, v123_53, u123_54, v123_57, v123_60, v123_61, u123_62, v123_65, v123_68, v123_69, v123_71, v123_72, v123_75, v123_76, v123_77, u123_78, v123_81, v123_84, v123_85, u123_86, v123_89, k_566, k_567, k_568, k_569, k_570, k_571, k_572, k_573, k_574, k_575, k_576, r_566_0, r_566_2, r_566_4, r_566_6, r_566_7, r_566_8, r_566_9, r_566_10, r_566_11, r_566_13, va_rf_s, n_cl, n_in_t, n_lt_t, n_lt_f, n_eq_t, n_eq_f, n_sub, nI_add, n_mul, ↓reduceIte, if_true, if_false, eq_self, true_or, or_true, and_self, and_true, true_and, Nat.reduceAdd, Nat.reduceMul, Nat.reduceLeDiff, Nat.zero_le, not_true_eq_false, not_false_eq_true, cat2_n, cat2_i, cat2_r, ws_0, ws_i, ws_r, ws_l, ws_d, aftr_n, aftr_s, bI_ok, bI_t, bI_f, up_s, up_n, n_bit, decide_true, decide_false, Bool.not_true, Bool.not_false, Bool.and_true, Bool.true_and, Bool.false_and, Bool.and_false]
    refine c122 hg hlt h1 h3 (h5 hw') h4 hz ho m1 (by have := wordsT_len hg f1 hw'; omega) (fun I1 g1 g2 => ?_)
    simp (disch := omega) only [v123_44, v123_45, u123_46, v123_49, v123_52, v123_53, u123_54, v123_57, v123_60, v123_61, u123_62, v123_65, v123_68, v123_69, v123_71, v123_72, v123_75, v123_76, v123_77, u123_78, v123_81, v123_84, v123_85, u123_86, v123_89, k_566, k_567, k_568, k_569, k_570, k_571, k_572, k_573, k_574, k_575, k_576, r_566_0, r_566_2, r_566_4, r_566_6, r_566_7, r_566_8, r_566_9, r_566_10, r_566_11, r_566_13, va_rf_s, n_cl, n_in_t, n_lt_t, n_lt_f, n_eq_t, n_eq_f, n_sub, nI_add, n_mul, ↓reduceIte, if_true, if_false, eq_self, true_or, or_true, and_self, and_true, true_and, Nat.reduceAdd, Nat.reduceMul, Nat.reduceLeDiff, Nat.zero_le, not_true_eq_false, not_false_eq_true, cat2_n, cat2_i, cat2_r, ws_0, ws_i, ws_r, ws_l, ws_d, aftr_n, aftr_s, bI_ok, bI_t, bI_f, up_s, up_n, n_bit, decide_true, decide_false, Bool.not_true, Bool.not_false, Bool.and_true, Bool.true_and, Bool.false_and, Bool.and_false]
    exact hQ I1 g1 g2
set_option maxHeartbeats 4000000 in
theorem l124 {lt : Nat} {g : List Nat} (hg : Good A) (hlt : lt < 20) (h : OkL A g) : ∀ d i (j : Bool) I t (x4 : Option Value), i + d = A 12 → RZ b I A → OT b I t → I (ad b 570) lt = nI (maskL g) → I (ad b 571) lt = nI g.length → t.length * 3 + 83 * ((segF (fun k => A (413 + k)) i d).flatMap exT).length ≤ 5000 →
    (∀ I', OT b I' (t ++ textF A g j (segF (fun k => A (413 + k)) i d)) → Ag pTx b I I' → Q (.inl none) (KAt KL b, I', RAt RL b q, L, sz, ex)) → X z 124 9 [some (.ref (ad b 566)), some (.int (nI lt)), some (.int (bI j)), some (.int (nI i)), x4] [] (0, 0) (KAt KL b, I, RAt RL b q, L, sz, ex) Q := by
  have h12 := hg.1.2.2.1
  have h4 := h.2.2.2.1
  intro d
  induction d with
  | zero =>
    intro i j I t x4 hi hz ho m1 m2 hl hQ
    rw [v124_9]
    simp (disch := omega) only [v124_10, v124_11, v124_14, v124_16, v124_17, v124_20, v124_21, v124_24, v124_27, v124_28, v124_29, v124_30, v124_32, v124_34, v124_36, v124_39, v124_41, v124_43, v124_46, v124_48, v124_50, v124_53, v124_54, v124_57, v124_58, v124_59, v124_62, v124_63, v124_66, v124_67, v124_70, v124_71, v124_72, v124_73, v124_76, v124_77, v124_79, u124_80, v124_83, v124_86, v124_89, k_566, k_567, k_568, k_569, k_570, k_571, k_572, k_573, k_574, k_575, k_576, r_566_0, r_566_2, r_566_4, r_566_6, r_566_7, r_566_8, r_566_9, r_566_10, r_566_11, r_566_13, va_rf_s, n_cl, n_in_t, n_lt_t, n_lt_f, n_eq_t, n_eq_f, n_sub, nI_add, n_mul, ↓reduceIte, if_true, if_false, eq_self, true_or, or_true, and_self, and_true, true_and, Nat.reduceAdd, Nat.reduceMul, Nat.reduceLeDiff, Nat.zero_le, not_true_eq_false, not_false_eq_true, cat2_n, cat2_i, cat2_r, ws_0, ws_i, ws_r, ws_l, ws_d, aftr_n, aftr_s, bI_ok, bI_t, bI_f, up_s, up_n, n_bit, decide_true, decide_false, Bool.not_true, Bool.not_false, Bool.and_true, Bool.true_and, Bool.false_and, Bool.and_false, hz.at]
    exact hQ I (by unfold segF textF; rwa [List.append_nil]) Ag.rf
  | succ d ih =>
    intro i j I t x4 hi hz ho m1 m2 hl hQ
    have ok := hg.tok (k := i) (by omega)
    have okl := ok.lt
    have hw : A (413 + i) = 375 → hasW A = true := fun e => (toks_ok hg (A (413 + i)) ((segF_mem _ _).mpr ⟨i, by omega, by rw [Nat.zero_add]⟩)).2 e
    unfold segF at hl hQ
    rw [List.flatMap_cons, List.length_append] at hl
    unfold textF at hQ
    have il := itemT_len hg h ok hw
    have il2 : (exT (A (413 + i))).length ≤ 3 := by unfold exT; split <;> simp
    rw [v124_9]
    by_cases e1 : A (413 + i) = 123
    · rw [if_pos e1] at hQ
      simp (disch := omega) only [v124_10, v124_11, v124_14, v124_16, v124_17, v124_20, v124_21, v124_24, v124_27, v124_28, v124_29, v124_30, v124_32, v124_34, v124_36, v124_39, v124_41, v124_43, v124_46, v124_48, v124_50, v124_53, v124_54, v124_57, v124_58, v124_59, v124_62, v124_63, v124_66, v124_67, v124_70, v124_71, v124_72, v124_73, v124_76, v124_77, v124_79, u124_80, v124_83, v124_86, v124_89, k_566, k_567, k_568, k_569, k_570, k_571, k_572, k_573, k_574, k_575, k_576, r_566_0, r_566_2, r_566_4, r_566_6, r_566_7, r_566_8, r_566_9, r_566_10, r_566_11, r_566_13, va_rf_s, n_cl, n_in_t, n_lt_t, n_lt_f, n_eq_t, n_eq_f, n_sub, nI_add, n_mul, ↓reduceIte, if_true, if_false, eq_self, true_or, or_true, and_self, and_true, true_and, Nat.reduceAdd, Nat.reduceMul, Nat.reduceLeDiff, Nat.zero_le, not_true_eq_false, not_false_eq_true, cat2_n, cat2_i, cat2_r, ws_0, ws_i, ws_r, ws_l, ws_d, aftr_n, aftr_s, bI_ok, bI_t, bI_f, up_s, up_n, n_bit, decide_true, decide_false, Bool.not_true, Bool.not_false, Bool.and_true, Bool.true_and, Bool.false_and, Bool.and_false, hz.at]
      exact ih (i + 1) true I t _ (by omega) hz ho m1 m2 (by omega) hQ
    · rw [if_neg e1] at hQ
      by_cases e2 : A (413 + i) = 125
      · rw [if_pos e2] at hQ
        simp (disch := omega) only [v124_10, v124_11, v124_14, v124_16, v124_17, v124_20, v124_21, v124_24, v124_27, v124_28, v124_29, v124_30, v124_32, v124_34, v124_36, v124_39, v124_41, v124_43, v124_46, v124_48, v124_50, v124_53, v124_54, v124_57, v124_58, v124_59, v124_62, v124_63, v124_66, v124_67, v124_70, v124_71, v124_72, v124_73, v124_76, v124_77, v124_79, u124_80, v124_83, v124_86, v124_89, k_566, k_567, k_568, k_569, k_570, k_571, k_572, k_573, k_574, k_575, k_576, r_566_0, r_566_2, r_566_4, r_566_6, r_566_7, r_566_8, r_566_9, r_566_10, r_566_11, r_566_13, va_rf_s, n_cl, n_in_t, n_lt_t, n_lt_f, n_eq_t, n_eq_f, n_sub, nI_add, n_mul, ↓reduceIte, if_true, if_false, eq_self, true_or, or_true, and_self, and_true, true_and, Nat.reduceAdd, Nat.reduceMul, Nat.reduceLeDiff, Nat.zero_le, not_true_eq_false, not_false_eq_true, cat2_n, cat2_i, cat2_r, ws_0, ws_i, ws_r, ws_l, ws_d, aftr_n, aftr_s, bI_ok, bI_t, bI_f, up_s, up_n, n_bit, decide_true, decide_false, Bool.not_true, Bool.not_false, Bool.and_true, Bool.true_and, Bool.false_and, Bool.and_false, hz.at]
        exact ih (i + 1) false I t _ (by omega) hz ho m1 m2 (by omega) hQ
      · rw [if_neg e2] at hQ
        have said : (j = false ∨ 1 < g.length) → X z 124 76 [some (.ref (ad b 566)), some (.int (nI lt)), some (.int (bI j)), some (.int (nI i)), some (.int (nI (A (413 + i))))] [] (0, 0) (KAt KL b, I, RAt RL b q, L, sz, ex) Q := by
          intro hj
          rw [if_pos hj] at hQ
          simp (disch := omega) only [v124_76, v124_77, v124_79, u124_80, v124_83, v124_86, v124_89, k_566, k_567, k_568, k_569, k_570, k_571, k_572, k_573, k_574, k_575, k_576, r_566_0, r_566_2, r_566_4, r_566_6, r_566_7, r_566_8, r_566_9, r_566_10, r_566_11, r_566_13, va_rf_s, n_cl, n_in_t, n_lt_t, n_lt_f, n_eq_t, n_eq_f, n_sub, nI_add, n_mul, ↓reduceIte, if_true, if_false, eq_self, true_or, or_true, and_self, and_true, true_and, Nat.reduceAdd, Nat.reduceMul, Nat.reduceLeDiff, Nat.zero_le, not_true_eq_false, not_false_eq_true, cat2_n, cat2_i, cat2_r, ws_0, ws_i, ws_r, ws_l, ws_d, aftr_n, aftr_s, bI_ok, bI_t, bI_f, up_s, up_n, n_bit, decide_true, decide_false, Bool.not_true, Bool.not_false, Bool.and_true, Bool.true_and, Bool.false_and, Bool.and_false]
          refine c123 hg hlt h ok hw hz ho m1 m2 (by omega) (fun I1 g1 g2 => ?_)
          simp (disch := omega) only [v124_76, v124_77, v124_79, u124_80, v124_83, v124_86, v124_89, k_566, k_567, k_568, k_569, k_570, k_571, k_572, k_573, k_574, k_575, k_576, r_566_0, r_566_2, r_566_4, r_566_6, r_566_7, r_566_8, r_566_9, r_566_10, r_566_11, r_566_13, va_rf_s, n_cl, n_in_t, n_lt_t, n_lt_f, n_eq_t, n_eq_f, n_sub, nI_add, n_mul, ↓reduceIte, if_true, if_false, eq_self, true_or, or_true, and_self, and_true, true_and, Nat.reduceAdd, Nat.reduceMul, Nat.reduceLeDiff, Nat.zero_le, not_true_eq_false, not_false_eq_true, cat2_n, cat2_i, cat2_r, ws_0, ws_i, ws_r, ws_l, ws_d, aftr_n, aftr_s, bI_ok, bI_t, bI_f, up_s, up_n, n_bit, decide_true, decide_false, Bool.not_true, Bool.not_false, Bool.and_true, Bool.true_and, Bool.false_and, Bool.and_false]
          refine ih (i + 1) j I1 _ _ (by omega) (hz.ag g2 pTx_z) g1 (pTx_k g2 (by decide) m1) (pTx_k g2 (by decide) m2) (by rw [List.length_append]; omega) (fun I2 g3 g4 => hQ I2 ?_ (g2.tr g4))
          unfold itemT at g3
          rwa [List.append_assoc] at g3
        cases j with
        | false =>
          have := said (Or.inl rfl)
          rw [bI_f] at this
          simp (disch := omega) only [v124_10, v124_11, v124_14, v124_16, v124_17, v124_20, v124_21, v124_24, v124_27, v124_28, v124_29, v124_30, v124_32, v124_34, v124_36, v124_39, v124_41, v124_43, v124_46, v124_48, v124_50, v124_53, v124_54, v124_57, v124_58, v124_59, v124_62, v124_63, v124_66, v124_67, v124_70, v124_71, v124_72, v124_73, k_566, k_567, k_568, k_569, k_570, k_571, k_572, k_573, k_574, k_575, k_576, r_566_0, r_566_2, r_566_4, r_566_6, r_566_7, r_566_8, r_566_9, r_566_10, r_566_11, r_566_13, va_rf_s, n_cl, n_in_t, n_lt_t, n_lt_f, n_eq_t, n_eq_f, n_sub, nI_add, n_mul, ↓reduceIte, if_true, if_false, eq_self, true_or, or_true, and_self, and_true, true_and, Nat.reduceAdd, Nat.reduceMul, Nat.reduceLeDiff, Nat.zero_le, not_true_eq_false, not_false_eq_true, cat2_n, cat2_i, cat2_r, ws_0, ws_i, ws_r, ws_l, ws_d, aftr_n, aftr_s, bI_ok, bI_t, bI_f, up_s, up_n, n_bit, decide_true, decide_false, Bool.not_true, Bool.not_false, Bool.and_true, Bool.true_and, Bool.false_and, Bool.and_false, hz.at]
          exact this
        | true =>
          by_cases e3 : 1 < g.length
          · have := said (Or.inr e3)
            rw [bI_t] at this
            simp (disch := omega) only [v124_10, v124_11, v124_14, v124_16, v124_17, v124_20, v124_21, v124_24, v124_27, v124_28, v124_29, v124_30, v124_32, v124_34, v124_36, v124_39, v124_41, v124_43, v124_46, v124_48, v124_50, v124_53, v124_54, v124_57, v124_58, v124_59, v124_62, v124_63, v124_66, v124_67, v124_70, v124_71, v124_72, v124_73, k_566, k_567, k_568, k_569, k_570, k_571, k_572, k_573, k_574, k_575, k_576, r_566_0, r_566_2, r_566_4, r_566_6, r_566_7, r_566_8, r_566_9, r_566_10, r_566_11, r_566_13, va_rf_s, n_cl, n_in_t, n_lt_t, n_lt_f, n_eq_t, n_eq_f, n_sub, nI_add, n_mul, ↓reduceIte, if_true, if_false, eq_self, true_or, or_true, and_self, and_true, true_and, Nat.reduceAdd, Nat.reduceMul, Nat.reduceLeDiff, Nat.zero_le, not_true_eq_false, not_false_eq_true, cat2_n, cat2_i, cat2_r, ws_0, ws_i, ws_r, ws_l, ws_d, aftr_n, aftr_s, bI_ok, bI_t, bI_f, up_s, up_n, n_bit, decide_true, decide_false, Bool.not_true, Bool.not_false, Bool.and_true, Bool.true_and, Bool.false_and, Bool.and_false, hz.at, m2]
            exact this
          · rw [if_neg (fun x => x.elim (fun y => by cases y) e3), List.nil_append] at hQ
            simp (disch := omega) only [v124_10, v124_11, v124_14, v124_16, v124_17, v124_20, v124_21, v124_24, v124_27, v124_28, v124_29, v124_30, v124_32, v124_34, v124_36, v124_39, v124_41, v124_43, v124_46, v124_48, v124_50, v124_53, v124_54, v124_57, v124_58, v124_59, v124_62, v124_63, v124_66, v124_67, v124_70, v124_71, v124_72, v124_73, v124_76, v124_77, v124_79, u124_80, v124_83, v124_86, v124_89, k_566, k_567, k_568, k_569, k_570, k_571, k_572, k_573, k_574, k_575, k_576, r_566_0, r_566_2, r_566_4, r_566_6, r_566_7, r_566_8, r_566_9, r_566_10, r_566_11, r_566_13, va_rf_s, n_cl, n_in_t, n_lt_t, n_lt_f, n_eq_t, n_eq_f, n_sub, nI_add, n_mul, ↓reduceIte, if_true, if_false, eq_self, true_or, or_true, and_self, and_true, true_and, Nat.reduceAdd, Nat.reduceMul, Nat.reduceLeDiff, Nat.zero_le, not_true_eq_false, not_false_eq_true, cat2_n, cat2_i, cat2_r, ws_0, ws_i, ws_r, ws_l, ws_d, aftr_n, aftr_s, bI_ok, bI_t, bI_f, up_s, up_n, n_bit, decide_true, decide_false, Bool.not_true, Bool.not_false, Bool.and_true, Bool.true_and, Bool.false_and, Bool.and_false, hz.at, m2]
            exact ih (i + 1) true I t _ (by omega) hz ho m1 m2 (by omega) hQ
theorem c124 {lt : Nat} {g : List Nat} (hg : Good A) (hlt : lt < 20) (h : OkL A g) (hz : RZ b I A) (m1 : I (ad b 570) lt = nI (maskL g)) (m2 : I (ad b 571) lt = nI g.length)
    (hQ : ∀ I', OT b I' (textT A g) → Ag pTx b I I' → Q (.inl none) (KAt KL b, I', RAt RL b q, L, sz, ex)) : X z 124 0 [some (.ref (ad b 566)), some (.int (nI lt)), none, none, none] [] (0, 0) (KAt KL b, I, RAt RL b q, L, sz, ex) Q := by
  have h2 := hg.2.2.2.2.2
  unfold raw toks at h2
  simp (disch := omega) only [v124_0, v124_1, v124_2, v124_5, v124_6, v124_7, v124_8, k_566, k_567, k_568, k_569, k_570, k_571, k_572, k_573, k_574, k_575, k_576, r_566_0, r_566_2, r_566_4, r_566_6, r_566_7, r_566_8, r_566_9, r_566_10, r_566_11, r_566_13, va_rf_s, n_cl, n_in_t, n_lt_t, n_lt_f, n_eq_t, n_eq_f, n_sub, nI_add, n_mul, ↓reduceIte, if_true, if_false, eq_self, true_or, or_true, and_self, and_true, true_and, Nat.reduceAdd, Nat.reduceMul, Nat.reduceLeDiff, Nat.zero_le, not_true_eq_false, not_false_eq_true, cat2_n, cat2_i, cat2_r, ws_0, ws_i, ws_r, ws_l, ws_d, aftr_n, aftr_s, bI_ok, bI_t, bI_f, up_s, up_n, n_bit, decide_true, decide_false, Bool.not_true, Bool.not_false, Bool.and_true, Bool.true_and, Bool.false_and, Bool.and_false]
  have a1 : Ag pTx b I (up2 I (ad b 566) 14 (nI 0)) := Ag.rf.up (Or.inr ⟨rfl, rfl⟩)
  have := l124 (Q := Q) (z := z) (KL := KL) (RL := RL) (q := q) (L := L) (sz := sz) (ex := ex) hg hlt h (A 12) 0 false (up2 I (ad b 566) 14 (nI 0)) [] none (by omega) (hz.ag a1 pTx_z) ⟨by rw [up_s]; rfl, fun k hk => absurd hk (Nat.not_lt_zero _)⟩ (pTx_k a1 (by decide) m1) (pTx_k a1 (by decide) m2) (by rw [List.length_nil]; omega) (fun I' g1 g2 => hQ I' (by rwa [List.nil_append] at g1) (a1.tr g2))
  rwa [bI_f] at this
end RL
