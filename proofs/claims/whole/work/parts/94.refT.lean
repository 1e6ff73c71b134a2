/-! THE REFERENCE: the text of a letter -/
def pTx (o j : Nat) : Prop := o = 576 ∨ (o = 566 ∧ j = 14)
def OT (b : Nat) (I : Nat → Nat → Int32) (t : List Nat) : Prop := I (ad b 566) 14 = nI t.length ∧ ∀ k, k < t.length → I (ad b 576) k = nI (t.getD k 0)
theorem getD_snoc {t : List Nat} {c k : Nat} : (t ++ [c]).getD k 0 = if k < t.length then t.getD k 0 else if k = t.length then c else 0 := by
  by_cases h : k < t.length
  · rw [if_pos h, List.getD_eq_getElem?_getD, List.getElem?_append_left h, ← List.getD_eq_getElem?_getD]
  · rw [if_neg h, List.getD_eq_getElem?_getD, List.getElem?_append_right (by omega)]
    by_cases e : k = t.length
    · rw [if_pos e, e, Nat.sub_self]; rfl
    · rw [if_neg e]
      obtain ⟨j, hj⟩ : ∃ j, k - t.length = j + 1 := ⟨k - t.length - 1, by omega⟩
      rw [hj]; rfl
section RT
variable {z : P0} {KL : Nat → Nat × Nat} {RL : Nat → Nat → Option Nat} {q : Nat → Nat} {b : Nat} {I : Nat → Nat → Int32} {L : Nat → Nat → Int64} {sz : Nat} {ex : Bool} {Q : Res → Mem → Prop} {A : Row}
variable {t : List Nat}
theorem RZ.ag {P : Nat → Nat → Prop} {I' : Nat → Nat → Int32} (h : RZ b I A) (hg : Ag P b I I') (hP : ∀ j, ¬ P 567 j) : RZ b I' A := fun k hk => ⟨(hg.at (hP k)).trans (h k hk).1, (h k hk).2⟩
theorem pTx_z : ∀ j, ¬ pTx 567 j := fun j h => by unfold pTx at h; omega
theorem c116 {c : Nat} (ht : OT b I t) (hl : t.length < 2400) (hQ : ∀ I', OT b I' (t ++ [c]) → Ag pTx b I I' → Q (.inl none) (KAt KL b, I', RAt RL b q, L, sz, ex)) : X z 116 0 [some (.ref (ad b 566)), some (.int (nI c))] [] (0, 0) (KAt KL b, I, RAt RL b q, L, sz, ex) Q := by
  simp (disch := omega) only [v116_0, v116_1, v116_4, v116_5, v116_8, v116_9, v116_10, v116_11, v116_11i, v116_12, v116_15, v116_16, v116_17, v116_20, k_566, k_567, k_568, k_569, k_570, k_571, k_572, k_573, k_574, k_575, k_576, r_566_0, r_566_2, r_566_4, r_566_6, r_566_7, r_566_8, r_566_9, r_566_10, r_566_11, r_566_13, va_rf_s, n_cl, n_in_t, n_lt_t, n_lt_f, n_eq_t, n_eq_f, n_sub, nI_add, n_mul, ↓reduceIte, if_true, if_false, eq_self, true_or, or_true, and_self, and_true, true_and, Nat.reduceAdd, Nat.reduceMul, Nat.reduceLeDiff, Nat.zero_le, not_true_eq_false, not_false_eq_true, cat2_n, cat2_i, cat2_r, ws_0, ws_i, ws_r, ws_l, ws_d, aftr_n, aftr_s, bI_ok, bI_t, bI_f, up_s, up_n, n_bit, decide_true, decide_false, Bool.not_true, Bool.not_false, Bool.and_true, Bool.true_and, Bool.false_and, Bool.and_false, ht.1]
  refine hQ _ ⟨?_, fun k hk => ?_⟩ ((Ag.rf.up (Or.inl rfl)).up (Or.inr ⟨rfl, rfl⟩))
  · rw [up_s, List.length_append, List.length_singleton]
  · rw [List.length_append, List.length_singleton] at hk
    rw [up_n (by omega), getD_snoc]
    by_cases e : k = t.length
    · rw [e, up_s, if_neg (by omega), if_pos rfl]
    · rw [if_pos (by omega), ← ht.2 k (by omega)]
      exact up_n (by omega)
theorem c117 {i n : Nat} (ht : OT b I t) (hl : t.length < 2400) (hi : i < n) (hn : n ≤ 20) (hQ : ∀ I', OT b I' (t ++ sepL i n) → Ag pTx b I I' → Q (.inl none) (KAt KL b, I', RAt RL b q, L, sz, ex)) : X z 117 0 [some (.ref (ad b 566)), some (.int (nI i)), some (.int (nI n))] [] (0, 0) (KAt KL b, I, RAt RL b q, L, sz, ex) Q := by
  unfold sepL at hQ
  by_cases h0 : i = 0
  · rw [if_pos h0, List.append_nil] at hQ
    simp (disch := omega) only [v117_0, v117_1, v117_4, v117_5, v117_6, v117_7, v117_8, v117_9, v117_12, v117_14, v117_17, u117_19, v117_22, k_566, k_567, k_568, k_569, k_570, k_571, k_572, k_573, k_574, k_575, k_576, r_566_0, r_566_2, r_566_4, r_566_6, r_566_7, r_566_8, r_566_9, r_566_10, r_566_11, r_566_13, va_rf_s, n_cl, n_in_t, n_lt_t, n_lt_f, n_eq_t, n_eq_f, n_sub, nI_add, n_mul, ↓reduceIte, if_true, if_false, eq_self, true_or, or_true, and_self, and_true, true_and, Nat.reduceAdd, Nat.reduceMul, Nat.reduceLeDiff, Nat.zero_le, not_true_eq_false, not_false_eq_true, cat2_n, cat2_i, cat2_r, ws_0, ws_i, ws_r, ws_l, ws_d, aftr_n, aftr_s, bI_ok, bI_t, bI_f, up_s, up_n, n_bit, decide_true, decide_false, Bool.not_true, Bool.not_false, Bool.and_true, Bool.true_and, Bool.false_and, Bool.and_false]
    exact hQ I ht Ag.rf
  · rw [if_neg h0] at hQ
    by_cases h1 : i + 1 = n
    · rw [if_pos h1] at hQ
      simp (disch := omega) only [v117_0, v117_1, v117_4, v117_5, v117_6, v117_7, v117_8, v117_9, v117_12, v117_14, v117_17, u117_19, v117_22, k_566, k_567, k_568, k_569, k_570, k_571, k_572, k_573, k_574, k_575, k_576, r_566_0, r_566_2, r_566_4, r_566_6, r_566_7, r_566_8, r_566_9, r_566_10, r_566_11, r_566_13, va_rf_s, n_cl, n_in_t, n_lt_t, n_lt_f, n_eq_t, n_eq_f, n_sub, nI_add, n_mul, ↓reduceIte, if_true, if_false, eq_self, true_or, or_true, and_self, and_true, true_and, Nat.reduceAdd, Nat.reduceMul, Nat.reduceLeDiff, Nat.zero_le, not_true_eq_false, not_false_eq_true, cat2_n, cat2_i, cat2_r, ws_0, ws_i, ws_r, ws_l, ws_d, aftr_n, aftr_s, bI_ok, bI_t, bI_f, up_s, up_n, n_bit, decide_true, decide_false, Bool.not_true, Bool.not_false, Bool.and_true, Bool.true_and, Bool.false_and, Bool.and_false]
      refine c116 ht hl (fun I' g1 g2 => ?_)
      simp only [aftr_n, Nat.reduceAdd, v117_22]
      exact hQ I' g1 g2
    · rw [if_neg h1] at hQ
      simp (disch := omega) only [v117_0, v117_1, v117_4, v117_5, v117_6, v117_7, v117_8, v117_9, v117_12, v117_14, v117_17, u117_19, v117_22, k_566, k_567, k_568, k_569, k_570, k_571, k_572, k_573, k_574, k_575, k_576, r_566_0, r_566_2, r_566_4, r_566_6, r_566_7, r_566_8, r_566_9, r_566_10, r_566_11, r_566_13, va_rf_s, n_cl, n_in_t, n_lt_t, n_lt_f, n_eq_t, n_eq_f, n_sub, nI_add, n_mul, ↓reduceIte, if_true, if_false, eq_self, true_or, or_true, and_self, and_true, true_and, Nat.reduceAdd, Nat.reduceMul, Nat.reduceLeDiff, Nat.zero_le, not_true_eq_false, not_false_eq_true, cat2_n, cat2_i, cat2_r, ws_0, ws_i, ws_r, ws_l, ws_d, aftr_n, aftr_s, bI_ok, bI_t, bI_f, up_s, up_n, n_bit, decide_true, decide_false, Bool.not_true, Bool.not_false, Bool.and_true, Bool.true_and, Bool.false_and, Bool.and_false]
      refine c116 ht hl (fun I' g1 g2 => ?_)
      simp only [aftr_n, Nat.reduceAdd, v117_22]
      exact hQ I' g1 g2
theorem l118b {lt told p : Nat} (hp : p < 20) (hA : A (133 + p) ≤ 8) : ∀ d i I t, i + d = A (133 + p) → RZ b I A → OT b I t → t.length + d ≤ 2400 → (∀ I', OT b I' (t ++ segF (fun k => A (153 + 8 * p + k)) i d) → Ag pTx b I I' → X z 118 84 [some (.ref (ad b 566)), some (.int (nI lt)), some (.int (nI told)), some (.int (nI p)), some (.int (nI (A (133 + p))))] [] (0, 0) (KAt KL b, I', RAt RL b q, L, sz, ex) Q) →
    X z 118 43 [some (.ref (ad b 566)), some (.int (nI lt)), some (.int (nI told)), some (.int (nI p)), some (.int (nI i))] [] (0, 0) (KAt KL b, I, RAt RL b q, L, sz, ex) Q := by
  intro d
  induction d with
  | zero =>
    intro i I t h hz ht hl hQ
    rw [v118_43]
    have e : i = A (133 + p) := by omega
    simp (disch := omega) only [v118_45, v118_46, v118_49, v118_52, v118_53, v118_54, v118_55, v118_58, v118_59, v118_60, v118_63, v118_66, v118_68, v118_69, v118_70, v118_71, v118_73, v118_74, u118_75, v118_78, v118_81, k_566, k_567, k_568, k_569, k_570, k_571, k_572, k_573, k_574, k_575, k_576, r_566_0, r_566_2, r_566_4, r_566_6, r_566_7, r_566_8, r_566_9, r_566_10, r_566_11, r_566_13, va_rf_s, n_cl, n_in_t, n_lt_t, n_lt_f, n_eq_t, n_eq_f, n_sub, nI_add, n_mul, ↓reduceIte, if_true, if_false, eq_self, true_or, or_true, and_self, and_true, true_and, Nat.reduceAdd, Nat.reduceMul, Nat.reduceLeDiff, Nat.zero_le, not_true_eq_false, not_false_eq_true, cat2_n, cat2_i, cat2_r, ws_0, ws_i, ws_r, ws_l, ws_d, aftr_n, aftr_s, bI_ok, bI_t, bI_f, up_s, up_n, n_bit, decide_true, decide_false, Bool.not_true, Bool.not_false, Bool.and_true, Bool.true_and, Bool.false_and, Bool.and_false, hz.at]
    have := hQ I (by unfold segF; rwa [List.append_nil]) Ag.rf
    rwa [← e] at this
  | succ d ih =>
    intro i I t h hz ht hl hQ
    rw [v118_43]
    simp (disch := omega) only [v118_45, v118_46, v118_49, v118_52, v118_53, v118_54, v118_55, v118_58, v118_59, v118_60, v118_63, v118_66, v118_68, v118_69, v118_70, v118_71, v118_73, v118_74, u118_75, v118_78, v118_81, k_566, k_567, k_568, k_569, k_570, k_571, k_572, k_573, k_574, k_575, k_576, r_566_0, r_566_2, r_566_4, r_566_6, r_566_7, r_566_8, r_566_9, r_566_10, r_566_11, r_566_13, va_rf_s, n_cl, n_in_t, n_lt_t, n_lt_f, n_eq_t, n_eq_f, n_sub, nI_add, n_mul, ↓reduceIte, if_true, if_false, eq_self, true_or, or_true, and_self, and_true, true_and, Nat.reduceAdd, Nat.reduceMul, Nat.reduceLeDiff, Nat.zero_le, not_true_eq_false, not_false_eq_true, cat2_n, cat2_i, cat2_r, ws_0, ws_i, ws_r, ws_l, ws_d, aftr_n, aftr_s, bI_ok, bI_t, bI_f, up_s, up_n, n_bit, decide_true, decide_false, Bool.not_true, Bool.not_false, Bool.and_true, Bool.true_and, Bool.false_and, Bool.and_false, hz.at]
    refine c116 ht (by omega) (fun I' g1 g2 => ?_)
    simp (disch := omega) only [v118_45, v118_46, v118_49, v118_52, v118_53, v118_54, v118_55, v118_58, v118_59, v118_60, v118_63, v118_66, v118_68, v118_69, v118_70, v118_71, v118_73, v118_74, u118_75, v118_78, v118_81, k_566, k_567, k_568, k_569, k_570, k_571, k_572, k_573, k_574, k_575, k_576, r_566_0, r_566_2, r_566_4, r_566_6, r_566_7, r_566_8, r_566_9, r_566_10, r_566_11, r_566_13, va_rf_s, n_cl, n_in_t, n_lt_t, n_lt_f, n_eq_t, n_eq_f, n_sub, nI_add, n_mul, ↓reduceIte, if_true, if_false, eq_self, true_or, or_true, and_self, and_true, true_and, Nat.reduceAdd, Nat.reduceMul, Nat.reduceLeDiff, Nat.zero_le, not_true_eq_false, not_false_eq_true, cat2_n, cat2_i, cat2_r, ws_0, ws_i, ws_r, ws_l, ws_d, aftr_n, aftr_s, bI_ok, bI_t, bI_f, up_s, up_n, n_bit, decide_true, decide_false, Bool.not_true, Bool.not_false, Bool.and_true, Bool.true_and, Bool.false_and, Bool.and_false]
    refine ih (i + 1) I' _ (by omega) (hz.ag g2 pTx_z) g1 (by rw [List.length_append, List.length_singleton]; omega) (fun I2 g3 g4 => ?_)
    refine hQ I2 ?_ (g2.tr g4)
    unfold segF
    rwa [List.append_assoc] at g3

theorem pTx_o {o j : Nat} (h : o ≠ 576 ∧ o ≠ 566) : ¬ pTx o j := fun x => by unfold pTx at x; omega
theorem seqL_c {n i : Nat} {x : List Nat} {r : List (List Nat)} : seqL n i (x :: r) = sepL i n ++ (x ++ seqL n (i + 1) r) := rfl
theorem nameL_len {p : Nat} : (nameL A p).length = A (133 + p) := segF_len _ _
set_option maxHeartbeats 4000000 in
theorem l118 {lt n m : Nat} (hg : Good A) (hn : n ≤ 6) (hm : m < 2147483648) (hlt : lt < 20) : ∀ d p (rest : List Nat) told I t (x4 : Option Value), p + d = A 6 → rest.Pairwise (· < ·) → (∀ x ∈ rest, p ≤ x) → (∀ x ∈ rest, x < A 6) → (∀ j, p ≤ j → m.testBit j = decide (j ∈ rest)) → told + rest.length = n → RZ b I A → OT b I t → I (ad b 570) lt = nI m → I (ad b 571) lt = nI n →
    t.length + (seqL n told (rest.map (nameL A))).length ≤ 2400 → (∀ I', OT b I' (t ++ seqL n told (rest.map (nameL A))) → Ag pTx b I I' → Q (.inl none) (KAt KL b, I', RAt RL b q, L, sz, ex)) →
    X z 118 4 [some (.ref (ad b 566)), some (.int (nI lt)), some (.int (nI told)), some (.int (nI p)), x4] [] (0, 0) (KAt KL b, I, RAt RL b q, L, sz, ex) Q := by
  intro d
  have h6 := hg.1.1
  induction d with
  | zero =>
    intro p rest told I t x4 h hs h1 h2 hb ht hz ho m1 m2 hl hQ
    have : rest = [] := by
      cases rest with
      | nil => rfl
      | cons x r => have := h1 x List.mem_cons_self; have := h2 x List.mem_cons_self; omega
    subst this
    rw [v118_4]
    simp (disch := omega) only [v118_0, v118_1, v118_2, v118_3, v118_5, v118_6, v118_9, v118_11, v118_12, v118_15, v118_16, v118_19, v118_20, v118_21, v118_22, v118_23, v118_24, v118_25, v118_26, v118_29, v118_30, v118_31, v118_32, v118_35, v118_36, u118_37, v118_40, v118_41, v118_45, v118_46, v118_49, v118_52, v118_53, v118_54, v118_55, v118_58, v118_59, v118_60, v118_63, v118_66, v118_68, v118_69, v118_70, v118_71, v118_73, v118_74, u118_75, v118_78, v118_81, v118_84, v118_87, v118_90, v118_93, k_566, k_567, k_568, k_569, k_570, k_571, k_572, k_573, k_574, k_575, k_576, r_566_0, r_566_2, r_566_4, r_566_6, r_566_7, r_566_8, r_566_9, r_566_10, r_566_11, r_566_13, va_rf_s, n_cl, n_in_t, n_lt_t, n_lt_f, n_eq_t, n_eq_f, n_sub, nI_add, n_mul, ↓reduceIte, if_true, if_false, eq_self, true_or, or_true, and_self, and_true, true_and, Nat.reduceAdd, Nat.reduceMul, Nat.reduceLeDiff, Nat.zero_le, not_true_eq_false, not_false_eq_true, cat2_n, cat2_i, cat2_r, ws_0, ws_i, ws_r, ws_l, ws_d, aftr_n, aftr_s, bI_ok, bI_t, bI_f, up_s, up_n, n_bit, decide_true, decide_false, Bool.not_true, Bool.not_false, Bool.and_true, Bool.true_and, Bool.false_and, Bool.and_false, hz.at]
    exact hQ I (by rw [List.map_nil]; unfold seqL; rwa [List.append_nil]) Ag.rf
  | succ d ih =>
    intro p rest told I t x4 h hs h1 h2 hb ht hz ho m1 m2 hl hQ
    rw [v118_4]
    rcases sorted_cases hs h1 with ⟨r, rfl, hr⟩ | ⟨hn1, hr⟩
    · have hbp : m.testBit p = true := by rw [hb p (Nat.le_refl _)]; exact decide_eq_true List.mem_cons_self
      obtain ⟨-, -, -, -, -, q1, q2, -⟩ := hg.2.2.1 p (by omega)
      rw [List.map_cons, seqL_c, List.length_append, List.length_append, nameL_len] at hl
      rw [List.map_cons, seqL_c] at hQ
      rw [List.length_cons] at ht
      simp (disch := omega) only [v118_0, v118_1, v118_2, v118_3, v118_5, v118_6, v118_9, v118_11, v118_12, v118_15, v118_16, v118_19, v118_20, v118_21, v118_22, v118_23, v118_24, v118_25, v118_26, v118_29, v118_30, v118_31, v118_32, v118_35, v118_36, u118_37, v118_40, v118_41, v118_45, v118_46, v118_49, v118_52, v118_53, v118_54, v118_55, v118_58, v118_59, v118_60, v118_63, v118_66, v118_68, v118_69, v118_70, v118_71, v118_73, v118_74, u118_75, v118_78, v118_81, v118_84, v118_87, v118_90, v118_93, k_566, k_567, k_568, k_569, k_570, k_571, k_572, k_573, k_574, k_575, k_576, r_566_0, r_566_2, r_566_4, r_566_6, r_566_7, r_566_8, r_566_9, r_566_10, r_566_11, r_566_13, va_rf_s, n_cl, n_in_t, n_lt_t, n_lt_f, n_eq_t, n_eq_f, n_sub, nI_add, n_mul, ↓reduceIte, if_true, if_false, eq_self, true_or, or_true, and_self, and_true, true_and, Nat.reduceAdd, Nat.reduceMul, Nat.reduceLeDiff, Nat.zero_le, not_true_eq_false, not_false_eq_true, cat2_n, cat2_i, cat2_r, ws_0, ws_i, ws_r, ws_l, ws_d, aftr_n, aftr_s, bI_ok, bI_t, bI_f, up_s, up_n, n_bit, decide_true, decide_false, Bool.not_true, Bool.not_false, Bool.and_true, Bool.true_and, Bool.false_and, Bool.and_false, hz.at, m1, m2, hbp]
      refine c117 ho (by omega) (by omega) (by omega) (fun I1 g1 g2 => ?_)
      simp (disch := omega) only [v118_0, v118_1, v118_2, v118_3, v118_5, v118_6, v118_9, v118_11, v118_12, v118_15, v118_16, v118_19, v118_20, v118_21, v118_22, v118_23, v118_24, v118_25, v118_26, v118_29, v118_30, v118_31, v118_32, v118_35, v118_36, u118_37, v118_40, v118_41, v118_45, v118_46, v118_49, v118_52, v118_53, v118_54, v118_55, v118_58, v118_59, v118_60, v118_63, v118_66, v118_68, v118_69, v118_70, v118_71, v118_73, v118_74, u118_75, v118_78, v118_81, v118_84, v118_87, v118_90, v118_93, k_566, k_567, k_568, k_569, k_570, k_571, k_572, k_573, k_574, k_575, k_576, r_566_0, r_566_2, r_566_4, r_566_6, r_566_7, r_566_8, r_566_9, r_566_10, r_566_11, r_566_13, va_rf_s, n_cl, n_in_t, n_lt_t, n_lt_f, n_eq_t, n_eq_f, n_sub, nI_add, n_mul, ↓reduceIte, if_true, if_false, eq_self, true_or, or_true, and_self, and_true, true_and, Nat.reduceAdd, Nat.reduceMul, Nat.reduceLeDiff, Nat.zero_le, not_true_eq_false, not_false_eq_true, cat2_n, cat2_i, cat2_r, ws_0, ws_i, ws_r, ws_l, ws_d, aftr_n, aftr_s, bI_ok, bI_t, bI_f, up_s, up_n, n_bit, decide_true, decide_false, Bool.not_true, Bool.not_false, Bool.and_true, Bool.true_and, Bool.false_and, Bool.and_false]
      refine l118b (by omega) q2 (A (133 + p)) 0 I1 _ (by omega) (hz.ag g2 pTx_z) g1 (by rw [List.length_append]; omega) (fun I2 g3 g4 => ?_)
      simp (disch := omega) only [v118_0, v118_1, v118_2, v118_3, v118_5, v118_6, v118_9, v118_11, v118_12, v118_15, v118_16, v118_19, v118_20, v118_21, v118_22, v118_23, v118_24, v118_25, v118_26, v118_29, v118_30, v118_31, v118_32, v118_35, v118_36, u118_37, v118_40, v118_41, v118_45, v118_46, v118_49, v118_52, v118_53, v118_54, v118_55, v118_58, v118_59, v118_60, v118_63, v118_66, v118_68, v118_69, v118_70, v118_71, v118_73, v118_74, u118_75, v118_78, v118_81, v118_84, v118_87, v118_90, v118_93, k_566, k_567, k_568, k_569, k_570, k_571, k_572, k_573, k_574, k_575, k_576, r_566_0, r_566_2, r_566_4, r_566_6, r_566_7, r_566_8, r_566_9, r_566_10, r_566_11, r_566_13, va_rf_s, n_cl, n_in_t, n_lt_t, n_lt_f, n_eq_t, n_eq_f, n_sub, nI_add, n_mul, ↓reduceIte, if_true, if_false, eq_self, true_or, or_true, and_self, and_true, true_and, Nat.reduceAdd, Nat.reduceMul, Nat.reduceLeDiff, Nat.zero_le, not_true_eq_false, not_false_eq_true, cat2_n, cat2_i, cat2_r, ws_0, ws_i, ws_r, ws_l, ws_d, aftr_n, aftr_s, bI_ok, bI_t, bI_f, up_s, up_n, n_bit, decide_true, decide_false, Bool.not_true, Bool.not_false, Bool.and_true, Bool.true_and, Bool.false_and, Bool.and_false]
      rw [List.pairwise_cons] at hs
      have g5 := g2.tr g4
      refine ih (p + 1) r (told + 1) I2 _ _ (by omega) hs.2 hr (fun x hx => h2 x (List.mem_cons_of_mem _ hx)) (fun j hj => ?_) (by omega) (hz.ag g5 pTx_z) g3 ((g5.at (pTx_o (by omega))).trans m1) ((g5.at (pTx_o (by omega))).trans m2) ?_ (fun I3 g6 g7 => hQ I3 ?_ (g5.tr g7))
      · rw [hb j (by omega)]
        have : ¬ j = p := by omega
        simp [this]
      · have e1 := nameL_len (A := A) (p := p)
        unfold nameL at e1
        simp only [List.length_append, e1]
        omega
      · rwa [List.append_assoc, List.append_assoc] at g6
    · have hbp : m.testBit p = false := by rw [hb p (Nat.le_refl _)]; exact decide_eq_false hn1
      simp (disch := omega) only [v118_0, v118_1, v118_2, v118_3, v118_5, v118_6, v118_9, v118_11, v118_12, v118_15, v118_16, v118_19, v118_20, v118_21, v118_22, v118_23, v118_24, v118_25, v118_26, v118_29, v118_30, v118_31, v118_32, v118_35, v118_36, u118_37, v118_40, v118_41, v118_45, v118_46, v118_49, v118_52, v118_53, v118_54, v118_55, v118_58, v118_59, v118_60, v118_63, v118_66, v118_68, v118_69, v118_70, v118_71, v118_73, v118_74, u118_75, v118_78, v118_81, v118_84, v118_87, v118_90, v118_93, k_566, k_567, k_568, k_569, k_570, k_571, k_572, k_573, k_574, k_575, k_576, r_566_0, r_566_2, r_566_4, r_566_6, r_566_7, r_566_8, r_566_9, r_566_10, r_566_11, r_566_13, va_rf_s, n_cl, n_in_t, n_lt_t, n_lt_f, n_eq_t, n_eq_f, n_sub, nI_add, n_mul, ↓reduceIte, if_true, if_false, eq_self, true_or, or_true, and_self, and_true, true_and, Nat.reduceAdd, Nat.reduceMul, Nat.reduceLeDiff, Nat.zero_le, not_true_eq_false, not_false_eq_true, cat2_n, cat2_i, cat2_r, ws_0, ws_i, ws_r, ws_l, ws_d, aftr_n, aftr_s, bI_ok, bI_t, bI_f, up_s, up_n, n_bit, decide_true, decide_false, Bool.not_true, Bool.not_false, Bool.and_true, Bool.true_and, Bool.false_and, Bool.and_false, hz.at, m1, m2, hbp]
      exact ih (p + 1) rest told I t _ (by omega) hs hr h2 (fun j hj => hb j (by omega)) ht hz ho m1 m2 hl hQ
theorem c118 {lt : Nat} {g : List Nat} (hg : Good A) (hlt : lt < 20) (hs : g.Pairwise (· < ·)) (h2 : ∀ x ∈ g, x < A 6) (hn : g.length ≤ 6) (hz : RZ b I A) (ho : OT b I t) (m1 : I (ad b 570) lt = nI (maskL g)) (m2 : I (ad b 571) lt = nI g.length)
    (hl : t.length + (namesT A g).length ≤ 2400) (hQ : ∀ I', OT b I' (t ++ namesT A g) → Ag pTx b I I' → Q (.inl none) (KAt KL b, I', RAt RL b q, L, sz, ex)) : X z 118 0 [some (.ref (ad b 566)), some (.int (nI lt)), none, none, none] [] (0, 0) (KAt KL b, I, RAt RL b q, L, sz, ex) Q := by
  have h6 := hg.1.1
  simp (disch := omega) only [v118_0, v118_1, v118_2, v118_3, k_566, k_567, k_568, k_569, k_570, k_571, k_572, k_573, k_574, k_575, k_576, r_566_0, r_566_2, r_566_4, r_566_6, r_566_7, r_566_8, r_566_9, r_566_10, r_566_11, r_566_13, va_rf_s, n_cl, n_in_t, n_lt_t, n_lt_f, n_eq_t, n_eq_f, n_sub, nI_add, n_mul, ↓reduceIte, if_true, if_false, eq_self, true_or, or_true, and_self, and_true, true_and, Nat.reduceAdd, Nat.reduceMul, Nat.reduceLeDiff, Nat.zero_le, not_true_eq_false, not_false_eq_true, cat2_n, cat2_i, cat2_r, ws_0, ws_i, ws_r, ws_l, ws_d, aftr_n, aftr_s, bI_ok, bI_t, bI_f, up_s, up_n, n_bit, decide_true, decide_false, Bool.not_true, Bool.not_false, Bool.and_true, Bool.true_and, Bool.false_and, Bool.and_false]
  refine l118 hg hn (Nat.lt_of_lt_of_le (maskL_lt (n := 20) (fun p hp => by have := h2 p hp; omega)) (by decide)) hlt (A 6) 0 g 0 I t _ (by omega) hs (fun x _ => Nat.zero_le x) h2 (fun j _ => maskL_t) (by omega) hz ho m1 m2 hl hQ
theorem l113 {lt m h : Nat} (hlt : lt < 20) (hm : m < 2147483648) (hh : h < 20) (hb : m.testBit h = true) (hn : ∀ j, j < h → m.testBit j = false) (m1 : I (ad b 570) lt = nI m) : ∀ d p, p + d = h → X z 113 2 [some (.ref (ad b 566)), some (.int (nI lt)), some (.int (nI p))] [] (0, 0) (KAt KL b, I, RAt RL b q, L, sz, ex) Q = Q (.inl (some (.int (nI h)))) (KAt KL b, I, RAt RL b q, L, sz, ex) := by
  intro d
  induction d with
  | zero =>
    intro p hp
    have e : p = h := by omega
    rw [v113_2]
    simp (disch := omega) only [v113_0, v113_1, v113_3, v113_6, v113_7, v113_8, v113_9, v113_10, v113_11, v113_12, v113_15, v113_18, v113_21, v113_22, k_566, k_567, k_568, k_569, k_570, k_571, k_572, k_573, k_574, k_575, k_576, r_566_0, r_566_2, r_566_4, r_566_6, r_566_7, r_566_8, r_566_9, r_566_10, r_566_11, r_566_13, va_rf_s, n_cl, n_in_t, n_lt_t, n_lt_f, n_eq_t, n_eq_f, n_sub, nI_add, n_mul, ↓reduceIte, if_true, if_false, eq_self, true_or, or_true, and_self, and_true, true_and, Nat.reduceAdd, Nat.reduceMul, Nat.reduceLeDiff, Nat.zero_le, not_true_eq_false, not_false_eq_true, cat2_n, cat2_i, cat2_r, ws_0, ws_i, ws_r, ws_l, ws_d, aftr_n, aftr_s, bI_ok, bI_t, bI_f, up_s, up_n, n_bit, decide_true, decide_false, Bool.not_true, Bool.not_false, Bool.and_true, Bool.true_and, Bool.false_and, Bool.and_false, m1, e, hb]
  | succ d ih =>
    intro p hp
    rw [v113_2]
    simp (disch := omega) only [v113_0, v113_1, v113_3, v113_6, v113_7, v113_8, v113_9, v113_10, v113_11, v113_12, v113_15, v113_18, v113_21, v113_22, k_566, k_567, k_568, k_569, k_570, k_571, k_572, k_573, k_574, k_575, k_576, r_566_0, r_566_2, r_566_4, r_566_6, r_566_7, r_566_8, r_566_9, r_566_10, r_566_11, r_566_13, va_rf_s, n_cl, n_in_t, n_lt_t, n_lt_f, n_eq_t, n_eq_f, n_sub, nI_add, n_mul, ↓reduceIte, if_true, if_false, eq_self, true_or, or_true, and_self, and_true, true_and, Nat.reduceAdd, Nat.reduceMul, Nat.reduceLeDiff, Nat.zero_le, not_true_eq_false, not_false_eq_true, cat2_n, cat2_i, cat2_r, ws_0, ws_i, ws_r, ws_l, ws_d, aftr_n, aftr_s, bI_ok, bI_t, bI_f, up_s, up_n, n_bit, decide_true, decide_false, Bool.not_true, Bool.not_false, Bool.and_true, Bool.true_and, Bool.false_and, Bool.and_false, m1, hn p (by omega), ih (p + 1)]
theorem head_min {g : List Nat} (hs : g.Pairwise (· < ·)) (hne : g ≠ []) : g.headD 0 ∈ g ∧ ∀ j, j < g.headD 0 → j ∉ g := by
  cases g with
  | nil => exact absurd rfl hne
  | cons x r =>
    rw [List.pairwise_cons] at hs
    refine ⟨List.mem_cons_self, fun j hj hm => ?_⟩
    rw [List.headD_cons] at hj
    rcases List.mem_cons.mp hm with h | h
    · omega
    · have := hs.1 j h; omega
theorem c113 {lt : Nat} {g : List Nat} (hlt : lt < 20) (hs : g.Pairwise (· < ·)) (hne : g ≠ []) (h2 : ∀ x ∈ g, x < 20) (m1 : I (ad b 570) lt = nI (maskL g)) : X z 113 0 [some (.ref (ad b 566)), some (.int (nI lt)), none] [] (0, 0) (KAt KL b, I, RAt RL b q, L, sz, ex) Q = Q (.inl (some (.int (nI (g.headD 0))))) (KAt KL b, I, RAt RL b q, L, sz, ex) := by
  obtain ⟨e1, e2⟩ := head_min hs hne
  have hm : maskL g < 2147483648 := Nat.lt_of_lt_of_le (maskL_lt (n := 20) h2) (by decide)
  simp (disch := omega) only [v113_0, v113_1, k_566, k_567, k_568, k_569, k_570, k_571, k_572, k_573, k_574, k_575, k_576, r_566_0, r_566_2, r_566_4, r_566_6, r_566_7, r_566_8, r_566_9, r_566_10, r_566_11, r_566_13, va_rf_s, n_cl, n_in_t, n_lt_t, n_lt_f, n_eq_t, n_eq_f, n_sub, nI_add, n_mul, ↓reduceIte, if_true, if_false, eq_self, true_or, or_true, and_self, and_true, true_and, Nat.reduceAdd, Nat.reduceMul, Nat.reduceLeDiff, Nat.zero_le, not_true_eq_false, not_false_eq_true, cat2_n, cat2_i, cat2_r, ws_0, ws_i, ws_r, ws_l, ws_d, aftr_n, aftr_s, bI_ok, bI_t, bI_f, up_s, up_n, n_bit, decide_true, decide_false, Bool.not_true, Bool.not_false, Bool.and_true, Bool.true_and, Bool.false_and, Bool.and_false, l113 hlt hm (h2 _ e1) (by rw [maskL_t]; exact decide_eq_true e1) (fun j hj => by rw [maskL_t]; exact decide_eq_false (e2 j hj)) m1 (g.headD 0) 0]
/-- whether all have the form f, as the reference asks it -/
def sam (A : Row) (f : Nat) : Nat → List Nat → Nat
  | s, [] => s
  | s, x :: r => sam A f (if s = 0 then 0 else if A (33 + x) = f then 1 else 0) r
theorem sam_0 {f : Nat} : ∀ g, sam A f 0 g = 0
  | [] => rfl
  | x :: r => by unfold sam; rw [if_pos rfl]; exact sam_0 r
theorem sam_1 {f : Nat} : ∀ g, sam A f 1 g = if g.all (fun p => A (33 + p) == f) = true then 1 else 0
  | [] => rfl
  | x :: r => by
    unfold sam
    rw [if_neg (by omega), List.all_cons]
    by_cases h : A (33 + x) = f
    · rw [if_pos h, sam_1 r, show (A (33 + x) == f) = true from beq_iff_eq.mpr h, Bool.true_and]
    · rw [if_neg h, sam_0, show (A (33 + x) == f) = false from beq_eq_false_iff_ne.mpr h, Bool.false_and]; rfl
set_option maxHeartbeats 4000000 in
theorem l119 {lt m f : Nat} (hg : Good A) (hm : m < 2147483648) (hlt : lt < 20) (hf : f < 4294967296) (hz : RZ b I A) (m1 : I (ad b 570) lt = nI m) : ∀ d p (rest : List Nat) s, p + d = A 6 → rest.Pairwise (· < ·) → (∀ x ∈ rest, p ≤ x) → (∀ x ∈ rest, x < A 6) → (∀ j, p ≤ j → m.testBit j = decide (j ∈ rest)) → s ≤ 1 →
    X z 119 19 [some (.ref (ad b 566)), some (.int (nI lt)), some (.int (nI f)), some (.int (nI s)), some (.int (nI p))] [] (0, 0) (KAt KL b, I, RAt RL b q, L, sz, ex) Q = X z 119 75 [some (.ref (ad b 566)), some (.int (nI lt)), some (.int (nI f)), some (.int (nI (sam A f s rest))), some (.int (nI (A 6)))] [] (0, 0) (KAt KL b, I, RAt RL b q, L, sz, ex) Q := by
  intro d
  have h6 := hg.1.1
  induction d with
  | zero =>
    intro p rest s h hs h1 h2 hb hs1
    have : rest = [] := by
      cases rest with
      | nil => rfl
      | cons x r => have := h1 x List.mem_cons_self; have := h2 x List.mem_cons_self; omega
    subst this
    have e : p = A 6 := by omega
    rw [v119_19, e]
    simp (disch := omega) only [v119_21, v119_22, v119_25, v119_27, v119_28, k_566, k_567, k_568, k_569, k_570, k_571, k_572, k_573, k_574, k_575, k_576, r_566_0, r_566_2, r_566_4, r_566_6, r_566_7, r_566_8, r_566_9, r_566_10, r_566_11, r_566_13, va_rf_s, n_cl, n_in_t, n_lt_t, n_lt_f, n_eq_t, n_eq_f, n_sub, nI_add, n_mul, ↓reduceIte, if_true, if_false, eq_self, true_or, or_true, and_self, and_true, true_and, Nat.reduceAdd, Nat.reduceMul, Nat.reduceLeDiff, Nat.zero_le, not_true_eq_false, not_false_eq_true, cat2_n, cat2_i, cat2_r, ws_0, ws_i, ws_r, ws_l, ws_d, aftr_n, aftr_s, bI_ok, bI_t, bI_f, up_s, up_n, n_bit, decide_true, decide_false, Bool.not_true, Bool.not_false, Bool.and_true, Bool.true_and, Bool.false_and, Bool.and_false, hz.at]
    rfl
  | succ d ih =>
    intro p rest s h hs h1 h2 hb hs1
    rw [v119_19]
    have l1 := hz.lt (k := 33 + p) (by omega)
    rcases sorted_cases hs h1 with ⟨r, rfl, hr⟩ | ⟨hn1, hr⟩
    · have hbp : m.testBit p = true := by rw [hb p (Nat.le_refl _)]; exact decide_eq_true List.mem_cons_self
      rw [List.pairwise_cons] at hs
      have hb' : ∀ j, p + 1 ≤ j → m.testBit j = decide (j ∈ r) := fun j hj => by
        rw [hb j (by omega)]
        have : ¬ j = p := by omega
        simp [this]
      have h2' := fun x hx => h2 x (List.mem_cons_of_mem p hx)
      unfold sam
      by_cases e0 : s = 0
      · rw [if_pos e0]
        simp (disch := omega) only [v119_21, v119_22, v119_25, v119_27, v119_28, v119_31, v119_32, v119_35, v119_36, v119_39, v119_40, v119_41, v119_43, v119_44, v119_45, v119_46, v119_49, v119_50, v119_53, v119_55, v119_57, v119_58, v119_59, v119_60, v119_63, v119_64, v119_67, v119_68, v119_69, v119_72, k_566, k_567, k_568, k_569, k_570, k_571, k_572, k_573, k_574, k_575, k_576, r_566_0, r_566_2, r_566_4, r_566_6, r_566_7, r_566_8, r_566_9, r_566_10, r_566_11, r_566_13, va_rf_s, n_cl, n_in_t, n_lt_t, n_lt_f, n_eq_t, n_eq_f, n_sub, nI_add, n_mul, ↓reduceIte, if_true, if_false, eq_self, true_or, or_true, and_self, and_true, true_and, Nat.reduceAdd, Nat.reduceMul, Nat.reduceLeDiff, Nat.zero_le, not_true_eq_false, not_false_eq_true, cat2_n, cat2_i, cat2_r, ws_0, ws_i, ws_r, ws_l, ws_d, aftr_n, aftr_s, bI_ok, bI_t, bI_f, up_s, up_n, n_bit, decide_true, decide_false, Bool.not_true, Bool.not_false, Bool.and_true, Bool.true_and, Bool.false_and, Bool.and_false, hz.at, m1, hbp]
        exact ih (p + 1) r 0 (by omega) hs.2 hr h2' hb' (by omega)
      · rw [if_neg e0]
        by_cases e1 : A (33 + p) = f
        · rw [if_pos e1]
          simp (disch := omega) only [v119_21, v119_22, v119_25, v119_27, v119_28, v119_31, v119_32, v119_35, v119_36, v119_39, v119_40, v119_41, v119_43, v119_44, v119_45, v119_46, v119_49, v119_50, v119_53, v119_55, v119_57, v119_58, v119_59, v119_60, v119_63, v119_64, v119_67, v119_68, v119_69, v119_72, k_566, k_567, k_568, k_569, k_570, k_571, k_572, k_573, k_574, k_575, k_576, r_566_0, r_566_2, r_566_4, r_566_6, r_566_7, r_566_8, r_566_9, r_566_10, r_566_11, r_566_13, va_rf_s, n_cl, n_in_t, n_lt_t, n_lt_f, n_eq_t, n_eq_f, n_sub, nI_add, n_mul, ↓reduceIte, if_true, if_false, eq_self, true_or, or_true, and_self, and_true, true_and, Nat.reduceAdd, Nat.reduceMul, Nat.reduceLeDiff, Nat.zero_le, not_true_eq_false, not_false_eq_true, cat2_n, cat2_i, cat2_r, ws_0, ws_i, ws_r, ws_l, ws_d, aftr_n, aftr_s, bI_ok, bI_t, bI_f, up_s, up_n, n_bit, decide_true, decide_false, Bool.not_true, Bool.not_false, Bool.and_true, Bool.true_and, Bool.false_and, Bool.and_false, hz.at, m1, hbp]
          exact ih (p + 1) r 1 (by omega) hs.2 hr h2' hb' (by omega)
        · rw [if_neg e1]
          simp (disch := omega) only [v119_21, v119_22, v119_25, v119_27, v119_28, v119_31, v119_32, v119_35, v119_36, v119_39, v119_40, v119_41, v119_43, v119_44, v119_45, v119_46, v119_49, v119_50, v119_53, v119_55, v119_57, v119_58, v119_59, v119_60, v119_63, v119_64, v119_67, v119_68, v119_69, v119_72, k_566, k_567, k_568, k_569, k_570, k_571, k_572, k_573, k_574, k_575, k_576, r_566_0, r_566_2, r_566_4, r_566_6, r_566_7, r_566_8, r_566_9, r_566_10, r_566_11, r_566_13, va_rf_s, n_cl, n_in_t, n_lt_t, n_lt_f, n_eq_t, n_eq_f, n_sub, nI_add, n_mul, ↓reduceIte, if_true, if_false, eq_self, true_or, or_true, and_self, and_true, true_and, Nat.reduceAdd, Nat.reduceMul, Nat.reduceLeDiff, Nat.zero_le, not_true_eq_false, not_false_eq_true, cat2_n, cat2_i, cat2_r, ws_0, ws_i, ws_r, ws_l, ws_d, aftr_n, aftr_s, bI_ok, bI_t, bI_f, up_s, up_n, n_bit, decide_true, decide_false, Bool.not_true, Bool.not_false, Bool.and_true, Bool.true_and, Bool.false_and, Bool.and_false, hz.at, m1, hbp]
          exact ih (p + 1) r 0 (by omega) hs.2 hr h2' hb' (by omega)
    · have hbp : m.testBit p = false := by rw [hb p (Nat.le_refl _)]; exact decide_eq_false hn1
      have hb' : ∀ j, p + 1 ≤ j → m.testBit j = decide (j ∈ rest) := fun j hj => hb j (by omega)
      by_cases e0 : s = 0
      · subst e0
        simp (disch := omega) only [v119_21, v119_22, v119_25, v119_27, v119_28, v119_31, v119_32, v119_35, v119_36, v119_39, v119_40, v119_41, v119_43, v119_44, v119_45, v119_46, v119_49, v119_50, v119_53, v119_55, v119_57, v119_58, v119_59, v119_60, v119_63, v119_64, v119_67, v119_68, v119_69, v119_72, k_566, k_567, k_568, k_569, k_570, k_571, k_572, k_573, k_574, k_575, k_576, r_566_0, r_566_2, r_566_4, r_566_6, r_566_7, r_566_8, r_566_9, r_566_10, r_566_11, r_566_13, va_rf_s, n_cl, n_in_t, n_lt_t, n_lt_f, n_eq_t, n_eq_f, n_sub, nI_add, n_mul, ↓reduceIte, if_true, if_false, eq_self, true_or, or_true, and_self, and_true, true_and, Nat.reduceAdd, Nat.reduceMul, Nat.reduceLeDiff, Nat.zero_le, not_true_eq_false, not_false_eq_true, cat2_n, cat2_i, cat2_r, ws_0, ws_i, ws_r, ws_l, ws_d, aftr_n, aftr_s, bI_ok, bI_t, bI_f, up_s, up_n, n_bit, decide_true, decide_false, Bool.not_true, Bool.not_false, Bool.and_true, Bool.true_and, Bool.false_and, Bool.and_false, hz.at, m1, hbp]
        exact ih (p + 1) rest 0 (by omega) hs hr h2 hb' (by omega)
      · have e1 : s = 1 := by omega
        subst e1
        simp (disch := omega) only [v119_21, v119_22, v119_25, v119_27, v119_28, v119_31, v119_32, v119_35, v119_36, v119_39, v119_40, v119_41, v119_43, v119_44, v119_45, v119_46, v119_49, v119_50, v119_53, v119_55, v119_57, v119_58, v119_59, v119_60, v119_63, v119_64, v119_67, v119_68, v119_69, v119_72, k_566, k_567, k_568, k_569, k_570, k_571, k_572, k_573, k_574, k_575, k_576, r_566_0, r_566_2, r_566_4, r_566_6, r_566_7, r_566_8, r_566_9, r_566_10, r_566_11, r_566_13, va_rf_s, n_cl, n_in_t, n_lt_t, n_lt_f, n_eq_t, n_eq_f, n_sub, nI_add, n_mul, ↓reduceIte, if_true, if_false, eq_self, true_or, or_true, and_self, and_true, true_and, Nat.reduceAdd, Nat.reduceMul, Nat.reduceLeDiff, Nat.zero_le, not_true_eq_false, not_false_eq_true, cat2_n, cat2_i, cat2_r, ws_0, ws_i, ws_r, ws_l, ws_d, aftr_n, aftr_s, bI_ok, bI_t, bI_f, up_s, up_n, n_bit, decide_true, decide_false, Bool.not_true, Bool.not_false, Bool.and_true, Bool.true_and, Bool.false_and, Bool.and_false, hz.at, m1, hbp]
        exact ih (p + 1) rest 1 (by omega) hs hr h2 hb' (by omega)
theorem pTx_k {lt : Nat} {x : Int32} {I' : Nat → Nat → Int32} {o : Nat} (h : Ag pTx b I I') (ho : o ≠ 576 ∧ o ≠ 566) (m : I (ad b o) lt = x) : I' (ad b o) lt = x := (h.at (pTx_o ho)).trans m
set_option maxHeartbeats 4000000 in
theorem c119 {lt : Nat} {g : List Nat} (hg : Good A) (hlt : lt < 20) (hs : g.Pairwise (· < ·)) (hne : g ≠ []) (h2 : ∀ x ∈ g, x < A 6) (hn : g.length ≤ 6) (hz : RZ b I A) (ho : OT b I t) (m1 : I (ad b 570) lt = nI (maskL g)) (m2 : I (ad b 571) lt = nI g.length)
    (hl : t.length + 3 ≤ 2400) (hQ : ∀ I', OT b I' (t ++ formT A g) → Ag pTx b I I' → Q (.inl none) (KAt KL b, I', RAt RL b q, L, sz, ex)) : X z 119 0 [some (.ref (ad b 566)), some (.int (nI lt)), none, none, none] [] (0, 0) (KAt KL b, I, RAt RL b q, L, sz, ex) Q := by
  have h6 := hg.1.1
  have h20 : ∀ x ∈ g, x < 20 := fun x hx => by have := h2 x hx; omega
  have hh := head_min hs hne
  have hh1 := h2 _ hh.1
  obtain ⟨q0, q1, -⟩ := hg.2.2.1 _ hh1
  have hm : maskL g < 2147483648 := Nat.lt_of_lt_of_le (maskL_lt (n := 20) h20) (by decide)
  simp (disch := omega) only [v119_0, v119_1, v119_4, v119_6, v119_7, u119_8, v119_11, v119_12, v119_13, v119_14, v119_15, v119_16, v119_17, k_566, k_567, k_568, k_569, k_570, k_571, k_572, k_573, k_574, k_575, k_576, r_566_0, r_566_2, r_566_4, r_566_6, r_566_7, r_566_8, r_566_9, r_566_10, r_566_11, r_566_13, va_rf_s, n_cl, n_in_t, n_lt_t, n_lt_f, n_eq_t, n_eq_f, n_sub, nI_add, n_mul, ↓reduceIte, if_true, if_false, eq_self, true_or, or_true, and_self, and_true, true_and, Nat.reduceAdd, Nat.reduceMul, Nat.reduceLeDiff, Nat.zero_le, not_true_eq_false, not_false_eq_true, cat2_n, cat2_i, cat2_r, ws_0, ws_i, ws_r, ws_l, ws_d, aftr_n, aftr_s, bI_ok, bI_t, bI_f, up_s, up_n, n_bit, decide_true, decide_false, Bool.not_true, Bool.not_false, Bool.and_true, Bool.true_and, Bool.false_and, Bool.and_false, hz.at, c113 hlt hs hne h20 m1, l119 hg hm hlt (hz.lt (k := 33 + g.headD 0) (by omega)) hz m1 (A 6) 0 g 1 (by omega) hs (fun x _ => Nat.zero_le x) h2 (fun j _ => maskL_t) (by omega), sam_1]
  unfold formT at hQ
  by_cases e : g.all (fun p => A (33 + p) == A (33 + g.headD 0)) = true
  · rw [if_pos e] at hQ ⊢
    have key : ∀ c, c = fsign (A (33 + g.headD 0)) → X z 119 120 [some (.ref (ad b 566)), some (.int (nI lt)), some (.int (nI (A (33 + g.headD 0)))), some (.int (nI 1)), some (.int (nI (A 6)))] [.int (nI c), .ref (ad b 566)] (0, 0) (KAt KL b, I, RAt RL b q, L, sz, ex) Q := by
      rintro c rfl
      simp (disch := omega) only [u119_120, k_566, k_567, k_568, k_569, k_570, k_571, k_572, k_573, k_574, k_575, k_576, r_566_0, r_566_2, r_566_4, r_566_6, r_566_7, r_566_8, r_566_9, r_566_10, r_566_11, r_566_13, va_rf_s, n_cl, n_in_t, n_lt_t, n_lt_f, n_eq_t, n_eq_f, n_sub, nI_add, n_mul, ↓reduceIte, if_true, if_false, eq_self, true_or, or_true, and_self, and_true, true_and, Nat.reduceAdd, Nat.reduceMul, Nat.reduceLeDiff, Nat.zero_le, not_true_eq_false, not_false_eq_true, cat2_n, cat2_i, cat2_r, ws_0, ws_i, ws_r, ws_l, ws_d, aftr_n, aftr_s, bI_ok, bI_t, bI_f, up_s, up_n, n_bit, decide_true, decide_false, Bool.not_true, Bool.not_false, Bool.and_true, Bool.true_and, Bool.false_and, Bool.and_false]
      refine c116 ho (by omega) (fun I1 g1 g2 => ?_)
      by_cases e2 : 1 < g.length
      · rw [if_pos e2] at hQ
        simp (disch := omega) only [v119_123, v119_124, v119_127, v119_128, v119_129, v119_130, v119_133, v119_134, u119_136, v119_139, k_566, k_567, k_568, k_569, k_570, k_571, k_572, k_573, k_574, k_575, k_576, r_566_0, r_566_2, r_566_4, r_566_6, r_566_7, r_566_8, r_566_9, r_566_10, r_566_11, r_566_13, va_rf_s, n_cl, n_in_t, n_lt_t, n_lt_f, n_eq_t, n_eq_f, n_sub, nI_add, n_mul, ↓reduceIte, if_true, if_false, eq_self, true_or, or_true, and_self, and_true, true_and, Nat.reduceAdd, Nat.reduceMul, Nat.reduceLeDiff, Nat.zero_le, not_true_eq_false, not_false_eq_true, cat2_n, cat2_i, cat2_r, ws_0, ws_i, ws_r, ws_l, ws_d, aftr_n, aftr_s, bI_ok, bI_t, bI_f, up_s, up_n, n_bit, decide_true, decide_false, Bool.not_true, Bool.not_false, Bool.and_true, Bool.true_and, Bool.false_and, Bool.and_false, pTx_k g2 (by decide) m2]
        refine c116 g1 (by rw [List.length_append, List.length_singleton]; omega) (fun I2 g3 g4 => ?_)
        simp (disch := omega) only [v119_123, v119_124, v119_127, v119_128, v119_129, v119_130, v119_133, v119_134, u119_136, v119_139, k_566, k_567, k_568, k_569, k_570, k_571, k_572, k_573, k_574, k_575, k_576, r_566_0, r_566_2, r_566_4, r_566_6, r_566_7, r_566_8, r_566_9, r_566_10, r_566_11, r_566_13, va_rf_s, n_cl, n_in_t, n_lt_t, n_lt_f, n_eq_t, n_eq_f, n_sub, nI_add, n_mul, ↓reduceIte, if_true, if_false, eq_self, true_or, or_true, and_self, and_true, true_and, Nat.reduceAdd, Nat.reduceMul, Nat.reduceLeDiff, Nat.zero_le, not_true_eq_false, not_false_eq_true, cat2_n, cat2_i, cat2_r, ws_0, ws_i, ws_r, ws_l, ws_d, aftr_n, aftr_s, bI_ok, bI_t, bI_f, up_s, up_n, n_bit, decide_true, decide_false, Bool.not_true, Bool.not_false, Bool.and_true, Bool.true_and, Bool.false_and, Bool.and_false]
        exact hQ I2 (by rwa [List.append_assoc] at g3) (g2.tr g4)
      · rw [if_neg e2] at hQ
        simp (disch := omega) only [v119_123, v119_124, v119_127, v119_128, v119_129, v119_130, v119_133, v119_134, u119_136, v119_139, k_566, k_567, k_568, k_569, k_570, k_571, k_572, k_573, k_574, k_575, k_576, r_566_0, r_566_2, r_566_4, r_566_6, r_566_7, r_566_8, r_566_9, r_566_10, r_566_11, r_566_13, va_rf_s, n_cl, n_in_t, n_lt_t, n_lt_f, n_eq_t, n_eq_f, n_sub, nI_add, n_mul, ↓reduceIte, if_true, if_false, eq_self, true_or, or_true, and_self, and_true, true_and, Nat.reduceAdd, Nat.reduceMul, Nat.reduceLeDiff, Nat.zero_le, not_true_eq_false, not_false_eq_true, cat2_n, cat2_i, cat2_r, ws_0, ws_i, ws_r, ws_l, ws_d, aftr_n, aftr_s, bI_ok, bI_t, bI_f, up_s, up_n, n_bit, decide_true, decide_false, Bool.not_true, Bool.not_false, Bool.and_true, Bool.true_and, Bool.false_and, Bool.and_false, pTx_k g2 (by decide) m2]
        exact hQ I1 g1 g2
    rcases (show A (33 + g.headD 0) = 0 ∨ A (33 + g.headD 0) = 1 ∨ A (33 + g.headD 0) = 2 by omega) with e3 | e3 | e3
    · simp (disch := omega) only [v119_75, v119_76, v119_79, v119_80, u119_82, v119_85, v119_86, u119_88, v119_91, v119_92, u119_94, v119_97, v119_98, v119_99, v119_100, v119_103, v119_105, v119_108, v119_109, v119_110, v119_113, v119_115, v119_118, k_566, k_567, k_568, k_569, k_570, k_571, k_572, k_573, k_574, k_575, k_576, r_566_0, r_566_2, r_566_4, r_566_6, r_566_7, r_566_8, r_566_9, r_566_10, r_566_11, r_566_13, va_rf_s, n_cl, n_in_t, n_lt_t, n_lt_f, n_eq_t, n_eq_f, n_sub, nI_add, n_mul, ↓reduceIte, if_true, if_false, eq_self, true_or, or_true, and_self, and_true, true_and, Nat.reduceAdd, Nat.reduceMul, Nat.reduceLeDiff, Nat.zero_le, not_true_eq_false, not_false_eq_true, cat2_n, cat2_i, cat2_r, ws_0, ws_i, ws_r, ws_l, ws_d, aftr_n, aftr_s, bI_ok, bI_t, bI_f, up_s, up_n, n_bit, decide_true, decide_false, Bool.not_true, Bool.not_false, Bool.and_true, Bool.true_and, Bool.false_and, Bool.and_false]
      exact key 102 (by rw [e3]; rfl)
    · simp (disch := omega) only [v119_75, v119_76, v119_79, v119_80, u119_82, v119_85, v119_86, u119_88, v119_91, v119_92, u119_94, v119_97, v119_98, v119_99, v119_100, v119_103, v119_105, v119_108, v119_109, v119_110, v119_113, v119_115, v119_118, k_566, k_567, k_568, k_569, k_570, k_571, k_572, k_573, k_574, k_575, k_576, r_566_0, r_566_2, r_566_4, r_566_6, r_566_7, r_566_8, r_566_9, r_566_10, r_566_11, r_566_13, va_rf_s, n_cl, n_in_t, n_lt_t, n_lt_f, n_eq_t, n_eq_f, n_sub, nI_add, n_mul, ↓reduceIte, if_true, if_false, eq_self, true_or, or_true, and_self, and_true, true_and, Nat.reduceAdd, Nat.reduceMul, Nat.reduceLeDiff, Nat.zero_le, not_true_eq_false, not_false_eq_true, cat2_n, cat2_i, cat2_r, ws_0, ws_i, ws_r, ws_l, ws_d, aftr_n, aftr_s, bI_ok, bI_t, bI_f, up_s, up_n, n_bit, decide_true, decide_false, Bool.not_true, Bool.not_false, Bool.and_true, Bool.true_and, Bool.false_and, Bool.and_false]
      exact key 109 (by rw [e3]; rfl)
    · simp (disch := omega) only [v119_75, v119_76, v119_79, v119_80, u119_82, v119_85, v119_86, u119_88, v119_91, v119_92, u119_94, v119_97, v119_98, v119_99, v119_100, v119_103, v119_105, v119_108, v119_109, v119_110, v119_113, v119_115, v119_118, k_566, k_567, k_568, k_569, k_570, k_571, k_572, k_573, k_574, k_575, k_576, r_566_0, r_566_2, r_566_4, r_566_6, r_566_7, r_566_8, r_566_9, r_566_10, r_566_11, r_566_13, va_rf_s, n_cl, n_in_t, n_lt_t, n_lt_f, n_eq_t, n_eq_f, n_sub, nI_add, n_mul, ↓reduceIte, if_true, if_false, eq_self, true_or, or_true, and_self, and_true, true_and, Nat.reduceAdd, Nat.reduceMul, Nat.reduceLeDiff, Nat.zero_le, not_true_eq_false, not_false_eq_true, cat2_n, cat2_i, cat2_r, ws_0, ws_i, ws_r, ws_l, ws_d, aftr_n, aftr_s, bI_ok, bI_t, bI_f, up_s, up_n, n_bit, decide_true, decide_false, Bool.not_true, Bool.not_false, Bool.and_true, Bool.true_and, Bool.false_and, Bool.and_false]
      exact key 120 (by rw [e3]; rfl)
  · rw [if_neg e] at hQ ⊢
    simp (disch := omega) only [v119_75, v119_76, v119_79, v119_80, u119_82, v119_85, v119_86, u119_88, v119_91, v119_92, u119_94, v119_97, k_566, k_567, k_568, k_569, k_570, k_571, k_572, k_573, k_574, k_575, k_576, r_566_0, r_566_2, r_566_4, r_566_6, r_566_7, r_566_8, r_566_9, r_566_10, r_566_11, r_566_13, va_rf_s, n_cl, n_in_t, n_lt_t, n_lt_f, n_eq_t, n_eq_f, n_sub, nI_add, n_mul, ↓reduceIte, if_true, if_false, eq_self, true_or, or_true, and_self, and_true, true_and, Nat.reduceAdd, Nat.reduceMul, Nat.reduceLeDiff, Nat.zero_le, not_true_eq_false, not_false_eq_true, cat2_n, cat2_i, cat2_r, ws_0, ws_i, ws_r, ws_l, ws_d, aftr_n, aftr_s, bI_ok, bI_t, bI_f, up_s, up_n, n_bit, decide_true, decide_false, Bool.not_true, Bool.not_false, Bool.and_true, Bool.true_and, Bool.false_and, Bool.and_false]
    refine c116 ho (by omega) (fun I1 g1 g2 => ?_)
    simp (disch := omega) only [v119_75, v119_76, v119_79, v119_80, u119_82, v119_85, v119_86, u119_88, v119_91, v119_92, u119_94, v119_97, k_566, k_567, k_568, k_569, k_570, k_571, k_572, k_573, k_574, k_575, k_576, r_566_0, r_566_2, r_566_4, r_566_6, r_566_7, r_566_8, r_566_9, r_566_10, r_566_11, r_566_13, va_rf_s, n_cl, n_in_t, n_lt_t, n_lt_f, n_eq_t, n_eq_f, n_sub, nI_add, n_mul, ↓reduceIte, if_true, if_false, eq_self, true_or, or_true, and_self, and_true, true_and, Nat.reduceAdd, Nat.reduceMul, Nat.reduceLeDiff, Nat.zero_le, not_true_eq_false, not_false_eq_true, cat2_n, cat2_i, cat2_r, ws_0, ws_i, ws_r, ws_l, ws_d, aftr_n, aftr_s, bI_ok, bI_t, bI_f, up_s, up_n, n_bit, decide_true, decide_false, Bool.not_true, Bool.not_false, Bool.and_true, Bool.true_and, Bool.false_and, Bool.and_false]
    refine c116 g1 (by rw [List.length_append, List.length_singleton]; omega) (fun I2 g3 g4 => ?_)
    simp (disch := omega) only [v119_75, v119_76, v119_79, v119_80, u119_82, v119_85, v119_86, u119_88, v119_91, v119_92, u119_94, v119_97, k_566, k_567, k_568, k_569, k_570, k_571, k_572, k_573, k_574, k_575, k_576, r_566_0, r_566_2, r_566_4, r_566_6, r_566_7, r_566_8, r_566_9, r_566_10, r_566_11, r_566_13, va_rf_s, n_cl, n_in_t, n_lt_t, n_lt_f, n_eq_t, n_eq_f, n_sub, nI_add, n_mul, ↓reduceIte, if_true, if_false, eq_self, true_or, or_true, and_self, and_true, true_and, Nat.reduceAdd, Nat.reduceMul, Nat.reduceLeDiff, Nat.zero_le, not_true_eq_false, not_false_eq_true, cat2_n, cat2_i, cat2_r, ws_0, ws_i, ws_r, ws_l, ws_d, aftr_n, aftr_s, bI_ok, bI_t, bI_f, up_s, up_n, n_bit, decide_true, decide_false, Bool.not_true, Bool.not_false, Bool.and_true, Bool.true_and, Bool.false_and, Bool.and_false]
    refine c116 g3 (by simp only [List.length_append, List.length_singleton]; omega) (fun I3 g5 g6 => ?_)
    simp (disch := omega) only [v119_75, v119_76, v119_79, v119_80, u119_82, v119_85, v119_86, u119_88, v119_91, v119_92, u119_94, v119_97, k_566, k_567, k_568, k_569, k_570, k_571, k_572, k_573, k_574, k_575, k_576, r_566_0, r_566_2, r_566_4, r_566_6, r_566_7, r_566_8, r_566_9, r_566_10, r_566_11, r_566_13, va_rf_s, n_cl, n_in_t, n_lt_t, n_lt_f, n_eq_t, n_eq_f, n_sub, nI_add, n_mul, ↓reduceIte, if_true, if_false, eq_self, true_or, or_true, and_self, and_true, true_and, Nat.reduceAdd, Nat.reduceMul, Nat.reduceLeDiff, Nat.zero_le, not_true_eq_false, not_false_eq_true, cat2_n, cat2_i, cat2_r, ws_0, ws_i, ws_r, ws_l, ws_d, aftr_n, aftr_s, bI_ok, bI_t, bI_f, up_s, up_n, n_bit, decide_true, decide_false, Bool.not_true, Bool.not_false, Bool.and_true, Bool.true_and, Bool.false_and, Bool.and_false]
    exact hQ I3 (by simpa [List.append_assoc] using g5) ((g2.tr g4).tr g6)
end RT
