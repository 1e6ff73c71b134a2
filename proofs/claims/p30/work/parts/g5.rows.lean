/-! THE LAW: names or words of some persons, with signs between them -/
section LD
variable {z : P0} {KL : Nat → Nat × Nat} {RL : Nat → Nat → Option Nat} {q : Nat → Nat} {b : Nat} {I : Nat → Nat → Int32} {L : Nat → Nat → Int64} {sz : Nat} {ex : Bool} {Q : Res → Mem → Prop} {A : Row}
variable {t W H n : Nat} {T : List Nat}
/-- how many persons: names -/
theorem l209n {m : Nat} (hm : m < 2147483648) {x9 x10 : Option Value} : ∀ d p c, p + d = 20 → X z 209 9 [some (.ref (ad b t)), some (.int (nI 0)), some (.int (nI m)), some (.ref (ad b 569)), some (.ref (ad b 573)), some (.ref (ad b 574)), some (.int (nI c)), some (.int (nI 0)), some (.int (nI p)), x9, x10] [] (0, 0) (KAt KL b, I, RAt RL b q, L, sz, ex) Q = X z 209 67 [some (.ref (ad b t)), some (.int (nI 0)), some (.int (nI m)), some (.ref (ad b 569)), some (.ref (ad b 573)), some (.ref (ad b 574)), some (.int (nI (c + popN m p d))), some (.int (nI 0)), some (.int (nI 20)), x9, x10] [] (0, 0) (KAt KL b, I, RAt RL b q, L, sz, ex) Q := by
  intro d
  induction d with
  | zero =>
    intro p c h
    obtain rfl : p = 20 := by omega
    rw [v209_9]
    simp (disch := omega) only [v209_11, v209_13, v209_16, v209_17, v209_19, v209_20, v209_21, v209_22, v209_23, v209_26, v209_27, v209_30, v209_32, v209_33, v209_35, v209_36, v209_37, v209_38, v209_39, v209_42, v209_43, v209_44, v209_47, v209_49, v209_50, v209_51, v209_53, v209_54, v209_55, v209_56, v209_58, v209_61, v209_64, Nat.add_zero, n_cl, n_in_t, n_lt_t, n_lt_f, n_eq_t, n_eq_f, n_sub, nI_add, n_mul, n_01, ↓reduceIte, if_true, if_false, eq_self, true_or, or_true, and_self, and_true, true_and, Nat.reduceAdd, Nat.reduceMul, Nat.reduceLeDiff, Nat.zero_le, not_true_eq_false, not_false_eq_true, cat2_n, cat2_i, cat2_r, ws_0, ws_i, ws_r, ws_l, ws_d, aftr_n, aftr_s, bI_ok, bI_t, bI_f, up_s, up_n, n_bit, decide_true, decide_false, Bool.not_true, Bool.not_false, Bool.and_true, Bool.true_and, Bool.false_and, Bool.and_false, n_nlt0, n_neg_t, n_neg_f, k_0, k_566, k_567, k_568, k_569, k_570, k_571, k_572, k_573, k_574, k_575, k_576]
    rfl
  | succ d ih =>
    intro p c h
    have u : popN m p (d + 1) = (if m.testBit p = true then 1 else 0) + popN m (p + 1) d := rfl
    rw [v209_9, u]
    cases hb : m.testBit p with
    | true =>
      simp (disch := omega) only [v209_11, v209_13, v209_16, v209_17, v209_19, v209_20, v209_21, v209_22, v209_23, v209_26, v209_27, v209_30, v209_32, v209_33, v209_35, v209_36, v209_37, v209_38, v209_39, v209_42, v209_43, v209_44, v209_47, v209_49, v209_50, v209_51, v209_53, v209_54, v209_55, v209_56, v209_58, v209_61, v209_64, Nat.add_zero, n_cl, n_in_t, n_lt_t, n_lt_f, n_eq_t, n_eq_f, n_sub, nI_add, n_mul, n_01, ↓reduceIte, if_true, if_false, eq_self, true_or, or_true, and_self, and_true, true_and, Nat.reduceAdd, Nat.reduceMul, Nat.reduceLeDiff, Nat.zero_le, not_true_eq_false, not_false_eq_true, cat2_n, cat2_i, cat2_r, ws_0, ws_i, ws_r, ws_l, ws_d, aftr_n, aftr_s, bI_ok, bI_t, bI_f, up_s, up_n, n_bit, decide_true, decide_false, Bool.not_true, Bool.not_false, Bool.and_true, Bool.true_and, Bool.false_and, Bool.and_false, n_nlt0, n_neg_t, n_neg_f, k_0, k_566, k_567, k_568, k_569, k_570, k_571, k_572, k_573, k_574, k_575, k_576, hb, ih (p + 1), Nat.add_assoc]
    | false =>
      simp (disch := omega) only [v209_11, v209_13, v209_16, v209_17, v209_19, v209_20, v209_21, v209_22, v209_23, v209_26, v209_27, v209_30, v209_32, v209_33, v209_35, v209_36, v209_37, v209_38, v209_39, v209_42, v209_43, v209_44, v209_47, v209_49, v209_50, v209_51, v209_53, v209_54, v209_55, v209_56, v209_58, v209_61, v209_64, Nat.add_zero, n_cl, n_in_t, n_lt_t, n_lt_f, n_eq_t, n_eq_f, n_sub, nI_add, n_mul, n_01, ↓reduceIte, if_true, if_false, eq_self, true_or, or_true, and_self, and_true, true_and, Nat.reduceAdd, Nat.reduceMul, Nat.reduceLeDiff, Nat.zero_le, not_true_eq_false, not_false_eq_true, cat2_n, cat2_i, cat2_r, ws_0, ws_i, ws_r, ws_l, ws_d, aftr_n, aftr_s, bI_ok, bI_t, bI_f, up_s, up_n, n_bit, decide_true, decide_false, Bool.not_true, Bool.not_false, Bool.and_true, Bool.true_and, Bool.false_and, Bool.and_false, n_nlt0, n_neg_t, n_neg_f, k_0, k_566, k_567, k_568, k_569, k_570, k_571, k_572, k_573, k_574, k_575, k_576, hb, ih (p + 1), Bool.false_eq_true, Nat.zero_add]
/-- a sign between two -/
theorem l209s {kind m told n : Nat} {x7 x9 x10 : Option Value} (hk : KAt KL b (ad b t) = (20, 10)) (hW : 1 ≤ W ∧ W ≤ 40) (hH : 1 ≤ H ∧ H ≤ 20) (ho : OS b I t W H T) (hl : T.length < 1690) (ht : told < n) (hn : n ≤ 20) (hQ : ∀ I', OS b I' t W H (T ++ sepL told n) → Ag (pS t) b I I' → X z 209 150 [some (.ref (ad b t)), some (.int (nI kind)), some (.int (nI m)), some (.ref (ad b 569)), some (.ref (ad b 573)), some (.ref (ad b 574)), some (.int (nI n)), x7, some (.int (nI told)), x9, x10] [] (0, 0) (KAt KL b, I', RAt RL b q, L, sz, ex) Q) :
    X z 209 125 [some (.ref (ad b t)), some (.int (nI kind)), some (.int (nI m)), some (.ref (ad b 569)), some (.ref (ad b 573)), some (.ref (ad b 574)), some (.int (nI n)), x7, some (.int (nI told)), x9, x10] [] (0, 0) (KAt KL b, I, RAt RL b q, L, sz, ex) Q := by
  unfold sepL at hQ
  by_cases e0 : told = 0
  · subst e0
    rw [if_pos rfl] at hQ
    simp (disch := omega) only [v209_125, v209_127, v209_130, v209_131, v209_133, v209_134, v209_135, v209_137, v209_140, v209_142, v209_145, u209_147, Nat.add_zero, n_cl, n_in_t, n_lt_t, n_lt_f, n_eq_t, n_eq_f, n_sub, nI_add, n_mul, n_01, ↓reduceIte, if_true, if_false, eq_self, true_or, or_true, and_self, and_true, true_and, Nat.reduceAdd, Nat.reduceMul, Nat.reduceLeDiff, Nat.zero_le, not_true_eq_false, not_false_eq_true, cat2_n, cat2_i, cat2_r, ws_0, ws_i, ws_r, ws_l, ws_d, aftr_n, aftr_s, bI_ok, bI_t, bI_f, up_s, up_n, n_bit, decide_true, decide_false, Bool.not_true, Bool.not_false, Bool.and_true, Bool.true_and, Bool.false_and, Bool.and_false, n_nlt0, n_neg_t, n_neg_f, k_0, k_566, k_567, k_568, k_569, k_570, k_571, k_572, k_573, k_574, k_575, k_576]
    exact hQ I (by rwa [List.append_nil]) Ag.rf
  · rw [if_neg e0] at hQ
    by_cases e1 : told + 1 = n
    · rw [if_pos e1] at hQ
      simp (disch := omega) only [v209_125, v209_127, v209_130, v209_131, v209_133, v209_134, v209_135, v209_137, v209_140, v209_142, v209_145, u209_147, Nat.add_zero, n_cl, n_in_t, n_lt_t, n_lt_f, n_eq_t, n_eq_f, n_sub, nI_add, n_mul, n_01, ↓reduceIte, if_true, if_false, eq_self, true_or, or_true, and_self, and_true, true_and, Nat.reduceAdd, Nat.reduceMul, Nat.reduceLeDiff, Nat.zero_le, not_true_eq_false, not_false_eq_true, cat2_n, cat2_i, cat2_r, ws_0, ws_i, ws_r, ws_l, ws_d, aftr_n, aftr_s, bI_ok, bI_t, bI_f, up_s, up_n, n_bit, decide_true, decide_false, Bool.not_true, Bool.not_false, Bool.and_true, Bool.true_and, Bool.false_and, Bool.and_false, n_nlt0, n_neg_t, n_neg_f, k_0, k_566, k_567, k_568, k_569, k_570, k_571, k_572, k_573, k_574, k_575, k_576]
      refine c202 hk hW hH ho (by omega) (by omega) (fun I1 g1 g2 => ?_)
      simp (disch := omega) only [v209_125, v209_127, v209_130, v209_131, v209_133, v209_134, v209_135, v209_137, v209_140, v209_142, v209_145, u209_147, Nat.add_zero, n_cl, n_in_t, n_lt_t, n_lt_f, n_eq_t, n_eq_f, n_sub, nI_add, n_mul, n_01, ↓reduceIte, if_true, if_false, eq_self, true_or, or_true, and_self, and_true, true_and, Nat.reduceAdd, Nat.reduceMul, Nat.reduceLeDiff, Nat.zero_le, not_true_eq_false, not_false_eq_true, cat2_n, cat2_i, cat2_r, ws_0, ws_i, ws_r, ws_l, ws_d, aftr_n, aftr_s, bI_ok, bI_t, bI_f, up_s, up_n, n_bit, decide_true, decide_false, Bool.not_true, Bool.not_false, Bool.and_true, Bool.true_and, Bool.false_and, Bool.and_false, n_nlt0, n_neg_t, n_neg_f, k_0, k_566, k_567, k_568, k_569, k_570, k_571, k_572, k_573, k_574, k_575, k_576]
      exact hQ I1 g1 g2
    · rw [if_neg e1] at hQ
      simp (disch := omega) only [v209_125, v209_127, v209_130, v209_131, v209_133, v209_134, v209_135, v209_137, v209_140, v209_142, v209_145, u209_147, Nat.add_zero, n_cl, n_in_t, n_lt_t, n_lt_f, n_eq_t, n_eq_f, n_sub, nI_add, n_mul, n_01, ↓reduceIte, if_true, if_false, eq_self, true_or, or_true, and_self, and_true, true_and, Nat.reduceAdd, Nat.reduceMul, Nat.reduceLeDiff, Nat.zero_le, not_true_eq_false, not_false_eq_true, cat2_n, cat2_i, cat2_r, ws_0, ws_i, ws_r, ws_l, ws_d, aftr_n, aftr_s, bI_ok, bI_t, bI_f, up_s, up_n, n_bit, decide_true, decide_false, Bool.not_true, Bool.not_false, Bool.and_true, Bool.true_and, Bool.false_and, Bool.and_false, n_nlt0, n_neg_t, n_neg_f, k_0, k_566, k_567, k_568, k_569, k_570, k_571, k_572, k_573, k_574, k_575, k_576]
      refine c202 hk hW hH ho (by omega) (by omega) (fun I1 g1 g2 => ?_)
      simp (disch := omega) only [v209_125, v209_127, v209_130, v209_131, v209_133, v209_134, v209_135, v209_137, v209_140, v209_142, v209_145, u209_147, Nat.add_zero, n_cl, n_in_t, n_lt_t, n_lt_f, n_eq_t, n_eq_f, n_sub, nI_add, n_mul, n_01, ↓reduceIte, if_true, if_false, eq_self, true_or, or_true, and_self, and_true, true_and, Nat.reduceAdd, Nat.reduceMul, Nat.reduceLeDiff, Nat.zero_le, not_true_eq_false, not_false_eq_true, cat2_n, cat2_i, cat2_r, ws_0, ws_i, ws_r, ws_l, ws_d, aftr_n, aftr_s, bI_ok, bI_t, bI_f, up_s, up_n, n_bit, decide_true, decide_false, Bool.not_true, Bool.not_false, Bool.and_true, Bool.true_and, Bool.false_and, Bool.and_false, n_nlt0, n_neg_t, n_neg_f, k_0, k_566, k_567, k_568, k_569, k_570, k_571, k_572, k_573, k_574, k_575, k_576]
      exact hQ I1 g1 g2
/-- the letters of a name -/
theorem l209l {p s m told n : Nat} {x7 : Option Value} (hk : KAt KL b (ad b t) = (20, 10)) (hW : 1 ≤ W ∧ W ≤ 40) (hH : 1 ≤ H ∧ H ≤ 20) (hp : p < 20) (hs : s ≤ 8) (ht : 577 ≤ t) : ∀ d i I T, i + d = s → I (ad b 573) p = nI s → OS b I t W H T → T.length + d ≤ 1690 → (∀ I', OS b I' t W H (T ++ segF (fun k => letN 0 p s k) i d) → Ag (pS t) b I I' → X z 209 207 [some (.ref (ad b t)), some (.int (nI 0)), some (.int (nI m)), some (.ref (ad b 569)), some (.ref (ad b 573)), some (.ref (ad b 574)), some (.int (nI n)), x7, some (.int (nI told)), some (.int (nI p)), some (.int (nI s))] [] (0, 0) (KAt KL b, I', RAt RL b q, L, sz, ex) Q) →
    X z 209 174 [some (.ref (ad b t)), some (.int (nI 0)), some (.int (nI m)), some (.ref (ad b 569)), some (.ref (ad b 573)), some (.ref (ad b 574)), some (.int (nI n)), x7, some (.int (nI told)), some (.int (nI p)), some (.int (nI i))] [] (0, 0) (KAt KL b, I, RAt RL b q, L, sz, ex) Q := by
  intro d
  induction d with
  | zero =>
    intro i I T h m0 ho hl hQ
    obtain rfl : i = s := by omega
    rw [v209_174]
    simp (disch := omega) only [v209_176, v209_178, v209_180, v209_181, v209_184, v209_185, v209_186, v209_188, v209_190, v209_192, v209_193, u209_195, u209_198, v209_201, v209_204, Nat.add_zero, n_cl, n_in_t, n_lt_t, n_lt_f, n_eq_t, n_eq_f, n_sub, nI_add, n_mul, n_01, ↓reduceIte, if_true, if_false, eq_self, true_or, or_true, and_self, and_true, true_and, Nat.reduceAdd, Nat.reduceMul, Nat.reduceLeDiff, Nat.zero_le, not_true_eq_false, not_false_eq_true, cat2_n, cat2_i, cat2_r, ws_0, ws_i, ws_r, ws_l, ws_d, aftr_n, aftr_s, bI_ok, bI_t, bI_f, up_s, up_n, n_bit, decide_true, decide_false, Bool.not_true, Bool.not_false, Bool.and_true, Bool.true_and, Bool.false_and, Bool.and_false, n_nlt0, n_neg_t, n_neg_f, k_0, k_566, k_567, k_568, k_569, k_570, k_571, k_572, k_573, k_574, k_575, k_576, m0]
    exact hQ I (by unfold segF; rwa [List.append_nil]) Ag.rf
  | succ d ih =>
    intro i I T h m0 ho hl hQ
    have lb := letN_b (kind := 0) (p := p) (s := s) (k := i)
    rw [v209_174]
    simp (disch := omega) only [v209_176, v209_178, v209_180, v209_181, v209_184, v209_185, v209_186, v209_188, v209_190, v209_192, v209_193, u209_195, u209_198, v209_201, v209_204, Nat.add_zero, n_cl, n_in_t, n_lt_t, n_lt_f, n_eq_t, n_eq_f, n_sub, nI_add, n_mul, n_01, ↓reduceIte, if_true, if_false, eq_self, true_or, or_true, and_self, and_true, true_and, Nat.reduceAdd, Nat.reduceMul, Nat.reduceLeDiff, Nat.zero_le, not_true_eq_false, not_false_eq_true, cat2_n, cat2_i, cat2_r, ws_0, ws_i, ws_r, ws_l, ws_d, aftr_n, aftr_s, bI_ok, bI_t, bI_f, up_s, up_n, n_bit, decide_true, decide_false, Bool.not_true, Bool.not_false, Bool.and_true, Bool.true_and, Bool.false_and, Bool.and_false, n_nlt0, n_neg_t, n_neg_f, k_0, k_566, k_567, k_568, k_569, k_570, k_571, k_572, k_573, k_574, k_575, k_576, m0, c194]
    refine c202 hk hW hH ho (by omega) (by omega) (fun I1 g1 g2 => ?_)
    simp (disch := omega) only [v209_176, v209_178, v209_180, v209_181, v209_184, v209_185, v209_186, v209_188, v209_190, v209_192, v209_193, u209_195, u209_198, v209_201, v209_204, Nat.add_zero, n_cl, n_in_t, n_lt_t, n_lt_f, n_eq_t, n_eq_f, n_sub, nI_add, n_mul, n_01, ↓reduceIte, if_true, if_false, eq_self, true_or, or_true, and_self, and_true, true_and, Nat.reduceAdd, Nat.reduceMul, Nat.reduceLeDiff, Nat.zero_le, not_true_eq_false, not_false_eq_true, cat2_n, cat2_i, cat2_r, ws_0, ws_i, ws_r, ws_l, ws_d, aftr_n, aftr_s, bI_ok, bI_t, bI_f, up_s, up_n, n_bit, decide_true, decide_false, Bool.not_true, Bool.not_false, Bool.and_true, Bool.true_and, Bool.false_and, Bool.and_false, n_nlt0, n_neg_t, n_neg_f, k_0, k_566, k_567, k_568, k_569, k_570, k_571, k_572, k_573, k_574, k_575, k_576]
    refine ih (i + 1) I1 _ (by omega) ((g2.at (pS_s (by omega) ht _)).trans m0) g1 (by rw [List.length_append, List.length_singleton]; omega) (fun I2 g3 g4 => hQ I2 ?_ (g2.tr g4))
    unfold segF
    rwa [List.append_assoc] at g3
set_option maxHeartbeats 4000000 in
/-- the names -/
theorem l209a {n m : Nat} (hg : Good A) (hlt : LwT A) (hk : KAt KL b (ad b t) = (20, 10)) (hW : 1 ≤ W ∧ W ≤ 40) (hH : 1 ≤ H ∧ H ≤ 20) (ht : 577 ≤ t) (hn : n ≤ 6) (hm : m < 2147483648) : ∀ d p (rest : List Nat) told I T (x10 : Option Value), p + d = 20 → rest.Pairwise (· < ·) → (∀ x ∈ rest, p ≤ x) → (∀ x ∈ rest, x < A 6) → (∀ j, p ≤ j → m.testBit j = decide (j ∈ rest)) → told + rest.length = n → (∀ p, p < A 6 → I (ad b 573) p = nI (A (133 + p))) → OS b I t W H T →
    T.length + (seqL n told (rest.map (nameL A))).length ≤ 1680 → (∀ I', OS b I' t W H (T ++ seqL n told (rest.map (nameL A))) → Ag (pS t) b I I' → Q (.inl none) (KAt KL b, I', RAt RL b q, L, sz, ex)) →
    X z 209 73 [some (.ref (ad b t)), some (.int (nI 0)), some (.int (nI m)), some (.ref (ad b 569)), some (.ref (ad b 573)), some (.ref (ad b 574)), some (.int (nI n)), some (.int (nI 0)), some (.int (nI told)), some (.int (nI p)), x10] [] (0, 0) (KAt KL b, I, RAt RL b q, L, sz, ex) Q := by
  intro d
  have h6 := hg.1.1
  induction d with
  | zero =>
    intro p rest told I T x10 h hs h1 h2 hb hto m0 ho hl hQ
    have : rest = [] := by
      cases rest with
      | nil => rfl
      | cons x r => have := h1 x List.mem_cons_self; have := h2 x List.mem_cons_self; omega
    subst this
    obtain rfl : p = 20 := by omega
    rw [v209_73]
    simp (disch := omega) only [v209_75, v209_77, v209_80, v209_81, v209_83, v209_84, v209_85, v209_86, v209_213, Nat.add_zero, n_cl, n_in_t, n_lt_t, n_lt_f, n_eq_t, n_eq_f, n_sub, nI_add, n_mul, n_01, ↓reduceIte, if_true, if_false, eq_self, true_or, or_true, and_self, and_true, true_and, Nat.reduceAdd, Nat.reduceMul, Nat.reduceLeDiff, Nat.zero_le, not_true_eq_false, not_false_eq_true, cat2_n, cat2_i, cat2_r, ws_0, ws_i, ws_r, ws_l, ws_d, aftr_n, aftr_s, bI_ok, bI_t, bI_f, up_s, up_n, n_bit, decide_true, decide_false, Bool.not_true, Bool.not_false, Bool.and_true, Bool.true_and, Bool.false_and, Bool.and_false, n_nlt0, n_neg_t, n_neg_f, k_0, k_566, k_567, k_568, k_569, k_570, k_571, k_572, k_573, k_574, k_575, k_576]
    exact hQ I (by rw [List.map_nil]; unfold seqL; rwa [List.append_nil]) Ag.rf
  | succ d ih =>
    intro p rest told I T x10 h hs h1 h2 hb hto m0 ho hl hQ
    rw [v209_73]
    rcases sorted_cases hs h1 with ⟨r, rfl, hr⟩ | ⟨hn1, hr⟩
    · have hbp : m.testBit p = true := by rw [hb p (Nat.le_refl _)]; exact decide_eq_true List.mem_cons_self
      have hp := h2 p List.mem_cons_self
      obtain ⟨-, -, -, -, -, q1, q2, -⟩ := hg.2.2.1 p (by omega)
      rw [List.map_cons, seqL_c, List.length_append, List.length_append, nameL_len] at hl
      rw [List.map_cons, seqL_c, nameL_let hlt hp] at hQ
      rw [List.length_cons] at hto
      simp (disch := omega) only [v209_75, v209_77, v209_80, v209_81, v209_83, v209_84, v209_85, v209_86, v209_87, v209_90, v209_91, v209_94, v209_96, v209_97, v209_99, v209_100, v209_101, v209_102, v209_103, v209_104, v209_107, v209_108, v209_109, v209_112, v209_114, v209_115, v209_116, v209_118, v209_119, v209_120, v209_121, v209_122, Nat.add_zero, n_cl, n_in_t, n_lt_t, n_lt_f, n_eq_t, n_eq_f, n_sub, nI_add, n_mul, n_01, ↓reduceIte, if_true, if_false, eq_self, true_or, or_true, and_self, and_true, true_and, Nat.reduceAdd, Nat.reduceMul, Nat.reduceLeDiff, Nat.zero_le, not_true_eq_false, not_false_eq_true, cat2_n, cat2_i, cat2_r, ws_0, ws_i, ws_r, ws_l, ws_d, aftr_n, aftr_s, bI_ok, bI_t, bI_f, up_s, up_n, n_bit, decide_true, decide_false, Bool.not_true, Bool.not_false, Bool.and_true, Bool.true_and, Bool.false_and, Bool.and_false, n_nlt0, n_neg_t, n_neg_f, k_0, k_566, k_567, k_568, k_569, k_570, k_571, k_572, k_573, k_574, k_575, k_576, hbp]
      refine l209s hk hW hH ho (by omega) (by omega) (by omega) (fun I1 g1 g2 => ?_)
      simp (disch := omega) only [v209_150, v209_153, v209_154, v209_155, v209_158, v209_159, v209_161, v209_162, v209_164, u209_165, v209_168, v209_171, v209_172, Nat.add_zero, n_cl, n_in_t, n_lt_t, n_lt_f, n_eq_t, n_eq_f, n_sub, nI_add, n_mul, n_01, ↓reduceIte, if_true, if_false, eq_self, true_or, or_true, and_self, and_true, true_and, Nat.reduceAdd, Nat.reduceMul, Nat.reduceLeDiff, Nat.zero_le, not_true_eq_false, not_false_eq_true, cat2_n, cat2_i, cat2_r, ws_0, ws_i, ws_r, ws_l, ws_d, aftr_n, aftr_s, bI_ok, bI_t, bI_f, up_s, up_n, n_bit, decide_true, decide_false, Bool.not_true, Bool.not_false, Bool.and_true, Bool.true_and, Bool.false_and, Bool.and_false, n_nlt0, n_neg_t, n_neg_f, k_0, k_566, k_567, k_568, k_569, k_570, k_571, k_572, k_573, k_574, k_575, k_576]
      have m1 : ∀ p, p < A 6 → I1 (ad b 573) p = nI (A (133 + p)) := fun p hp => (g2.at (pS_s (by omega) ht _)).trans (m0 p hp)
      refine l209l hk hW hH (by omega) q2 ht (A (133 + p)) 0 I1 _ (by omega) (m1 p hp) g1 (by rw [List.length_append]; omega) (fun I2 g3 g4 => ?_)
      simp (disch := omega) only [v209_207, v209_210, Nat.add_zero, n_cl, n_in_t, n_lt_t, n_lt_f, n_eq_t, n_eq_f, n_sub, nI_add, n_mul, n_01, ↓reduceIte, if_true, if_false, eq_self, true_or, or_true, and_self, and_true, true_and, Nat.reduceAdd, Nat.reduceMul, Nat.reduceLeDiff, Nat.zero_le, not_true_eq_false, not_false_eq_true, cat2_n, cat2_i, cat2_r, ws_0, ws_i, ws_r, ws_l, ws_d, aftr_n, aftr_s, bI_ok, bI_t, bI_f, up_s, up_n, n_bit, decide_true, decide_false, Bool.not_true, Bool.not_false, Bool.and_true, Bool.true_and, Bool.false_and, Bool.and_false, n_nlt0, n_neg_t, n_neg_f, k_0, k_566, k_567, k_568, k_569, k_570, k_571, k_572, k_573, k_574, k_575, k_576]
      rw [List.pairwise_cons] at hs
      have g5 := g2.tr g4
      refine ih (p + 1) r (told + 1) I2 _ _ (by omega) hs.2 hr (fun x hx => h2 x (List.mem_cons_of_mem _ hx)) (fun j hj => ?_) (by omega) (fun p hp => (g4.at (pS_s (by omega) ht _)).trans (m1 p hp)) g3 ?_ (fun I3 g6 g7 => hQ I3 ?_ (g5.tr g7))
      · rw [hb j (by omega)]
        have : ¬ j = p := by omega
        simp [this]
      · simp only [List.length_append, segF_len]
        omega
      · rwa [List.append_assoc, List.append_assoc] at g6
    · have hbp : m.testBit p = false := by rw [hb p (Nat.le_refl _)]; exact decide_eq_false hn1
      simp (disch := omega) only [v209_75, v209_77, v209_80, v209_81, v209_83, v209_84, v209_85, v209_86, v209_87, v209_207, v209_210, Nat.add_zero, n_cl, n_in_t, n_lt_t, n_lt_f, n_eq_t, n_eq_f, n_sub, nI_add, n_mul, n_01, ↓reduceIte, if_true, if_false, eq_self, true_or, or_true, and_self, and_true, true_and, Nat.reduceAdd, Nat.reduceMul, Nat.reduceLeDiff, Nat.zero_le, not_true_eq_false, not_false_eq_true, cat2_n, cat2_i, cat2_r, ws_0, ws_i, ws_r, ws_l, ws_d, aftr_n, aftr_s, bI_ok, bI_t, bI_f, up_s, up_n, n_bit, decide_true, decide_false, Bool.not_true, Bool.not_false, Bool.and_true, Bool.true_and, Bool.false_and, Bool.and_false, n_nlt0, n_neg_t, n_neg_f, k_0, k_566, k_567, k_568, k_569, k_570, k_571, k_572, k_573, k_574, k_575, k_576, hbp]
      exact ih (p + 1) rest told I T _ (by omega) hs hr h2 (fun j hj => hb j (by omega)) hto m0 ho hl hQ
theorem c209n {g : List Nat} (hg : Good A) (hlt : LwT A) (hk : KAt KL b (ad b t) = (20, 10)) (hW : 1 ≤ W ∧ W ≤ 40) (hH : 1 ≤ H ∧ H ≤ 20) (ht : 577 ≤ t) (hs : g.Pairwise (· < ·)) (h2 : ∀ x ∈ g, x < A 6) (hn : g.length ≤ 6) (hl : Lw b I A n) (ho : OS b I t W H T) (hT : T.length + (namesT A g).length ≤ 1680) (hQ : ∀ I', OS b I' t W H (T ++ namesT A g) → Ag (pS t) b I I' → Q (.inl none) (KAt KL b, I', RAt RL b q, L, sz, ex)) :
    X z 209 0 [some (.ref (ad b t)), some (.int (nI 0)), some (.int (nI (maskL g))), some (.ref (ad b 569)), some (.ref (ad b 573)), some (.ref (ad b 574)), none, none, none, none, none] [] (0, 0) (KAt KL b, I, RAt RL b q, L, sz, ex) Q := by
  have h6 := hg.1.1
  have h20 : ∀ x ∈ g, x < 20 := fun x hx => by have := h2 x hx; omega
  have hm : maskL g < 2147483648 := Nat.lt_of_lt_of_le (maskL_lt (n := 20) h20) (by decide)
  simp (disch := omega) only [v209_0, v209_1, v209_3, v209_4, v209_6, v209_7, Nat.add_zero, n_cl, n_in_t, n_lt_t, n_lt_f, n_eq_t, n_eq_f, n_sub, nI_add, n_mul, n_01, ↓reduceIte, if_true, if_false, eq_self, true_or, or_true, and_self, and_true, true_and, Nat.reduceAdd, Nat.reduceMul, Nat.reduceLeDiff, Nat.zero_le, not_true_eq_false, not_false_eq_true, cat2_n, cat2_i, cat2_r, ws_0, ws_i, ws_r, ws_l, ws_d, aftr_n, aftr_s, bI_ok, bI_t, bI_f, up_s, up_n, n_bit, decide_true, decide_false, Bool.not_true, Bool.not_false, Bool.and_true, Bool.true_and, Bool.false_and, Bool.and_false, n_nlt0, n_neg_t, n_neg_f, k_0, k_566, k_567, k_568, k_569, k_570, k_571, k_572, k_573, k_574, k_575, k_576, l209n hm 20 0 0, popN_mask hs h20, Nat.zero_add, v209_67, v209_68, v209_70, v209_71]
  exact l209a hg hlt hk hW hH ht hn hm 20 0 g 0 I T _ (by omega) hs (fun x _ => Nat.zero_le x) h2 (fun j _ => maskL_t) (by omega) (fun p hp => (hl.2.1 p hp).2.2.2.2.2.2) ho hT hQ
/-- which words there are, and how many -/
theorem l209w {m : Nat} (hg : Good A) (hm : m < 2147483648) (ha : ∀ p, p < A 6 → I (ad b 569) p = nI (A (53 + p))) {x9 x10 : Option Value} : ∀ d p (rest acc : List Nat) th, p + d = 20 → rest.Pairwise (· < ·) → (∀ x ∈ rest, p ≤ x) → (∀ x ∈ rest, x < A 6 ∧ A (53 + x) < A 7) → (∀ j, p ≤ j → m.testBit j = decide (j ∈ rest)) →
    th < 1024 → (∀ j, th.testBit j = decide (j ∈ acc)) → acc.length ≤ p → (∀ th', th' < 1024 → (∀ j, th'.testBit j = decide (j ∈ acc ++ nws A acc rest)) → X z 209 67 [some (.ref (ad b t)), some (.int (nI 1)), some (.int (nI m)), some (.ref (ad b 569)), some (.ref (ad b 573)), some (.ref (ad b 574)), some (.int (nI (acc ++ nws A acc rest).length)), some (.int (nI th')), some (.int (nI 20)), x9, x10] [] (0, 0) (KAt KL b, I, RAt RL b q, L, sz, ex) Q) →
    X z 209 9 [some (.ref (ad b t)), some (.int (nI 1)), some (.int (nI m)), some (.ref (ad b 569)), some (.ref (ad b 573)), some (.ref (ad b 574)), some (.int (nI acc.length)), some (.int (nI th)), some (.int (nI p)), x9, x10] [] (0, 0) (KAt KL b, I, RAt RL b q, L, sz, ex) Q := by
  intro d
  have h6 := hg.1.1
  have h7 := hg.1.2.1
  induction d with
  | zero =>
    intro p rest acc th h hs h1 h2 hb hth hT hac hQ
    have : rest = [] := by
      cases rest with
      | nil => rfl
      | cons x r => have := h1 x List.mem_cons_self; have := (h2 x List.mem_cons_self).1; omega
    subst this
    unfold nws at hQ
    rw [List.append_nil] at hQ
    obtain rfl : p = 20 := by omega
    rw [v209_9]
    simp (disch := omega) only [v209_11, v209_13, v209_16, v209_17, v209_19, v209_20, v209_21, v209_22, v209_23, v209_26, v209_27, v209_30, v209_32, v209_33, v209_35, v209_36, v209_37, v209_38, v209_39, v209_42, v209_43, v209_44, v209_47, v209_49, v209_50, v209_51, v209_53, v209_54, v209_55, v209_56, v209_58, v209_61, v209_64, Nat.add_zero, n_cl, n_in_t, n_lt_t, n_lt_f, n_eq_t, n_eq_f, n_sub, nI_add, n_mul, n_01, ↓reduceIte, if_true, if_false, eq_self, true_or, or_true, and_self, and_true, true_and, Nat.reduceAdd, Nat.reduceMul, Nat.reduceLeDiff, Nat.zero_le, not_true_eq_false, not_false_eq_true, cat2_n, cat2_i, cat2_r, ws_0, ws_i, ws_r, ws_l, ws_d, aftr_n, aftr_s, bI_ok, bI_t, bI_f, up_s, up_n, n_bit, decide_true, decide_false, Bool.not_true, Bool.not_false, Bool.and_true, Bool.true_and, Bool.false_and, Bool.and_false, n_nlt0, n_neg_t, n_neg_f, k_0, k_566, k_567, k_568, k_569, k_570, k_571, k_572, k_573, k_574, k_575, k_576]
    exact hQ th hth hT
  | succ d ih =>
    intro p rest acc th h hs h1 h2 hb hth hT hac hQ
    rw [v209_9]
    rcases sorted_cases hs h1 with ⟨r, rfl, hr⟩ | ⟨hn1, hr⟩
    · have hbp : m.testBit p = true := by rw [hb p (Nat.le_refl _)]; exact decide_eq_true List.mem_cons_self
      rw [List.pairwise_cons] at hs
      have hb' : ∀ j, p + 1 ≤ j → m.testBit j = decide (j ∈ r) := fun j hj => by
        rw [hb j (by omega)]
        have : ¬ j = p := by omega
        simp [this]
      have h2' := fun x hx => h2 x (List.mem_cons_of_mem p hx)
      have hw := (h2 p List.mem_cons_self)
      have m1 := ha p hw.1
      unfold nws at hQ
      by_cases e : A (53 + p) ∈ acc
      · rw [if_pos e] at hQ
        have hbt : th.testBit (A (53 + p)) = true := by rw [hT]; exact decide_eq_true e
        simp (disch := omega) only [v209_11, v209_13, v209_16, v209_17, v209_19, v209_20, v209_21, v209_22, v209_23, v209_26, v209_27, v209_30, v209_32, v209_33, v209_35, v209_36, v209_37, v209_38, v209_39, v209_42, v209_43, v209_44, v209_47, v209_49, v209_50, v209_51, v209_53, v209_54, v209_55, v209_56, v209_58, v209_61, v209_64, Nat.add_zero, n_cl, n_in_t, n_lt_t, n_lt_f, n_eq_t, n_eq_f, n_sub, nI_add, n_mul, n_01, ↓reduceIte, if_true, if_false, eq_self, true_or, or_true, and_self, and_true, true_and, Nat.reduceAdd, Nat.reduceMul, Nat.reduceLeDiff, Nat.zero_le, not_true_eq_false, not_false_eq_true, cat2_n, cat2_i, cat2_r, ws_0, ws_i, ws_r, ws_l, ws_d, aftr_n, aftr_s, bI_ok, bI_t, bI_f, up_s, up_n, n_bit, decide_true, decide_false, Bool.not_true, Bool.not_false, Bool.and_true, Bool.true_and, Bool.false_and, Bool.and_false, n_nlt0, n_neg_t, n_neg_f, k_0, k_566, k_567, k_568, k_569, k_570, k_571, k_572, k_573, k_574, k_575, k_576, m1, hbp, hbt]
        exact ih (p + 1) r acc th (by omega) hs.2 hr h2' hb' hth hT (by omega) hQ
      · rw [if_neg e] at hQ
        have hbt : th.testBit (A (53 + p)) = false := by rw [hT]; exact decide_eq_false e
        simp (disch := omega) only [v209_11, v209_13, v209_16, v209_17, v209_19, v209_20, v209_21, v209_22, v209_23, v209_26, v209_27, v209_30, v209_32, v209_33, v209_35, v209_36, v209_37, v209_38, v209_39, v209_42, v209_43, v209_44, v209_47, v209_49, v209_50, v209_51, v209_53, v209_54, v209_55, v209_56, v209_58, v209_61, v209_64, Nat.add_zero, n_cl, n_in_t, n_lt_t, n_lt_f, n_eq_t, n_eq_f, n_sub, nI_add, n_mul, n_01, ↓reduceIte, if_true, if_false, eq_self, true_or, or_true, and_self, and_true, true_and, Nat.reduceAdd, Nat.reduceMul, Nat.reduceLeDiff, Nat.zero_le, not_true_eq_false, not_false_eq_true, cat2_n, cat2_i, cat2_r, ws_0, ws_i, ws_r, ws_l, ws_d, aftr_n, aftr_s, bI_ok, bI_t, bI_f, up_s, up_n, n_bit, decide_true, decide_false, Bool.not_true, Bool.not_false, Bool.and_true, Bool.true_and, Bool.false_and, Bool.and_false, n_nlt0, n_neg_t, n_neg_f, k_0, k_566, k_567, k_568, k_569, k_570, k_571, k_572, k_573, k_574, k_575, k_576, m1, hbp, hbt, n_or, n_shl1]
        have hth' : th ||| 2 ^ A (53 + p) < 1024 := Nat.or_lt_two_pow (n := 10) hth (Nat.pow_lt_pow_right (by omega) (by omega))
        have e3 : acc ++ A (53 + p) :: nws A (acc ++ [A (53 + p)]) r = (acc ++ [A (53 + p)]) ++ nws A (acc ++ [A (53 + p)]) r := by rw [List.append_assoc]; rfl
        rw [e3] at hQ
        have := ih (p + 1) r (acc ++ [A (53 + p)]) (th ||| 2 ^ A (53 + p)) (by omega) hs.2 hr h2' hb' hth' (fun j => by
          rw [Nat.testBit_or, hT, Nat.testBit_two_pow]
          by_cases e4 : A (53 + p) = j
          · simp [e4]
          · have : ¬ j = A (53 + p) := fun x => e4 x.symm
            simp [e4, this]) (by rw [List.length_append, List.length_singleton]; omega) hQ
        rwa [List.length_append, List.length_singleton] at this
    · have hbp : m.testBit p = false := by rw [hb p (Nat.le_refl _)]; exact decide_eq_false hn1
      simp (disch := omega) only [v209_11, v209_13, v209_16, v209_17, v209_19, v209_20, v209_21, v209_22, v209_23, v209_26, v209_27, v209_30, v209_32, v209_33, v209_35, v209_36, v209_37, v209_38, v209_39, v209_42, v209_43, v209_44, v209_47, v209_49, v209_50, v209_51, v209_53, v209_54, v209_55, v209_56, v209_58, v209_61, v209_64, Nat.add_zero, n_cl, n_in_t, n_lt_t, n_lt_f, n_eq_t, n_eq_f, n_sub, nI_add, n_mul, n_01, ↓reduceIte, if_true, if_false, eq_self, true_or, or_true, and_self, and_true, true_and, Nat.reduceAdd, Nat.reduceMul, Nat.reduceLeDiff, Nat.zero_le, not_true_eq_false, not_false_eq_true, cat2_n, cat2_i, cat2_r, ws_0, ws_i, ws_r, ws_l, ws_d, aftr_n, aftr_s, bI_ok, bI_t, bI_f, up_s, up_n, n_bit, decide_true, decide_false, Bool.not_true, Bool.not_false, Bool.and_true, Bool.true_and, Bool.false_and, Bool.and_false, n_nlt0, n_neg_t, n_neg_f, k_0, k_566, k_567, k_568, k_569, k_570, k_571, k_572, k_573, k_574, k_575, k_576, hbp]
      exact ih (p + 1) rest acc th (by omega) hs hr h2 (fun j hj => hb j (by omega)) hth hT (by omega) hQ
set_option maxHeartbeats 4000000 in
/-- the words -/
theorem l209b {n m : Nat} (hg : Good A) (hlt : LwT A) (hk : KAt KL b (ad b t) = (20, 10)) (hW : 1 ≤ W ∧ W ≤ 40) (hH : 1 ≤ H ∧ H ≤ 20) (ht : 577 ≤ t) (hn : n ≤ 6) (hm : m < 2147483648) {x10 : Option Value} : ∀ d p (rest acc : List Nat) told th I T, p + d = 20 → rest.Pairwise (· < ·) → (∀ x ∈ rest, p ≤ x) → (∀ x ∈ rest, x < A 6 ∧ A (53 + x) < A 7) → (∀ j, p ≤ j → m.testBit j = decide (j ∈ rest)) →
    th < 1024 → (∀ j, th.testBit j = decide (j ∈ nws A acc rest)) → told + (nws A acc rest).length = n → (∀ p, p < A 6 → I (ad b 569) p = nI (A (53 + p))) → (∀ w, w < A 7 → I (ad b 574) w = nI (A (313 + w) + 16 * A (323 + w))) → OS b I t W H T → T.length + (seqL n told ((nws A acc rest).map (wordT A))).length ≤ 1680 →
    (∀ I', OS b I' t W H (T ++ seqL n told ((nws A acc rest).map (wordT A))) → Ag (pS t) b I I' → Q (.inl none) (KAt KL b, I', RAt RL b q, L, sz, ex)) →
    X z 209 73 [some (.ref (ad b t)), some (.int (nI 1)), some (.int (nI m)), some (.ref (ad b 569)), some (.ref (ad b 573)), some (.ref (ad b 574)), some (.int (nI n)), some (.int (nI th)), some (.int (nI told)), some (.int (nI p)), x10] [] (0, 0) (KAt KL b, I, RAt RL b q, L, sz, ex) Q := by
  intro d
  have h6 := hg.1.1
  have h7 := hg.1.2.1
  induction d with
  | zero =>
    intro p rest acc told th I T h hs h1 h2 hb hth hT hto ma mw ho hl hQ
    have : rest = [] := by
      cases rest with
      | nil => rfl
      | cons x r => have := h1 x List.mem_cons_self; have := (h2 x List.mem_cons_self).1; omega
    subst this
    obtain rfl : p = 20 := by omega
    rw [v209_73]
    simp (disch := omega) only [v209_75, v209_77, v209_80, v209_81, v209_83, v209_84, v209_85, v209_86, v209_213, Nat.add_zero, n_cl, n_in_t, n_lt_t, n_lt_f, n_eq_t, n_eq_f, n_sub, nI_add, n_mul, n_01, ↓reduceIte, if_true, if_false, eq_self, true_or, or_true, and_self, and_true, true_and, Nat.reduceAdd, Nat.reduceMul, Nat.reduceLeDiff, Nat.zero_le, not_true_eq_false, not_false_eq_true, cat2_n, cat2_i, cat2_r, ws_0, ws_i, ws_r, ws_l, ws_d, aftr_n, aftr_s, bI_ok, bI_t, bI_f, up_s, up_n, n_bit, decide_true, decide_false, Bool.not_true, Bool.not_false, Bool.and_true, Bool.true_and, Bool.false_and, Bool.and_false, n_nlt0, n_neg_t, n_neg_f, k_0, k_566, k_567, k_568, k_569, k_570, k_571, k_572, k_573, k_574, k_575, k_576]
    exact hQ I (by unfold nws; rw [List.map_nil]; unfold seqL; rwa [List.append_nil]) Ag.rf
  | succ d ih =>
    intro p rest acc told th I T h hs h1 h2 hb hth hT hto ma mw ho hl hQ
    rw [v209_73]
    rcases sorted_cases hs h1 with ⟨r, rfl, hr⟩ | ⟨hn1, hr⟩
    · have hbp : m.testBit p = true := by rw [hb p (Nat.le_refl _)]; exact decide_eq_true List.mem_cons_self
      rw [List.pairwise_cons] at hs
      have hb' : ∀ j, p + 1 ≤ j → m.testBit j = decide (j ∈ r) := fun j hj => by
        rw [hb j (by omega)]
        have : ¬ j = p := by omega
        simp [this]
      have h2' := fun x hx => h2 x (List.mem_cons_of_mem p hx)
      have hw := (h2 p List.mem_cons_self)
      have m1 := ma p hw.1
      by_cases e : A (53 + p) ∈ acc
      · have en : nws A acc (p :: r) = nws A acc r := by show (if _ then _ else _) = _; rw [if_pos e]
        rw [en] at hT hto hl hQ
        have hbt : th.testBit (A (53 + p)) = false := by rw [hT]; exact decide_eq_false (fun x => nws_not _ _ _ x e)
        simp (disch := omega) only [v209_75, v209_77, v209_80, v209_81, v209_83, v209_84, v209_85, v209_86, v209_87, v209_90, v209_91, v209_94, v209_96, v209_97, v209_99, v209_100, v209_101, v209_102, v209_103, v209_104, v209_107, v209_108, v209_109, v209_112, v209_114, v209_115, v209_116, v209_118, v209_119, v209_120, v209_121, v209_122, v209_207, v209_210, Nat.add_zero, n_cl, n_in_t, n_lt_t, n_lt_f, n_eq_t, n_eq_f, n_sub, nI_add, n_mul, n_01, ↓reduceIte, if_true, if_false, eq_self, true_or, or_true, and_self, and_true, true_and, Nat.reduceAdd, Nat.reduceMul, Nat.reduceLeDiff, Nat.zero_le, not_true_eq_false, not_false_eq_true, cat2_n, cat2_i, cat2_r, ws_0, ws_i, ws_r, ws_l, ws_d, aftr_n, aftr_s, bI_ok, bI_t, bI_f, up_s, up_n, n_bit, decide_true, decide_false, Bool.not_true, Bool.not_false, Bool.and_true, Bool.true_and, Bool.false_and, Bool.and_false, n_nlt0, n_neg_t, n_neg_f, k_0, k_566, k_567, k_568, k_569, k_570, k_571, k_572, k_573, k_574, k_575, k_576, m1, hbp, hbt]
        exact ih (p + 1) r acc told th I T (by omega) hs.2 hr h2' hb' hth hT hto ma mw ho hl hQ
      · have en : nws A acc (p :: r) = A (53 + p) :: nws A (acc ++ [A (53 + p)]) r := by show (if _ then _ else _) = _; rw [if_neg e]
        rw [en] at hT hto hl hQ
        rw [List.length_cons] at hto
        rw [List.map_cons, seqL_c] at hl hQ
        rw [List.length_append, List.length_append] at hl
        have wl := wordT_len (A := A) (w := A (53 + p))
        have hbt : th.testBit (A (53 + p)) = true := by rw [hT]; exact decide_eq_true List.mem_cons_self
        simp (disch := omega) only [v209_75, v209_77, v209_80, v209_81, v209_83, v209_84, v209_85, v209_86, v209_87, v209_90, v209_91, v209_94, v209_96, v209_97, v209_99, v209_100, v209_101, v209_102, v209_103, v209_104, v209_107, v209_108, v209_109, v209_112, v209_114, v209_115, v209_116, v209_118, v209_119, v209_120, v209_121, v209_122, v209_123, Nat.add_zero, n_cl, n_in_t, n_lt_t, n_lt_f, n_eq_t, n_eq_f, n_sub, nI_add, n_mul, n_01, ↓reduceIte, if_true, if_false, eq_self, true_or, or_true, and_self, and_true, true_and, Nat.reduceAdd, Nat.reduceMul, Nat.reduceLeDiff, Nat.zero_le, not_true_eq_false, not_false_eq_true, cat2_n, cat2_i, cat2_r, ws_0, ws_i, ws_r, ws_l, ws_d, aftr_n, aftr_s, bI_ok, bI_t, bI_f, up_s, up_n, n_bit, decide_true, decide_false, Bool.not_true, Bool.not_false, Bool.and_true, Bool.true_and, Bool.false_and, Bool.and_false, n_nlt0, n_neg_t, n_neg_f, k_0, k_566, k_567, k_568, k_569, k_570, k_571, k_572, k_573, k_574, k_575, k_576, m1, hbp, hbt, n_shl1, n_clr]
        refine l209s hk hW hH ho (by omega) (by omega) (by omega) (fun I1 g1 g2 => ?_)
        have ma1 : ∀ p, p < A 6 → I1 (ad b 569) p = nI (A (53 + p)) := fun p hp => (g2.at (pS_s (by omega) ht _)).trans (ma p hp)
        have mw1 : ∀ w, w < A 7 → I1 (ad b 574) w = nI (A (313 + w) + 16 * A (323 + w)) := fun w hw => (g2.at (pS_s (by omega) ht _)).trans (mw w hw)
        have m2 := ma1 p hw.1
        simp (disch := omega) only [v209_150, v209_153, v209_154, v209_155, v209_158, v209_159, v209_161, v209_162, v209_164, u209_165, v209_168, Nat.add_zero, n_cl, n_in_t, n_lt_t, n_lt_f, n_eq_t, n_eq_f, n_sub, nI_add, n_mul, n_01, ↓reduceIte, if_true, if_false, eq_self, true_or, or_true, and_self, and_true, true_and, Nat.reduceAdd, Nat.reduceMul, Nat.reduceLeDiff, Nat.zero_le, not_true_eq_false, not_false_eq_true, cat2_n, cat2_i, cat2_r, ws_0, ws_i, ws_r, ws_l, ws_d, aftr_n, aftr_s, bI_ok, bI_t, bI_f, up_s, up_n, n_bit, decide_true, decide_false, Bool.not_true, Bool.not_false, Bool.and_true, Bool.true_and, Bool.false_and, Bool.and_false, n_nlt0, n_neg_t, n_neg_f, k_0, k_566, k_567, k_568, k_569, k_570, k_571, k_572, k_573, k_574, k_575, k_576, m2]
        refine c208 hg hlt hw.2 hk hW hH (mw1 _ hw.2) g1 (by rw [List.length_append]; omega) (fun I2 g3 g4 => ?_)
        simp (disch := omega) only [v209_168, v209_207, v209_210, Nat.add_zero, n_cl, n_in_t, n_lt_t, n_lt_f, n_eq_t, n_eq_f, n_sub, nI_add, n_mul, n_01, ↓reduceIte, if_true, if_false, eq_self, true_or, or_true, and_self, and_true, true_and, Nat.reduceAdd, Nat.reduceMul, Nat.reduceLeDiff, Nat.zero_le, not_true_eq_false, not_false_eq_true, cat2_n, cat2_i, cat2_r, ws_0, ws_i, ws_r, ws_l, ws_d, aftr_n, aftr_s, bI_ok, bI_t, bI_f, up_s, up_n, n_bit, decide_true, decide_false, Bool.not_true, Bool.not_false, Bool.and_true, Bool.true_and, Bool.false_and, Bool.and_false, n_nlt0, n_neg_t, n_neg_f, k_0, k_566, k_567, k_568, k_569, k_570, k_571, k_572, k_573, k_574, k_575, k_576]
        have g5 := g2.tr g4
        refine ih (p + 1) r (acc ++ [A (53 + p)]) (told + 1) _ I2 _ (by omega) hs.2 hr h2' hb' (Nat.lt_of_le_of_lt Nat.and_le_left hth) (fun j => ?_) (by omega) (fun p hp => (g4.at (pS_s (by omega) ht _)).trans (ma1 p hp)) (fun w hw => (g4.at (pS_s (by omega) ht _)).trans (mw1 w hw)) g3 (by simp only [List.length_append]; omega) (fun I3 g6 g7 => hQ I3 (by simpa only [List.append_assoc] using g6) (g5.tr g7))
        rw [clr_bit hth, hT, Bool.eq_iff_iff]
        simp only [List.mem_cons, Bool.and_eq_true, decide_eq_true_eq, Bool.not_eq_true', decide_eq_false_iff_not]
        constructor
        · rintro ⟨h1 | h1, h2⟩
          · exact absurd h1.symm h2
          · exact h1
        · intro h1
          refine ⟨Or.inr h1, fun h2 => nws_not _ _ _ h1 ?_⟩
          rw [h2]; simp
    · have hbp : m.testBit p = false := by rw [hb p (Nat.le_refl _)]; exact decide_eq_false hn1
      simp (disch := omega) only [v209_75, v209_77, v209_80, v209_81, v209_83, v209_84, v209_85, v209_86, v209_87, v209_207, v209_210, Nat.add_zero, n_cl, n_in_t, n_lt_t, n_lt_f, n_eq_t, n_eq_f, n_sub, nI_add, n_mul, n_01, ↓reduceIte, if_true, if_false, eq_self, true_or, or_true, and_self, and_true, true_and, Nat.reduceAdd, Nat.reduceMul, Nat.reduceLeDiff, Nat.zero_le, not_true_eq_false, not_false_eq_true, cat2_n, cat2_i, cat2_r, ws_0, ws_i, ws_r, ws_l, ws_d, aftr_n, aftr_s, bI_ok, bI_t, bI_f, up_s, up_n, n_bit, decide_true, decide_false, Bool.not_true, Bool.not_false, Bool.and_true, Bool.true_and, Bool.false_and, Bool.and_false, n_nlt0, n_neg_t, n_neg_f, k_0, k_566, k_567, k_568, k_569, k_570, k_571, k_572, k_573, k_574, k_575, k_576, hbp]
      exact ih (p + 1) rest acc told th I T (by omega) hs hr h2 (fun j hj => hb j (by omega)) hth hT hto ma mw ho hl hQ
theorem c209w {g : List Nat} (hg : Good A) (hlt : LwT A) (hk : KAt KL b (ad b t) = (20, 10)) (hW : 1 ≤ W ∧ W ≤ 40) (hH : 1 ≤ H ∧ H ≤ 20) (ht : 577 ≤ t) (hs : g.Pairwise (· < ·)) (h2 : ∀ x ∈ g, x < A 6) (h3 : ∀ x ∈ g, A (53 + x) < A 7) (hn : g.length ≤ 6) (hl : Lw b I A n) (ho : OS b I t W H T) (hT : T.length + (wordsT A g).length ≤ 1680) (hQ : ∀ I', OS b I' t W H (T ++ wordsT A g) → Ag (pS t) b I I' → Q (.inl none) (KAt KL b, I', RAt RL b q, L, sz, ex)) :
    X z 209 0 [some (.ref (ad b t)), some (.int (nI 1)), some (.int (nI (maskL g))), some (.ref (ad b 569)), some (.ref (ad b 573)), some (.ref (ad b 574)), none, none, none, none, none] [] (0, 0) (KAt KL b, I, RAt RL b q, L, sz, ex) Q := by
  have h6 := hg.1.1
  have h20 : ∀ x ∈ g, x < 20 := fun x hx => by have := h2 x hx; omega
  have hm : maskL g < 2147483648 := Nat.lt_of_lt_of_le (maskL_lt (n := 20) h20) (by decide)
  have h23 : ∀ x ∈ g, x < A 6 ∧ A (53 + x) < A 7 := fun x hx => ⟨h2 x hx, h3 x hx⟩
  have ma : ∀ p, p < A 6 → I (ad b 569) p = nI (A (53 + p)) := fun p hp => (hl.2.1 p hp).2.2.1
  simp (disch := omega) only [v209_0, v209_1, v209_3, v209_4, v209_6, v209_7, Nat.add_zero, n_cl, n_in_t, n_lt_t, n_lt_f, n_eq_t, n_eq_f, n_sub, nI_add, n_mul, n_01, ↓reduceIte, if_true, if_false, eq_self, true_or, or_true, and_self, and_true, true_and, Nat.reduceAdd, Nat.reduceMul, Nat.reduceLeDiff, Nat.zero_le, not_true_eq_false, not_false_eq_true, cat2_n, cat2_i, cat2_r, ws_0, ws_i, ws_r, ws_l, ws_d, aftr_n, aftr_s, bI_ok, bI_t, bI_f, up_s, up_n, n_bit, decide_true, decide_false, Bool.not_true, Bool.not_false, Bool.and_true, Bool.true_and, Bool.false_and, Bool.and_false, n_nlt0, n_neg_t, n_neg_f, k_0, k_566, k_567, k_568, k_569, k_570, k_571, k_572, k_573, k_574, k_575, k_576]
  refine l209w hg hm ma 20 0 g [] 0 (by omega) hs (fun x _ => Nat.zero_le x) h23 (fun j _ => maskL_t) (by omega) (fun j => by simp) (Nat.zero_le _) (fun th hth hT2 => ?_)
  rw [List.nil_append] at hT2 ⊢
  simp (disch := omega) only [v209_67, v209_68, v209_70, v209_71, Nat.add_zero, n_cl, n_in_t, n_lt_t, n_lt_f, n_eq_t, n_eq_f, n_sub, nI_add, n_mul, n_01, ↓reduceIte, if_true, if_false, eq_self, true_or, or_true, and_self, and_true, true_and, Nat.reduceAdd, Nat.reduceMul, Nat.reduceLeDiff, Nat.zero_le, not_true_eq_false, not_false_eq_true, cat2_n, cat2_i, cat2_r, ws_0, ws_i, ws_r, ws_l, ws_d, aftr_n, aftr_s, bI_ok, bI_t, bI_f, up_s, up_n, n_bit, decide_true, decide_false, Bool.not_true, Bool.not_false, Bool.and_true, Bool.true_and, Bool.false_and, Bool.and_false, n_nlt0, n_neg_t, n_neg_f, k_0, k_566, k_567, k_568, k_569, k_570, k_571, k_572, k_573, k_574, k_575, k_576]
  have nl := nws_len (A := A) g []
  exact l209b hg hlt hk hW hH ht (by omega) hm 20 0 g [] 0 th I T (by omega) hs (fun x _ => Nat.zero_le x) h23 (fun j _ => maskL_t) hth hT2 (by omega) ma hl.2.2.1 ho hT hQ
end LD
