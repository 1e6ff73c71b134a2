/-! THE CLASS: a whole state copied; what a state tells -/
section CB
variable {z : P0} {KL : Nat → Nat × Nat} {RL : Nat → Nat → Option Nat} {q : Nat → Nat} {b : Nat} {I : Nat → Nat → Int32} {L : Nat → Nat → Int64} {sz : Nat} {ex : Bool} {Q : Res → Mem → Prop} {A : Row}
variable {s s' : Nat}
def pPs (s m o : Nat) (_j : Nat) : Prop := s + 6 ≤ o ∧ o < s + 6 + 2 * m
def pWs (s m o : Nat) (_j : Nat) : Prop := s + 46 ≤ o ∧ o < s + 46 + 2 * m
theorem l48a (hs : isS s) (ht : isS s') (hne : s ≠ s') (hg : Good A) : ∀ d i I, i + d = A 6 → SR b I s' A → (∀ j, j < i → PR b I (s + 6 + 2 * j) (s + 7 + 2 * j) A j) → (∀ I', (∀ j, j < A 6 → PR b I' (s + 6 + 2 * j) (s + 7 + 2 * j) A j) → Ag (pBl s) b I I' → X z 48 31 [some (.ref (ad b s)), some (.ref (ad b s')), some (.int (nI (A 6)))] [] (0, 0) (KAt KL b, I', RAt RL b q, L, sz, ex) Q) →
    X z 48 2 [some (.ref (ad b s)), some (.ref (ad b s')), some (.int (nI i))] [] (0, 0) (KAt KL b, I, RAt RL b q, L, sz, ex) Q := by
  have h6 := hg.1.1
  have h7 := hg.1.2.1
  have ap := isS_apart hs ht hne
  intro d
  induction d with
  | zero =>
    intro i I hi h hd hQ
    have e : i = A 6 := by omega
    subst e
    have m6 := h.1.1.1
    rw [v48_2]
    simp (disch := omega) only [v48_3, v48_4, v48_7, v48_10, v48_11, v48_14, v48_15, v48_16, v48_17, v48_20, v48_21, u48_22, v48_25, v48_28, n_cl, n_in_t, n_lt_t, n_lt_f, n_eq_t, n_eq_f, n_sub, nI_add, n_mul, n_01, ↓reduceIte, if_true, if_false, eq_self, true_or, or_true, and_self, and_true, true_and, Nat.reduceAdd, Nat.reduceMul, Nat.reduceLeDiff, Nat.zero_le, not_true_eq_false, not_false_eq_true, cat2_n, cat2_i, cat2_r, ws_0, ws_i, ws_r, ws_l, ws_d, aftr_n, aftr_s, bI_ok, bI_t, bI_f, up_s, up_n, n_bit, decide_true, decide_false, Bool.not_true, Bool.not_false, Bool.and_true, Bool.true_and, Bool.false_and, Bool.and_false, va_rf_s, n_nlt0, k_0, k_67, k_68, k_465, k_466, k_467, k_468, k_469, k_470, k_471, k_472, k_565, r_0_0, r_0_1, r_0_2, r_0_3, r_0_4, r_0_5, r_67_0, r_465_0, r_467_0, r_467_2, r_470_0, r_470_1, va_rf_s, n_neg_t, n_neg_f, kS0 hs, kS1 hs, kS2 hs, kS3 hs, kS4 hs, kS5 hs, kSp hs, kSn hs, kSw hs, kSl hs, rS0_0 hs, rS0_2 hs, rS0_4 hs, rS0_5 hs, rS3_0 hs, rS1 hs, rS2 hs, rSp hs, rSw hs, kS0 ht, kS1 ht, kS2 ht, kS3 ht, kS4 ht, kS5 ht, kSp ht, kSn ht, kSw ht, kSl ht, rS0_0 ht, rS0_2 ht, rS0_4 ht, rS0_5 ht, rS3_0 ht, rS1 ht, rS2 ht, rSp ht, rSw ht, m6]
    exact hQ I hd Ag.rf
  | succ d ih =>
    intro i I hi h hd hQ
    have m6 := h.1.1.1
    have hp := h.1.2.1 i (by omega)
    obtain ⟨-, -, -, q4, -, -, q2, -⟩ := hg.2.2.1 i (by omega)
    rw [v48_2]
    simp (disch := omega) only [v48_3, v48_4, v48_7, v48_10, v48_11, v48_14, v48_15, v48_16, v48_17, v48_20, v48_21, u48_22, v48_25, v48_28, n_cl, n_in_t, n_lt_t, n_lt_f, n_eq_t, n_eq_f, n_sub, nI_add, n_mul, n_01, ↓reduceIte, if_true, if_false, eq_self, true_or, or_true, and_self, and_true, true_and, Nat.reduceAdd, Nat.reduceMul, Nat.reduceLeDiff, Nat.zero_le, not_true_eq_false, not_false_eq_true, cat2_n, cat2_i, cat2_r, ws_0, ws_i, ws_r, ws_l, ws_d, aftr_n, aftr_s, bI_ok, bI_t, bI_f, up_s, up_n, n_bit, decide_true, decide_false, Bool.not_true, Bool.not_false, Bool.and_true, Bool.true_and, Bool.false_and, Bool.and_false, va_rf_s, n_nlt0, k_0, k_67, k_68, k_465, k_466, k_467, k_468, k_469, k_470, k_471, k_472, k_565, r_0_0, r_0_1, r_0_2, r_0_3, r_0_4, r_0_5, r_67_0, r_465_0, r_467_0, r_467_2, r_470_0, r_470_1, va_rf_s, n_neg_t, n_neg_f, kS0 hs, kS1 hs, kS2 hs, kS3 hs, kS4 hs, kS5 hs, kSp hs, kSn hs, kSw hs, kSl hs, rS0_0 hs, rS0_2 hs, rS0_4 hs, rS0_5 hs, rS3_0 hs, rS1 hs, rS2 hs, rSp hs, rSw hs, kS0 ht, kS1 ht, kS2 ht, kS3 ht, kS4 ht, kS5 ht, kSp ht, kSn ht, kSw ht, kSl ht, rS0_0 ht, rS0_2 ht, rS0_4 ht, rS0_5 ht, rS3_0 ht, rS1 ht, rS2 ht, rSp ht, rSw ht, m6]
    refine c46 hs ht hne (by omega) q4 q2 hp (fun I1 g1 g2 => ?_)
    simp (disch := omega) only [v48_25, v48_28, n_cl, n_in_t, n_lt_t, n_lt_f, n_eq_t, n_eq_f, n_sub, nI_add, n_mul, n_01, ↓reduceIte, if_true, if_false, eq_self, true_or, or_true, and_self, and_true, true_and, Nat.reduceAdd, Nat.reduceMul, Nat.reduceLeDiff, Nat.zero_le, not_true_eq_false, not_false_eq_true, cat2_n, cat2_i, cat2_r, ws_0, ws_i, ws_r, ws_l, ws_d, aftr_n, aftr_s, bI_ok, bI_t, bI_f, up_s, up_n, n_bit, decide_true, decide_false, Bool.not_true, Bool.not_false, Bool.and_true, Bool.true_and, Bool.false_and, Bool.and_false, va_rf_s, n_nlt0, k_0, k_67, k_68, k_465, k_466, k_467, k_468, k_469, k_470, k_471, k_472, k_565, r_0_0, r_0_1, r_0_2, r_0_3, r_0_4, r_0_5, r_67_0, r_465_0, r_467_0, r_467_2, r_470_0, r_470_1, va_rf_s, n_neg_t, n_neg_f]
    have fr : Ag (pBl s) b I I1 := g2.mn (fun o j x => by unfold pBl; omega)
    refine ih (i + 1) I1 (by omega) (h.ag h6 h7 fr (fun o j x y z => by unfold pBl at z; omega)) (fun j hj => ?_) (fun I2 q1 q2 => hQ I2 q1 (fr.tr q2))
    by_cases e : j = i
    · subst e; exact g1
    · exact (hd j (by omega)).ag g2 (fun _ x => by omega) (fun _ x => by omega)
theorem l48b (hs : isS s) (ht : isS s') (hne : s ≠ s') (hg : Good A) : ∀ d i I, i + d = A 7 → SR b I s' A → I (ad b s) 1 = nI (A 6) → (∀ j, j < A 6 → PR b I (s + 6 + 2 * j) (s + 7 + 2 * j) A j) → (∀ j, j < i → WR b I (s + 46 + 2 * j) (s + 47 + 2 * j) A j) → (∀ I', I' (ad b s) 1 = nI (A 6) → (∀ j, j < A 6 → PR b I' (s + 6 + 2 * j) (s + 7 + 2 * j) A j) → (∀ j, j < A 7 → WR b I' (s + 46 + 2 * j) (s + 47 + 2 * j) A j) → Ag (pBl s) b I I' → X z 48 70 [some (.ref (ad b s)), some (.ref (ad b s')), some (.int (nI (A 7)))] [] (0, 0) (KAt KL b, I', RAt RL b q, L, sz, ex) Q) →
    X z 48 41 [some (.ref (ad b s)), some (.ref (ad b s')), some (.int (nI i))] [] (0, 0) (KAt KL b, I, RAt RL b q, L, sz, ex) Q := by
  have h6 := hg.1.1
  have h7 := hg.1.2.1
  have ap := isS_apart hs ht hne
  intro d
  induction d with
  | zero =>
    intro i I hi h h1 hP hd hQ
    have e : i = A 7 := by omega
    subst e
    have m7 := h.1.1.2.1
    rw [v48_41]
    simp (disch := omega) only [v48_42, v48_43, v48_46, v48_49, v48_50, v48_53, v48_54, v48_55, v48_56, v48_59, v48_60, u48_61, v48_64, v48_67, n_cl, n_in_t, n_lt_t, n_lt_f, n_eq_t, n_eq_f, n_sub, nI_add, n_mul, n_01, ↓reduceIte, if_true, if_false, eq_self, true_or, or_true, and_self, and_true, true_and, Nat.reduceAdd, Nat.reduceMul, Nat.reduceLeDiff, Nat.zero_le, not_true_eq_false, not_false_eq_true, cat2_n, cat2_i, cat2_r, ws_0, ws_i, ws_r, ws_l, ws_d, aftr_n, aftr_s, bI_ok, bI_t, bI_f, up_s, up_n, n_bit, decide_true, decide_false, Bool.not_true, Bool.not_false, Bool.and_true, Bool.true_and, Bool.false_and, Bool.and_false, va_rf_s, n_nlt0, k_0, k_67, k_68, k_465, k_466, k_467, k_468, k_469, k_470, k_471, k_472, k_565, r_0_0, r_0_1, r_0_2, r_0_3, r_0_4, r_0_5, r_67_0, r_465_0, r_467_0, r_467_2, r_470_0, r_470_1, va_rf_s, n_neg_t, n_neg_f, kS0 hs, kS1 hs, kS2 hs, kS3 hs, kS4 hs, kS5 hs, kSp hs, kSn hs, kSw hs, kSl hs, rS0_0 hs, rS0_2 hs, rS0_4 hs, rS0_5 hs, rS3_0 hs, rS1 hs, rS2 hs, rSp hs, rSw hs, kS0 ht, kS1 ht, kS2 ht, kS3 ht, kS4 ht, kS5 ht, kSp ht, kSn ht, kSw ht, kSl ht, rS0_0 ht, rS0_2 ht, rS0_4 ht, rS0_5 ht, rS3_0 ht, rS1 ht, rS2 ht, rSp ht, rSw ht, m7]
    exact hQ I h1 hP hd Ag.rf
  | succ d ih =>
    intro i I hi h h1 hP hd hQ
    have m7 := h.1.1.2.1
    have hp := h.1.2.2.1 i (by omega)
    obtain ⟨-, q2, q4, -⟩ := hg.2.2.2.1 i (by omega)
    rw [v48_41]
    simp (disch := omega) only [v48_42, v48_43, v48_46, v48_49, v48_50, v48_53, v48_54, v48_55, v48_56, v48_59, v48_60, u48_61, v48_64, v48_67, n_cl, n_in_t, n_lt_t, n_lt_f, n_eq_t, n_eq_f, n_sub, nI_add, n_mul, n_01, ↓reduceIte, if_true, if_false, eq_self, true_or, or_true, and_self, and_true, true_and, Nat.reduceAdd, Nat.reduceMul, Nat.reduceLeDiff, Nat.zero_le, not_true_eq_false, not_false_eq_true, cat2_n, cat2_i, cat2_r, ws_0, ws_i, ws_r, ws_l, ws_d, aftr_n, aftr_s, bI_ok, bI_t, bI_f, up_s, up_n, n_bit, decide_true, decide_false, Bool.not_true, Bool.not_false, Bool.and_true, Bool.true_and, Bool.false_and, Bool.and_false, va_rf_s, n_nlt0, k_0, k_67, k_68, k_465, k_466, k_467, k_468, k_469, k_470, k_471, k_472, k_565, r_0_0, r_0_1, r_0_2, r_0_3, r_0_4, r_0_5, r_67_0, r_465_0, r_467_0, r_467_2, r_470_0, r_470_1, va_rf_s, n_neg_t, n_neg_f, kS0 hs, kS1 hs, kS2 hs, kS3 hs, kS4 hs, kS5 hs, kSp hs, kSn hs, kSw hs, kSl hs, rS0_0 hs, rS0_2 hs, rS0_4 hs, rS0_5 hs, rS3_0 hs, rS1 hs, rS2 hs, rSp hs, rSw hs, kS0 ht, kS1 ht, kS2 ht, kS3 ht, kS4 ht, kS5 ht, kSp ht, kSn ht, kSw ht, kSl ht, rS0_0 ht, rS0_2 ht, rS0_4 ht, rS0_5 ht, rS3_0 ht, rS1 ht, rS2 ht, rSp ht, rSw ht, m7]
    refine c54 hs ht hne (by omega) q4 q2 hp (fun I1 g1 g2 => ?_)
    simp (disch := omega) only [v48_64, v48_67, n_cl, n_in_t, n_lt_t, n_lt_f, n_eq_t, n_eq_f, n_sub, nI_add, n_mul, n_01, ↓reduceIte, if_true, if_false, eq_self, true_or, or_true, and_self, and_true, true_and, Nat.reduceAdd, Nat.reduceMul, Nat.reduceLeDiff, Nat.zero_le, not_true_eq_false, not_false_eq_true, cat2_n, cat2_i, cat2_r, ws_0, ws_i, ws_r, ws_l, ws_d, aftr_n, aftr_s, bI_ok, bI_t, bI_f, up_s, up_n, n_bit, decide_true, decide_false, Bool.not_true, Bool.not_false, Bool.and_true, Bool.true_and, Bool.false_and, Bool.and_false, va_rf_s, n_nlt0, k_0, k_67, k_68, k_465, k_466, k_467, k_468, k_469, k_470, k_471, k_472, k_565, r_0_0, r_0_1, r_0_2, r_0_3, r_0_4, r_0_5, r_67_0, r_465_0, r_467_0, r_467_2, r_470_0, r_470_1, va_rf_s, n_neg_t, n_neg_f]
    have fr : Ag (pBl s) b I I1 := g2.mn (fun o j x => by unfold pBl; omega)
    refine ih (i + 1) I1 (by omega) (h.ag h6 h7 fr (fun o j x y z => by unfold pBl at z; omega)) ((g2.at (by omega)).trans h1) (fun j hj => (hP j hj).ag g2 (fun _ x => by omega) (fun _ x => by omega)) (fun j hj => ?_) (fun I2 q0 q1 q2 q3 => hQ I2 q0 q1 q2 (fr.tr q3))
    by_cases e : j = i
    · subst e; exact g1
    · exact (hd j (by omega)).ag g2 (fun _ x => by omega) (fun _ x => by omega)
set_option maxHeartbeats 4000000 in
/-- State.copy -/
theorem c48 (hs : isS s) (ht : isS s') (hne : s ≠ s') (hg : Good A) (h : SR b I s' A) (hQ : ∀ I', SR b I' s A → Ag (pBl s) b I I' → Q (.inl none) (KAt KL b, I', RAt RL b q, L, sz, ex)) : X z 48 0 [some (.ref (ad b s)), some (.ref (ad b s')), none] [] (0, 0) (KAt KL b, I, RAt RL b q, L, sz, ex) Q := by
  have h6 := hg.1.1
  have h7 := hg.1.2.1
  have ap := isS_apart hs ht hne
  have hr := hg.2.2.2.2.2
  simp (disch := omega) only [v48_0, v48_1, n_cl, n_in_t, n_lt_t, n_lt_f, n_eq_t, n_eq_f, n_sub, nI_add, n_mul, n_01, ↓reduceIte, if_true, if_false, eq_self, true_or, or_true, and_self, and_true, true_and, Nat.reduceAdd, Nat.reduceMul, Nat.reduceLeDiff, Nat.zero_le, not_true_eq_false, not_false_eq_true, cat2_n, cat2_i, cat2_r, ws_0, ws_i, ws_r, ws_l, ws_d, aftr_n, aftr_s, bI_ok, bI_t, bI_f, up_s, up_n, n_bit, decide_true, decide_false, Bool.not_true, Bool.not_false, Bool.and_true, Bool.true_and, Bool.false_and, Bool.and_false, va_rf_s, n_nlt0, k_0, k_67, k_68, k_465, k_466, k_467, k_468, k_469, k_470, k_471, k_472, k_565, r_0_0, r_0_1, r_0_2, r_0_3, r_0_4, r_0_5, r_67_0, r_465_0, r_467_0, r_467_2, r_470_0, r_470_1, va_rf_s, n_neg_t, n_neg_f]
  refine l48a hs ht hne hg (A 6) 0 I (by omega) h (fun j hj => absurd hj (Nat.not_lt_zero _)) (fun I1 p1 g1 => ?_)
  have s1 := h.ag h6 h7 g1 (fun o j x y z => by unfold pBl at z; omega)
  have m6 := s1.1.1.1
  simp (disch := omega) only [v48_31, v48_32, v48_33, v48_36, v48_39, v48_40, n_cl, n_in_t, n_lt_t, n_lt_f, n_eq_t, n_eq_f, n_sub, nI_add, n_mul, n_01, ↓reduceIte, if_true, if_false, eq_self, true_or, or_true, and_self, and_true, true_and, Nat.reduceAdd, Nat.reduceMul, Nat.reduceLeDiff, Nat.zero_le, not_true_eq_false, not_false_eq_true, cat2_n, cat2_i, cat2_r, ws_0, ws_i, ws_r, ws_l, ws_d, aftr_n, aftr_s, bI_ok, bI_t, bI_f, up_s, up_n, n_bit, decide_true, decide_false, Bool.not_true, Bool.not_false, Bool.and_true, Bool.true_and, Bool.false_and, Bool.and_false, va_rf_s, n_nlt0, k_0, k_67, k_68, k_465, k_466, k_467, k_468, k_469, k_470, k_471, k_472, k_565, r_0_0, r_0_1, r_0_2, r_0_3, r_0_4, r_0_5, r_67_0, r_465_0, r_467_0, r_467_2, r_470_0, r_470_1, va_rf_s, n_neg_t, n_neg_f, kS0 hs, kS1 hs, kS2 hs, kS3 hs, kS4 hs, kS5 hs, kSp hs, kSn hs, kSw hs, kSl hs, rS0_0 hs, rS0_2 hs, rS0_4 hs, rS0_5 hs, rS3_0 hs, rS1 hs, rS2 hs, rSp hs, rSw hs, kS0 ht, kS1 ht, kS2 ht, kS3 ht, kS4 ht, kS5 ht, kSp ht, kSn ht, kSw ht, kSl ht, rS0_0 ht, rS0_2 ht, rS0_4 ht, rS0_5 ht, rS3_0 ht, rS1 ht, rS2 ht, rSp ht, rSw ht, m6]
  have fr1 : Ag (pBl s) b I (up2 I1 (ad b s) 1 (nI (A 6))) := g1.up ⟨by omega, by omega⟩
  refine l48b hs ht hne hg (A 7) 0 _ (by omega) (h.ag h6 h7 fr1 (fun o j x y z => by unfold pBl at z; omega)) up_s (fun j hj => (p1 j hj).ag (P := fun o _ => o = s) (Ag.rf.up rfl) (fun _ x => by omega) (fun _ x => by omega)) (fun j hj => absurd hj (Nat.not_lt_zero _)) (fun I2 c1 p2 w2 g2 => ?_)
  have fr2 := fr1.tr g2
  have s2 := h.ag h6 h7 fr2 (fun o j x y z => by unfold pBl at z; omega)
  have m7 := s2.1.1.2.1
  have mi := s2.1.2.2.2
  have mi1 := mi.1
  simp (disch := omega) only [v48_70, v48_71, v48_72, v48_75, v48_78, v48_79, v48_82, v48_83, v48_86, v48_89, v48_90, v48_93, u48_96, n_cl, n_in_t, n_lt_t, n_lt_f, n_eq_t, n_eq_f, n_sub, nI_add, n_mul, n_01, ↓reduceIte, if_true, if_false, eq_self, true_or, or_true, and_self, and_true, true_and, Nat.reduceAdd, Nat.reduceMul, Nat.reduceLeDiff, Nat.zero_le, not_true_eq_false, not_false_eq_true, cat2_n, cat2_i, cat2_r, ws_0, ws_i, ws_r, ws_l, ws_d, aftr_n, aftr_s, bI_ok, bI_t, bI_f, up_s, up_n, n_bit, decide_true, decide_false, Bool.not_true, Bool.not_false, Bool.and_true, Bool.true_and, Bool.false_and, Bool.and_false, va_rf_s, n_nlt0, k_0, k_67, k_68, k_465, k_466, k_467, k_468, k_469, k_470, k_471, k_472, k_565, r_0_0, r_0_1, r_0_2, r_0_3, r_0_4, r_0_5, r_67_0, r_465_0, r_467_0, r_467_2, r_470_0, r_470_1, va_rf_s, n_neg_t, n_neg_f, kS0 hs, kS1 hs, kS2 hs, kS3 hs, kS4 hs, kS5 hs, kSp hs, kSn hs, kSw hs, kSl hs, rS0_0 hs, rS0_2 hs, rS0_4 hs, rS0_5 hs, rS3_0 hs, rS1 hs, rS2 hs, rSp hs, rSw hs, kS0 ht, kS1 ht, kS2 ht, kS3 ht, kS4 ht, kS5 ht, kSp ht, kSn ht, kSw ht, kSl ht, rS0_0 ht, rS0_2 ht, rS0_4 ht, rS0_5 ht, rS3_0 ht, rS1 ht, rS2 ht, rSp ht, rSw ht, m7, mi1]
  have e2 : Ag (fun o _ => o = s) b I2 (up2 I2 (ad b s) 3 (nI (A 7))) := Ag.rf.up rfl
  have mi2 : IR b (up2 I2 (ad b s) 3 (nI (A 7))) (s' + 3) (s' + 4) A := mi.ag e2 (fun _ x => by omega) (fun _ x => by omega)
  refine c28 hs (kS4 ht) (by omega) hr mi2.2 (fun I3 i1 i2 g3 => ?_)
  have fr3 : Ag (pBl s) b I I3 := (fr2.up ⟨by omega, by omega⟩).tr (g3.mn (fun o j x => by unfold pBl; omega))
  have s3 := h.ag h6 h7 fr3 (fun o j x y z => by unfold pBl at z; omega)
  obtain ⟨⟨⟨b1, b2, b3, b4, b5, b6⟩, -⟩, st⟩ := s3
  simp (disch := omega) only [v48_99, v48_100, v48_103, v48_104, v48_105, v48_108, v48_109, v48_111, v48_114, v48_115, v48_116, v48_119, v48_122, v48_123, v48_124, v48_127, v48_130, v48_131, v48_132, v48_135, v48_138, v48_139, v48_140, v48_143, v48_146, n_cl, n_in_t, n_lt_t, n_lt_f, n_eq_t, n_eq_f, n_sub, nI_add, n_mul, n_01, ↓reduceIte, if_true, if_false, eq_self, true_or, or_true, and_self, and_true, true_and, Nat.reduceAdd, Nat.reduceMul, Nat.reduceLeDiff, Nat.zero_le, not_true_eq_false, not_false_eq_true, cat2_n, cat2_i, cat2_r, ws_0, ws_i, ws_r, ws_l, ws_d, aftr_n, aftr_s, bI_ok, bI_t, bI_f, up_s, up_n, n_bit, decide_true, decide_false, Bool.not_true, Bool.not_false, Bool.and_true, Bool.true_and, Bool.false_and, Bool.and_false, va_rf_s, n_nlt0, k_0, k_67, k_68, k_465, k_466, k_467, k_468, k_469, k_470, k_471, k_472, k_565, r_0_0, r_0_1, r_0_2, r_0_3, r_0_4, r_0_5, r_67_0, r_465_0, r_467_0, r_467_2, r_470_0, r_470_1, va_rf_s, n_neg_t, n_neg_f, kS0 hs, kS1 hs, kS2 hs, kS3 hs, kS4 hs, kS5 hs, kSp hs, kSn hs, kSw hs, kSl hs, rS0_0 hs, rS0_2 hs, rS0_4 hs, rS0_5 hs, rS3_0 hs, rS1 hs, rS2 hs, rSp hs, rSw hs, kS0 ht, kS1 ht, kS2 ht, kS3 ht, kS4 ht, kS5 ht, kSp ht, kSn ht, kSw ht, kSl ht, rS0_0 ht, rS0_2 ht, rS0_4 ht, rS0_5 ht, rS3_0 ht, rS1 ht, rS2 ht, rSp ht, rSw ht, cp_n, b3, b4, b5, b6]
  have kp : ∀ {o j}, ¬ (o = s + 3 ∨ o = s + 4) → I3 (ad b o) j = up2 I2 (ad b s) 3 (nI (A 7)) (ad b o) j := fun hx => g3.at hx
  refine hQ _ ⟨⟨⟨?_, ?_, ?_, ?_, ?_, ?_⟩, fun i hi => ?_, fun w hw => ?_, ?_, fun k hk => ?_⟩, fun k hk => ?_⟩ ?_
  · rw [up_n (by omega), up_n (by omega), up_n (by omega), up_n (by omega), cp_n (by omega), kp (by omega), up_n (by omega)]; exact c1
  · rw [up_n (by omega), up_n (by omega), up_n (by omega), up_n (by omega), cp_n (by omega), kp (by omega), up_s]
  · rw [up_n (by omega), up_n (by omega), up_n (by omega), up_s]
  · rw [up_n (by omega), up_n (by omega), up_s]
  · rw [up_n (by omega), up_s]
  · rw [up_s]
  · exact ((p2 i hi).ag (e2.mn (P' := fun o _ => o = s ∨ o = s + 3 ∨ o = s + 4 ∨ o = s + 5) (fun _ _ x => Or.inl x)) (fun _ x => by omega) (fun _ x => by omega)).ag (P := fun o _ => o = s ∨ o = s + 3 ∨ o = s + 4 ∨ o = s + 5) ((((((g3.mn (fun o j x => by omega)).cp (fun _ _ _ => by omega)).up (by omega)).up (by omega)).up (by omega)).up (by omega)) (fun _ x => by omega) (fun _ x => by omega)
  · exact ((w2 w hw).ag (e2.mn (P' := fun o _ => o = s ∨ o = s + 3 ∨ o = s + 4 ∨ o = s + 5) (fun _ _ x => Or.inl x)) (fun _ x => by omega) (fun _ x => by omega)).ag (P := fun o _ => o = s ∨ o = s + 3 ∨ o = s + 4 ∨ o = s + 5) ((((((g3.mn (fun o j x => by omega)).cp (fun _ _ _ => by omega)).up (by omega)).up (by omega)).up (by omega)).up (by omega)) (fun _ x => by omega) (fun _ x => by omega)
  · rw [up_n (by omega), up_n (by omega), up_n (by omega), up_n (by omega), cp_n (by omega)]; exact i1
  · rw [up_n (by omega), up_n (by omega), up_n (by omega), up_n (by omega), cp_n (by omega)]; exact i2 k hk
  · rw [up_n (by omega), up_n (by omega), up_n (by omega), up_n (by omega), cp_s (Nat.zero_le _) (by omega), Nat.zero_add, Nat.sub_zero]
    exact st k hk
  · exact ((((fr3.cp (fun _ _ _ => ⟨by omega, by omega⟩)).up ⟨by omega, by omega⟩).up ⟨by omega, by omega⟩).up ⟨by omega, by omega⟩).up ⟨by omega, by omega⟩
end CB
