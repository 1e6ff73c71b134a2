/-! THE LAW'S CALLS OF THE CLASS -/
def LQ (Q : Res → Mem → Prop) (KL : Nat → Nat × Nat) (RL : Nat → Nat → Option Nat) (L : Nat → Nat → Int64) (sz : Nat) (ex : Bool) (b : Nat) (I : Nat → Nat → Int32) (q : Nat → Nat) (s : Ans) : Prop :=
  (s.1 = 0 → ∀ I' q', CSt b I' q' s.2.2 → Ag pCls b I I' → Q (.inl (some (.int (nI 0)))) (KAt KL b, I', RAt RL b q', up2 L (ad b 577) 0 (nI s.2.1).toInt64, sz, ex)) ∧ (s.1 ≠ 0 → ∀ I', CSt b I' q s.2.2 → Ag pCls b I I' → Q (.inl (some (.int (nI s.1)))) (KAt KL b, I', RAt RL b q, L, sz, false))
section LW
variable {z : P0} {KL : Nat → Nat × Nat} {RL : Nat → Nat → Option Nat} {q : Nat → Nat} {b : Nat} {I : Nat → Nat → Int32} {L : Nat → Nat → Int64} {sz : Nat} {ex : Bool} {Q : Res → Mem → Prop} {A : Row}
variable {n : Nat} {H : Nat → Row} {B : List Nat}
theorem o192 {w : Wd} {a f : Nat} : (opAddP w a f).1 ≤ 2 := by
  unfold opAddP
  repeat' split
  all_goals (dsimp only; omega)
theorem a192_0 {ls : Lcs} {rest : List Value} {cu : Nat × Nat} {σ : Mem} : aftr (X z) mT 192 5 ls rest cu Q (.inr 0) σ = ∀ q : Nat, X z 192 13 ls [.ref q] cu σ Q := rfl
theorem a192_1 {ls : Lcs} {rest : List Value} {cu : Nat × Nat} {σ : Mem} : aftr (X z) mT 192 5 ls rest cu Q (.inr 1) σ = ∀ q : Nat, X z 192 17 ls [.ref q] cu σ Q := rfl
set_option maxHeartbeats 4000000 in
theorem c192 {a f : Nat} (ha : a < 4294967296) (hf : f < 4294967296) (hw : CSt b I q (A, n, H, B)) (hg : GoodW (A, n, H, B)) (hQ : LQ Q KL RL L sz ex b I q (opAddP (A, n, H, B) a f)) : X z 192 0 [some (.ref (ad b 0)), some (.int (nI a)), some (.int (nI f)), some (.ref (ad b 577)), none] [] (0, 0) (KAt KL b, I, RAt RL b q, L, sz, ex) Q := by
  have ol := o192 (w := (A, n, H, B)) (a := a) (f := f)
  simp (disch := omega) only [v192_0, v192_1, v192_2, v192_3, v192_4, u192_5, n_cl, n_in_t, n_lt_t, n_lt_f, n_eq_t, n_eq_f, n_sub, nI_add, n_mul, n_01, ↓reduceIte, if_true, if_false, eq_self, true_or, or_true, and_self, and_true, true_and, Nat.reduceAdd, Nat.reduceMul, Nat.reduceLeDiff, Nat.zero_le, not_true_eq_false, not_false_eq_true, cat2_n, cat2_i, cat2_r, ws_0, ws_i, ws_r, ws_l, ws_d, aftr_n, aftr_s, bI_ok, bI_t, bI_f, up_s, up_n, n_bit, decide_true, decide_false, Bool.not_true, Bool.not_false, Bool.and_true, Bool.true_and, Bool.false_and, Bool.and_false, va_rf_s, n_nlt0, k_0, k_67, k_68, k_465, k_466, k_467, k_468, k_469, k_470, k_471, k_472, k_565, r_0_0, r_0_1, r_0_2, r_0_3, r_0_4, r_0_5, r_67_0, r_465_0, r_467_0, r_467_2, r_470_0, r_470_1, va_rf_s, n_neg_t, n_neg_f, k_0, k_67, k_68, k_465, k_466, k_467, k_468, k_469, k_470, k_471, k_472, k_565, r_0_0, r_0_1, r_0_2, r_0_3, r_0_4, r_0_5, r_67_0, r_465_0, r_467_0, r_467_2, r_470_0, r_470_1, va_rf_s]
  refine c58 ha hf hw hg ⟨fun e0 I1 q1 w1 g1 => ?_, fun e0 I1 w1 g1 => ?_⟩
  · simp (disch := omega) only [v192_8, v192_9, v192_10, v192_13, v192_15, v192_16, v192_17, v192_19, v192_20, v192_21, v192_22, n_cl, n_in_t, n_lt_t, n_lt_f, n_eq_t, n_eq_f, n_sub, nI_add, n_mul, n_01, ↓reduceIte, if_true, if_false, eq_self, true_or, or_true, and_self, and_true, true_and, Nat.reduceAdd, Nat.reduceMul, Nat.reduceLeDiff, Nat.zero_le, not_true_eq_false, not_false_eq_true, cat2_n, cat2_i, cat2_r, ws_0, ws_i, ws_r, ws_l, ws_d, aftr_n, aftr_s, bI_ok, bI_t, bI_f, up_s, up_n, n_bit, decide_true, decide_false, Bool.not_true, Bool.not_false, Bool.and_true, Bool.true_and, Bool.false_and, Bool.and_false, va_rf_s, n_nlt0, k_0, k_67, k_68, k_465, k_466, k_467, k_468, k_469, k_470, k_471, k_472, k_565, r_0_0, r_0_1, r_0_2, r_0_3, r_0_4, r_0_5, r_67_0, r_465_0, r_467_0, r_467_2, r_470_0, r_470_1, va_rf_s, n_neg_t, n_neg_f, k_0, k_67, k_68, k_465, k_466, k_467, k_468, k_469, k_470, k_471, k_472, k_565, r_0_0, r_0_1, r_0_2, r_0_3, r_0_4, r_0_5, r_67_0, r_465_0, r_467_0, r_467_2, r_470_0, r_470_1, va_rf_s, k_577]
    exact hQ.1 e0 I1 q1 w1 g1
  · have hq := hQ.2 e0 I1 w1 g1
    rcases (show (opAddP (A, n, H, B) a f).1 = 1 ∨ (opAddP (A, n, H, B) a f).1 = 2 by omega) with hq1 | hq1
    · rw [hq1] at hq ⊢
      refine (?_ : aftr (X z) mT 192 5 _ _ _ Q (.inr 0) _)
      rw [a192_0]
      intro qq
      simp (disch := omega) only [v192_13, v192_15, v192_16, n_cl, n_in_t, n_lt_t, n_lt_f, n_eq_t, n_eq_f, n_sub, nI_add, n_mul, n_01, ↓reduceIte, if_true, if_false, eq_self, true_or, or_true, and_self, and_true, true_and, Nat.reduceAdd, Nat.reduceMul, Nat.reduceLeDiff, Nat.zero_le, not_true_eq_false, not_false_eq_true, cat2_n, cat2_i, cat2_r, ws_0, ws_i, ws_r, ws_l, ws_d, aftr_n, aftr_s, bI_ok, bI_t, bI_f, up_s, up_n, n_bit, decide_true, decide_false, Bool.not_true, Bool.not_false, Bool.and_true, Bool.true_and, Bool.false_and, Bool.and_false, va_rf_s, n_nlt0, k_0, k_67, k_68, k_465, k_466, k_467, k_468, k_469, k_470, k_471, k_472, k_565, r_0_0, r_0_1, r_0_2, r_0_3, r_0_4, r_0_5, r_67_0, r_465_0, r_467_0, r_467_2, r_470_0, r_470_1, va_rf_s, n_neg_t, n_neg_f, k_0, k_67, k_68, k_465, k_466, k_467, k_468, k_469, k_470, k_471, k_472, k_565, r_0_0, r_0_1, r_0_2, r_0_3, r_0_4, r_0_5, r_67_0, r_465_0, r_467_0, r_467_2, r_470_0, r_470_1, va_rf_s]
      exact hq
    · rw [hq1] at hq ⊢
      refine (?_ : aftr (X z) mT 192 5 _ _ _ Q (.inr 1) _)
      rw [a192_1]
      intro qq
      simp (disch := omega) only [v192_17, v192_19, v192_20, n_cl, n_in_t, n_lt_t, n_lt_f, n_eq_t, n_eq_f, n_sub, nI_add, n_mul, n_01, ↓reduceIte, if_true, if_false, eq_self, true_or, or_true, and_self, and_true, true_and, Nat.reduceAdd, Nat.reduceMul, Nat.reduceLeDiff, Nat.zero_le, not_true_eq_false, not_false_eq_true, cat2_n, cat2_i, cat2_r, ws_0, ws_i, ws_r, ws_l, ws_d, aftr_n, aftr_s, bI_ok, bI_t, bI_f, up_s, up_n, n_bit, decide_true, decide_false, Bool.not_true, Bool.not_false, Bool.and_true, Bool.true_and, Bool.false_and, Bool.and_false, va_rf_s, n_nlt0, k_0, k_67, k_68, k_465, k_466, k_467, k_468, k_469, k_470, k_471, k_472, k_565, r_0_0, r_0_1, r_0_2, r_0_3, r_0_4, r_0_5, r_67_0, r_465_0, r_467_0, r_467_2, r_470_0, r_470_1, va_rf_s, n_neg_t, n_neg_f, k_0, k_67, k_68, k_465, k_466, k_467, k_468, k_469, k_470, k_471, k_472, k_565, r_0_0, r_0_1, r_0_2, r_0_3, r_0_4, r_0_5, r_67_0, r_465_0, r_467_0, r_467_2, r_470_0, r_470_1, va_rf_s]
      exact hq
theorem o193 {w : Wd} : (opAddW w).1 ≤ 2 := by
  unfold opAddW
  repeat' split
  all_goals (dsimp only; omega)
theorem a193_0 {ls : Lcs} {rest : List Value} {cu : Nat × Nat} {σ : Mem} : aftr (X z) mT 193 3 ls rest cu Q (.inr 0) σ = ∀ q : Nat, X z 193 11 ls [.ref q] cu σ Q := rfl
theorem a193_1 {ls : Lcs} {rest : List Value} {cu : Nat × Nat} {σ : Mem} : aftr (X z) mT 193 3 ls rest cu Q (.inr 1) σ = ∀ q : Nat, X z 193 14 ls [.ref q] cu σ Q := rfl
set_option maxHeartbeats 4000000 in
theorem c193 (hw : CSt b I q (A, n, H, B)) (hg : GoodW (A, n, H, B)) (hQ : LQ Q KL RL L sz ex b I q (opAddW (A, n, H, B))) : X z 193 0 [some (.ref (ad b 0)), some (.ref (ad b 577)), none] [] (0, 0) (KAt KL b, I, RAt RL b q, L, sz, ex) Q := by
  have ol := o193 (w := (A, n, H, B))
  simp (disch := omega) only [v193_0, v193_1, v193_2, u193_3, n_cl, n_in_t, n_lt_t, n_lt_f, n_eq_t, n_eq_f, n_sub, nI_add, n_mul, n_01, ↓reduceIte, if_true, if_false, eq_self, true_or, or_true, and_self, and_true, true_and, Nat.reduceAdd, Nat.reduceMul, Nat.reduceLeDiff, Nat.zero_le, not_true_eq_false, not_false_eq_true, cat2_n, cat2_i, cat2_r, ws_0, ws_i, ws_r, ws_l, ws_d, aftr_n, aftr_s, bI_ok, bI_t, bI_f, up_s, up_n, n_bit, decide_true, decide_false, Bool.not_true, Bool.not_false, Bool.and_true, Bool.true_and, Bool.false_and, Bool.and_false, va_rf_s, n_nlt0, k_0, k_67, k_68, k_465, k_466, k_467, k_468, k_469, k_470, k_471, k_472, k_565, r_0_0, r_0_1, r_0_2, r_0_3, r_0_4, r_0_5, r_67_0, r_465_0, r_467_0, r_467_2, r_470_0, r_470_1, va_rf_s, n_neg_t, n_neg_f, k_0, k_67, k_68, k_465, k_466, k_467, k_468, k_469, k_470, k_471, k_472, k_565, r_0_0, r_0_1, r_0_2, r_0_3, r_0_4, r_0_5, r_67_0, r_465_0, r_467_0, r_467_2, r_470_0, r_470_1, va_rf_s]
  refine c59  hw hg ⟨fun e0 I1 q1 w1 g1 => ?_, fun e0 I1 w1 g1 => ?_⟩
  · simp (disch := omega) only [v193_6, v193_7, v193_8, v193_11, v193_12, v193_13, v193_14, v193_15, v193_16, v193_17, v193_18, n_cl, n_in_t, n_lt_t, n_lt_f, n_eq_t, n_eq_f, n_sub, nI_add, n_mul, n_01, ↓reduceIte, if_true, if_false, eq_self, true_or, or_true, and_self, and_true, true_and, Nat.reduceAdd, Nat.reduceMul, Nat.reduceLeDiff, Nat.zero_le, not_true_eq_false, not_false_eq_true, cat2_n, cat2_i, cat2_r, ws_0, ws_i, ws_r, ws_l, ws_d, aftr_n, aftr_s, bI_ok, bI_t, bI_f, up_s, up_n, n_bit, decide_true, decide_false, Bool.not_true, Bool.not_false, Bool.and_true, Bool.true_and, Bool.false_and, Bool.and_false, va_rf_s, n_nlt0, k_0, k_67, k_68, k_465, k_466, k_467, k_468, k_469, k_470, k_471, k_472, k_565, r_0_0, r_0_1, r_0_2, r_0_3, r_0_4, r_0_5, r_67_0, r_465_0, r_467_0, r_467_2, r_470_0, r_470_1, va_rf_s, n_neg_t, n_neg_f, k_0, k_67, k_68, k_465, k_466, k_467, k_468, k_469, k_470, k_471, k_472, k_565, r_0_0, r_0_1, r_0_2, r_0_3, r_0_4, r_0_5, r_67_0, r_465_0, r_467_0, r_467_2, r_470_0, r_470_1, va_rf_s, k_577]
    exact hQ.1 e0 I1 q1 w1 g1
  · have hq := hQ.2 e0 I1 w1 g1
    rcases (show (opAddW (A, n, H, B)).1 = 1 ∨ (opAddW (A, n, H, B)).1 = 2 by omega) with hq1 | hq1
    · rw [hq1] at hq ⊢
      refine (?_ : aftr (X z) mT 193 3 _ _ _ Q (.inr 0) _)
      rw [a193_0]
      intro qq
      simp (disch := omega) only [v193_11, v193_12, v193_13, n_cl, n_in_t, n_lt_t, n_lt_f, n_eq_t, n_eq_f, n_sub, nI_add, n_mul, n_01, ↓reduceIte, if_true, if_false, eq_self, true_or, or_true, and_self, and_true, true_and, Nat.reduceAdd, Nat.reduceMul, Nat.reduceLeDiff, Nat.zero_le, not_true_eq_false, not_false_eq_true, cat2_n, cat2_i, cat2_r, ws_0, ws_i, ws_r, ws_l, ws_d, aftr_n, aftr_s, bI_ok, bI_t, bI_f, up_s, up_n, n_bit, decide_true, decide_false, Bool.not_true, Bool.not_false, Bool.and_true, Bool.true_and, Bool.false_and, Bool.and_false, va_rf_s, n_nlt0, k_0, k_67, k_68, k_465, k_466, k_467, k_468, k_469, k_470, k_471, k_472, k_565, r_0_0, r_0_1, r_0_2, r_0_3, r_0_4, r_0_5, r_67_0, r_465_0, r_467_0, r_467_2, r_470_0, r_470_1, va_rf_s, n_neg_t, n_neg_f, k_0, k_67, k_68, k_465, k_466, k_467, k_468, k_469, k_470, k_471, k_472, k_565, r_0_0, r_0_1, r_0_2, r_0_3, r_0_4, r_0_5, r_67_0, r_465_0, r_467_0, r_467_2, r_470_0, r_470_1, va_rf_s]
      exact hq
    · rw [hq1] at hq ⊢
      refine (?_ : aftr (X z) mT 193 3 _ _ _ Q (.inr 1) _)
      rw [a193_1]
      intro qq
      simp (disch := omega) only [v193_14, v193_15, v193_16, n_cl, n_in_t, n_lt_t, n_lt_f, n_eq_t, n_eq_f, n_sub, nI_add, n_mul, n_01, ↓reduceIte, if_true, if_false, eq_self, true_or, or_true, and_self, and_true, true_and, Nat.reduceAdd, Nat.reduceMul, Nat.reduceLeDiff, Nat.zero_le, not_true_eq_false, not_false_eq_true, cat2_n, cat2_i, cat2_r, ws_0, ws_i, ws_r, ws_l, ws_d, aftr_n, aftr_s, bI_ok, bI_t, bI_f, up_s, up_n, n_bit, decide_true, decide_false, Bool.not_true, Bool.not_false, Bool.and_true, Bool.true_and, Bool.false_and, Bool.and_false, va_rf_s, n_nlt0, k_0, k_67, k_68, k_465, k_466, k_467, k_468, k_469, k_470, k_471, k_472, k_565, r_0_0, r_0_1, r_0_2, r_0_3, r_0_4, r_0_5, r_67_0, r_465_0, r_467_0, r_467_2, r_470_0, r_470_1, va_rf_s, n_neg_t, n_neg_f, k_0, k_67, k_68, k_465, k_466, k_467, k_468, k_469, k_470, k_471, k_472, k_565, r_0_0, r_0_1, r_0_2, r_0_3, r_0_4, r_0_5, r_67_0, r_465_0, r_467_0, r_467_2, r_470_0, r_470_1, va_rf_s]
      exact hq
theorem o194 {w : Wd} : (opTake w).1 ≤ 1 := by
  unfold opTake
  repeat' split
  all_goals (dsimp only; omega)
theorem a194_0 {ls : Lcs} {rest : List Value} {cu : Nat × Nat} {σ : Mem} : aftr (X z) mT 194 3 ls rest cu Q (.inr 0) σ = ∀ q : Nat, X z 194 11 ls [.ref q] cu σ Q := rfl
set_option maxHeartbeats 4000000 in
theorem c194 (hw : CSt b I q (A, n, H, B)) (hg : GoodW (A, n, H, B)) (hQ : LQ Q KL RL L sz ex b I q (opTake (A, n, H, B))) : X z 194 0 [some (.ref (ad b 0)), some (.ref (ad b 577)), none] [] (0, 0) (KAt KL b, I, RAt RL b q, L, sz, ex) Q := by
  have ol := o194 (w := (A, n, H, B))
  simp (disch := omega) only [v194_0, v194_1, v194_2, u194_3, n_cl, n_in_t, n_lt_t, n_lt_f, n_eq_t, n_eq_f, n_sub, nI_add, n_mul, n_01, ↓reduceIte, if_true, if_false, eq_self, true_or, or_true, and_self, and_true, true_and, Nat.reduceAdd, Nat.reduceMul, Nat.reduceLeDiff, Nat.zero_le, not_true_eq_false, not_false_eq_true, cat2_n, cat2_i, cat2_r, ws_0, ws_i, ws_r, ws_l, ws_d, aftr_n, aftr_s, bI_ok, bI_t, bI_f, up_s, up_n, n_bit, decide_true, decide_false, Bool.not_true, Bool.not_false, Bool.and_true, Bool.true_and, Bool.false_and, Bool.and_false, va_rf_s, n_nlt0, k_0, k_67, k_68, k_465, k_466, k_467, k_468, k_469, k_470, k_471, k_472, k_565, r_0_0, r_0_1, r_0_2, r_0_3, r_0_4, r_0_5, r_67_0, r_465_0, r_467_0, r_467_2, r_470_0, r_470_1, va_rf_s, n_neg_t, n_neg_f, k_0, k_67, k_68, k_465, k_466, k_467, k_468, k_469, k_470, k_471, k_472, k_565, r_0_0, r_0_1, r_0_2, r_0_3, r_0_4, r_0_5, r_67_0, r_465_0, r_467_0, r_467_2, r_470_0, r_470_1, va_rf_s]
  refine c60  hw hg ⟨fun e0 I1 q1 w1 g1 => ?_, fun e0 I1 w1 g1 => ?_⟩
  · simp (disch := omega) only [v194_6, v194_7, v194_8, v194_11, v194_12, v194_13, v194_14, v194_15, n_cl, n_in_t, n_lt_t, n_lt_f, n_eq_t, n_eq_f, n_sub, nI_add, n_mul, n_01, ↓reduceIte, if_true, if_false, eq_self, true_or, or_true, and_self, and_true, true_and, Nat.reduceAdd, Nat.reduceMul, Nat.reduceLeDiff, Nat.zero_le, not_true_eq_false, not_false_eq_true, cat2_n, cat2_i, cat2_r, ws_0, ws_i, ws_r, ws_l, ws_d, aftr_n, aftr_s, bI_ok, bI_t, bI_f, up_s, up_n, n_bit, decide_true, decide_false, Bool.not_true, Bool.not_false, Bool.and_true, Bool.true_and, Bool.false_and, Bool.and_false, va_rf_s, n_nlt0, k_0, k_67, k_68, k_465, k_466, k_467, k_468, k_469, k_470, k_471, k_472, k_565, r_0_0, r_0_1, r_0_2, r_0_3, r_0_4, r_0_5, r_67_0, r_465_0, r_467_0, r_467_2, r_470_0, r_470_1, va_rf_s, n_neg_t, n_neg_f, k_0, k_67, k_68, k_465, k_466, k_467, k_468, k_469, k_470, k_471, k_472, k_565, r_0_0, r_0_1, r_0_2, r_0_3, r_0_4, r_0_5, r_67_0, r_465_0, r_467_0, r_467_2, r_470_0, r_470_1, va_rf_s, k_577]
    exact hQ.1 e0 I1 q1 w1 g1
  · have hq := hQ.2 e0 I1 w1 g1
    have hq1 : (opTake (A, n, H, B)).1 = 1 := by omega
    · rw [hq1] at hq ⊢
      refine (?_ : aftr (X z) mT 194 3 _ _ _ Q (.inr 0) _)
      rw [a194_0]
      intro qq
      simp (disch := omega) only [v194_11, v194_12, v194_13, n_cl, n_in_t, n_lt_t, n_lt_f, n_eq_t, n_eq_f, n_sub, nI_add, n_mul, n_01, ↓reduceIte, if_true, if_false, eq_self, true_or, or_true, and_self, and_true, true_and, Nat.reduceAdd, Nat.reduceMul, Nat.reduceLeDiff, Nat.zero_le, not_true_eq_false, not_false_eq_true, cat2_n, cat2_i, cat2_r, ws_0, ws_i, ws_r, ws_l, ws_d, aftr_n, aftr_s, bI_ok, bI_t, bI_f, up_s, up_n, n_bit, decide_true, decide_false, Bool.not_true, Bool.not_false, Bool.and_true, Bool.true_and, Bool.false_and, Bool.and_false, va_rf_s, n_nlt0, k_0, k_67, k_68, k_465, k_466, k_467, k_468, k_469, k_470, k_471, k_472, k_565, r_0_0, r_0_1, r_0_2, r_0_3, r_0_4, r_0_5, r_67_0, r_465_0, r_467_0, r_467_2, r_470_0, r_470_1, va_rf_s, n_neg_t, n_neg_f, k_0, k_67, k_68, k_465, k_466, k_467, k_468, k_469, k_470, k_471, k_472, k_565, r_0_0, r_0_1, r_0_2, r_0_3, r_0_4, r_0_5, r_67_0, r_465_0, r_467_0, r_467_2, r_470_0, r_470_1, va_rf_s]
      exact hq
theorem o195 {w : Wd} {a f : Nat} : (opMove w a f).1 ≤ 2 := by
  unfold opMove
  repeat' split
  all_goals (dsimp only; omega)
theorem a195_2 {ls : Lcs} {rest : List Value} {cu : Nat × Nat} {σ : Mem} : aftr (X z) mT 195 5 ls rest cu Q (.inr 2) σ = ∀ q : Nat, X z 195 13 ls [.ref q] cu σ Q := rfl
theorem a195_0 {ls : Lcs} {rest : List Value} {cu : Nat × Nat} {σ : Mem} : aftr (X z) mT 195 5 ls rest cu Q (.inr 0) σ = ∀ q : Nat, X z 195 17 ls [.ref q] cu σ Q := rfl
set_option maxHeartbeats 4000000 in
theorem c195 {a f : Nat} (ha : a < 4294967296) (hf : f < 4294967296) (hw : CSt b I q (A, n, H, B)) (hg : GoodW (A, n, H, B)) (hQ : LQ Q KL RL L sz ex b I q (opMove (A, n, H, B) a f)) : X z 195 0 [some (.ref (ad b 0)), some (.int (nI a)), some (.int (nI f)), some (.ref (ad b 577)), none] [] (0, 0) (KAt KL b, I, RAt RL b q, L, sz, ex) Q := by
  have ol := o195 (w := (A, n, H, B)) (a := a) (f := f)
  simp (disch := omega) only [v195_0, v195_1, v195_2, v195_3, v195_4, u195_5, n_cl, n_in_t, n_lt_t, n_lt_f, n_eq_t, n_eq_f, n_sub, nI_add, n_mul, n_01, ↓reduceIte, if_true, if_false, eq_self, true_or, or_true, and_self, and_true, true_and, Nat.reduceAdd, Nat.reduceMul, Nat.reduceLeDiff, Nat.zero_le, not_true_eq_false, not_false_eq_true, cat2_n, cat2_i, cat2_r, ws_0, ws_i, ws_r, ws_l, ws_d, aftr_n, aftr_s, bI_ok, bI_t, bI_f, up_s, up_n, n_bit, decide_true, decide_false, Bool.not_true, Bool.not_false, Bool.and_true, Bool.true_and, Bool.false_and, Bool.and_false, va_rf_s, n_nlt0, k_0, k_67, k_68, k_465, k_466, k_467, k_468, k_469, k_470, k_471, k_472, k_565, r_0_0, r_0_1, r_0_2, r_0_3, r_0_4, r_0_5, r_67_0, r_465_0, r_467_0, r_467_2, r_470_0, r_470_1, va_rf_s, n_neg_t, n_neg_f, k_0, k_67, k_68, k_465, k_466, k_467, k_468, k_469, k_470, k_471, k_472, k_565, r_0_0, r_0_1, r_0_2, r_0_3, r_0_4, r_0_5, r_67_0, r_465_0, r_467_0, r_467_2, r_470_0, r_470_1, va_rf_s]
  refine c61 ha hf hw hg ⟨fun e0 I1 q1 w1 g1 => ?_, fun e0 I1 w1 g1 => ?_⟩
  · simp (disch := omega) only [v195_8, v195_9, v195_10, v195_13, v195_15, v195_16, v195_17, v195_19, v195_20, v195_21, v195_22, n_cl, n_in_t, n_lt_t, n_lt_f, n_eq_t, n_eq_f, n_sub, nI_add, n_mul, n_01, ↓reduceIte, if_true, if_false, eq_self, true_or, or_true, and_self, and_true, true_and, Nat.reduceAdd, Nat.reduceMul, Nat.reduceLeDiff, Nat.zero_le, not_true_eq_false, not_false_eq_true, cat2_n, cat2_i, cat2_r, ws_0, ws_i, ws_r, ws_l, ws_d, aftr_n, aftr_s, bI_ok, bI_t, bI_f, up_s, up_n, n_bit, decide_true, decide_false, Bool.not_true, Bool.not_false, Bool.and_true, Bool.true_and, Bool.false_and, Bool.and_false, va_rf_s, n_nlt0, k_0, k_67, k_68, k_465, k_466, k_467, k_468, k_469, k_470, k_471, k_472, k_565, r_0_0, r_0_1, r_0_2, r_0_3, r_0_4, r_0_5, r_67_0, r_465_0, r_467_0, r_467_2, r_470_0, r_470_1, va_rf_s, n_neg_t, n_neg_f, k_0, k_67, k_68, k_465, k_466, k_467, k_468, k_469, k_470, k_471, k_472, k_565, r_0_0, r_0_1, r_0_2, r_0_3, r_0_4, r_0_5, r_67_0, r_465_0, r_467_0, r_467_2, r_470_0, r_470_1, va_rf_s, k_577]
    exact hQ.1 e0 I1 q1 w1 g1
  · have hq := hQ.2 e0 I1 w1 g1
    rcases (show (opMove (A, n, H, B) a f).1 = 1 ∨ (opMove (A, n, H, B) a f).1 = 2 by omega) with hq1 | hq1
    · rw [hq1] at hq ⊢
      refine (?_ : aftr (X z) mT 195 5 _ _ _ Q (.inr 2) _)
      rw [a195_2]
      intro qq
      simp (disch := omega) only [v195_13, v195_15, v195_16, n_cl, n_in_t, n_lt_t, n_lt_f, n_eq_t, n_eq_f, n_sub, nI_add, n_mul, n_01, ↓reduceIte, if_true, if_false, eq_self, true_or, or_true, and_self, and_true, true_and, Nat.reduceAdd, Nat.reduceMul, Nat.reduceLeDiff, Nat.zero_le, not_true_eq_false, not_false_eq_true, cat2_n, cat2_i, cat2_r, ws_0, ws_i, ws_r, ws_l, ws_d, aftr_n, aftr_s, bI_ok, bI_t, bI_f, up_s, up_n, n_bit, decide_true, decide_false, Bool.not_true, Bool.not_false, Bool.and_true, Bool.true_and, Bool.false_and, Bool.and_false, va_rf_s, n_nlt0, k_0, k_67, k_68, k_465, k_466, k_467, k_468, k_469, k_470, k_471, k_472, k_565, r_0_0, r_0_1, r_0_2, r_0_3, r_0_4, r_0_5, r_67_0, r_465_0, r_467_0, r_467_2, r_470_0, r_470_1, va_rf_s, n_neg_t, n_neg_f, k_0, k_67, k_68, k_465, k_466, k_467, k_468, k_469, k_470, k_471, k_472, k_565, r_0_0, r_0_1, r_0_2, r_0_3, r_0_4, r_0_5, r_67_0, r_465_0, r_467_0, r_467_2, r_470_0, r_470_1, va_rf_s]
      exact hq
    · rw [hq1] at hq ⊢
      refine (?_ : aftr (X z) mT 195 5 _ _ _ Q (.inr 0) _)
      rw [a195_0]
      intro qq
      simp (disch := omega) only [v195_17, v195_19, v195_20, n_cl, n_in_t, n_lt_t, n_lt_f, n_eq_t, n_eq_f, n_sub, nI_add, n_mul, n_01, ↓reduceIte, if_true, if_false, eq_self, true_or, or_true, and_self, and_true, true_and, Nat.reduceAdd, Nat.reduceMul, Nat.reduceLeDiff, Nat.zero_le, not_true_eq_false, not_false_eq_true, cat2_n, cat2_i, cat2_r, ws_0, ws_i, ws_r, ws_l, ws_d, aftr_n, aftr_s, bI_ok, bI_t, bI_f, up_s, up_n, n_bit, decide_true, decide_false, Bool.not_true, Bool.not_false, Bool.and_true, Bool.true_and, Bool.false_and, Bool.and_false, va_rf_s, n_nlt0, k_0, k_67, k_68, k_465, k_466, k_467, k_468, k_469, k_470, k_471, k_472, k_565, r_0_0, r_0_1, r_0_2, r_0_3, r_0_4, r_0_5, r_67_0, r_465_0, r_467_0, r_467_2, r_470_0, r_470_1, va_rf_s, n_neg_t, n_neg_f, k_0, k_67, k_68, k_465, k_466, k_467, k_468, k_469, k_470, k_471, k_472, k_565, r_0_0, r_0_1, r_0_2, r_0_3, r_0_4, r_0_5, r_67_0, r_465_0, r_467_0, r_467_2, r_470_0, r_470_1, va_rf_s]
      exact hq
theorem o196 {w : Wd} {a f : Nat} : (opGive w a f).1 ≤ 1 := by
  unfold opGive
  repeat' split
  all_goals (dsimp only; omega)
theorem a196_2 {ls : Lcs} {rest : List Value} {cu : Nat × Nat} {σ : Mem} : aftr (X z) mT 196 5 ls rest cu Q (.inr 2) σ = ∀ q : Nat, X z 196 13 ls [.ref q] cu σ Q := rfl
set_option maxHeartbeats 4000000 in
theorem c196 {a f : Nat} (ha : a < 4294967296) (hf : f < 4294967296) (hw : CSt b I q (A, n, H, B)) (hg : GoodW (A, n, H, B)) (hQ : LQ Q KL RL L sz ex b I q (opGive (A, n, H, B) a f)) : X z 196 0 [some (.ref (ad b 0)), some (.int (nI a)), some (.int (nI f)), some (.ref (ad b 577)), none] [] (0, 0) (KAt KL b, I, RAt RL b q, L, sz, ex) Q := by
  have ol := o196 (w := (A, n, H, B)) (a := a) (f := f)
  simp (disch := omega) only [v196_0, v196_1, v196_2, v196_3, v196_4, u196_5, n_cl, n_in_t, n_lt_t, n_lt_f, n_eq_t, n_eq_f, n_sub, nI_add, n_mul, n_01, ↓reduceIte, if_true, if_false, eq_self, true_or, or_true, and_self, and_true, true_and, Nat.reduceAdd, Nat.reduceMul, Nat.reduceLeDiff, Nat.zero_le, not_true_eq_false, not_false_eq_true, cat2_n, cat2_i, cat2_r, ws_0, ws_i, ws_r, ws_l, ws_d, aftr_n, aftr_s, bI_ok, bI_t, bI_f, up_s, up_n, n_bit, decide_true, decide_false, Bool.not_true, Bool.not_false, Bool.and_true, Bool.true_and, Bool.false_and, Bool.and_false, va_rf_s, n_nlt0, k_0, k_67, k_68, k_465, k_466, k_467, k_468, k_469, k_470, k_471, k_472, k_565, r_0_0, r_0_1, r_0_2, r_0_3, r_0_4, r_0_5, r_67_0, r_465_0, r_467_0, r_467_2, r_470_0, r_470_1, va_rf_s, n_neg_t, n_neg_f, k_0, k_67, k_68, k_465, k_466, k_467, k_468, k_469, k_470, k_471, k_472, k_565, r_0_0, r_0_1, r_0_2, r_0_3, r_0_4, r_0_5, r_67_0, r_465_0, r_467_0, r_467_2, r_470_0, r_470_1, va_rf_s]
  refine c62 ha hf hw hg ⟨fun e0 I1 q1 w1 g1 => ?_, fun e0 I1 w1 g1 => ?_⟩
  · simp (disch := omega) only [v196_8, v196_9, v196_10, v196_13, v196_15, v196_16, v196_17, v196_18, n_cl, n_in_t, n_lt_t, n_lt_f, n_eq_t, n_eq_f, n_sub, nI_add, n_mul, n_01, ↓reduceIte, if_true, if_false, eq_self, true_or, or_true, and_self, and_true, true_and, Nat.reduceAdd, Nat.reduceMul, Nat.reduceLeDiff, Nat.zero_le, not_true_eq_false, not_false_eq_true, cat2_n, cat2_i, cat2_r, ws_0, ws_i, ws_r, ws_l, ws_d, aftr_n, aftr_s, bI_ok, bI_t, bI_f, up_s, up_n, n_bit, decide_true, decide_false, Bool.not_true, Bool.not_false, Bool.and_true, Bool.true_and, Bool.false_and, Bool.and_false, va_rf_s, n_nlt0, k_0, k_67, k_68, k_465, k_466, k_467, k_468, k_469, k_470, k_471, k_472, k_565, r_0_0, r_0_1, r_0_2, r_0_3, r_0_4, r_0_5, r_67_0, r_465_0, r_467_0, r_467_2, r_470_0, r_470_1, va_rf_s, n_neg_t, n_neg_f, k_0, k_67, k_68, k_465, k_466, k_467, k_468, k_469, k_470, k_471, k_472, k_565, r_0_0, r_0_1, r_0_2, r_0_3, r_0_4, r_0_5, r_67_0, r_465_0, r_467_0, r_467_2, r_470_0, r_470_1, va_rf_s, k_577]
    exact hQ.1 e0 I1 q1 w1 g1
  · have hq := hQ.2 e0 I1 w1 g1
    have hq1 : (opGive (A, n, H, B) a f).1 = 1 := by omega
    · rw [hq1] at hq ⊢
      refine (?_ : aftr (X z) mT 196 5 _ _ _ Q (.inr 2) _)
      rw [a196_2]
      intro qq
      simp (disch := omega) only [v196_13, v196_15, v196_16, n_cl, n_in_t, n_lt_t, n_lt_f, n_eq_t, n_eq_f, n_sub, nI_add, n_mul, n_01, ↓reduceIte, if_true, if_false, eq_self, true_or, or_true, and_self, and_true, true_and, Nat.reduceAdd, Nat.reduceMul, Nat.reduceLeDiff, Nat.zero_le, not_true_eq_false, not_false_eq_true, cat2_n, cat2_i, cat2_r, ws_0, ws_i, ws_r, ws_l, ws_d, aftr_n, aftr_s, bI_ok, bI_t, bI_f, up_s, up_n, n_bit, decide_true, decide_false, Bool.not_true, Bool.not_false, Bool.and_true, Bool.true_and, Bool.false_and, Bool.and_false, va_rf_s, n_nlt0, k_0, k_67, k_68, k_465, k_466, k_467, k_468, k_469, k_470, k_471, k_472, k_565, r_0_0, r_0_1, r_0_2, r_0_3, r_0_4, r_0_5, r_67_0, r_465_0, r_467_0, r_467_2, r_470_0, r_470_1, va_rf_s, n_neg_t, n_neg_f, k_0, k_67, k_68, k_465, k_466, k_467, k_468, k_469, k_470, k_471, k_472, k_565, r_0_0, r_0_1, r_0_2, r_0_3, r_0_4, r_0_5, r_67_0, r_465_0, r_467_0, r_467_2, r_470_0, r_470_1, va_rf_s]
      exact hq
theorem o197 {w : Wd} {a f : Nat} : (opUns w a f).1 ≤ 1 := by
  unfold opUns
  repeat' split
  all_goals (dsimp only; omega)
theorem a197_2 {ls : Lcs} {rest : List Value} {cu : Nat × Nat} {σ : Mem} : aftr (X z) mT 197 5 ls rest cu Q (.inr 2) σ = ∀ q : Nat, X z 197 13 ls [.ref q] cu σ Q := rfl
set_option maxHeartbeats 4000000 in
theorem c197 {a f : Nat} (ha : a < 4294967296) (hf : f ≤ 1) (hw : CSt b I q (A, n, H, B)) (hg : GoodW (A, n, H, B)) (hQ : LQ Q KL RL L sz ex b I q (opUns (A, n, H, B) a f)) : X z 197 0 [some (.ref (ad b 0)), some (.int (nI a)), some (.int (nI f)), some (.ref (ad b 577)), none] [] (0, 0) (KAt KL b, I, RAt RL b q, L, sz, ex) Q := by
  have ol := o197 (w := (A, n, H, B)) (a := a) (f := f)
  simp (disch := omega) only [v197_0, v197_1, v197_2, v197_3, v197_4, u197_5, n_cl, n_in_t, n_lt_t, n_lt_f, n_eq_t, n_eq_f, n_sub, nI_add, n_mul, n_01, ↓reduceIte, if_true, if_false, eq_self, true_or, or_true, and_self, and_true, true_and, Nat.reduceAdd, Nat.reduceMul, Nat.reduceLeDiff, Nat.zero_le, not_true_eq_false, not_false_eq_true, cat2_n, cat2_i, cat2_r, ws_0, ws_i, ws_r, ws_l, ws_d, aftr_n, aftr_s, bI_ok, bI_t, bI_f, up_s, up_n, n_bit, decide_true, decide_false, Bool.not_true, Bool.not_false, Bool.and_true, Bool.true_and, Bool.false_and, Bool.and_false, va_rf_s, n_nlt0, k_0, k_67, k_68, k_465, k_466, k_467, k_468, k_469, k_470, k_471, k_472, k_565, r_0_0, r_0_1, r_0_2, r_0_3, r_0_4, r_0_5, r_67_0, r_465_0, r_467_0, r_467_2, r_470_0, r_470_1, va_rf_s, n_neg_t, n_neg_f, k_0, k_67, k_68, k_465, k_466, k_467, k_468, k_469, k_470, k_471, k_472, k_565, r_0_0, r_0_1, r_0_2, r_0_3, r_0_4, r_0_5, r_67_0, r_465_0, r_467_0, r_467_2, r_470_0, r_470_1, va_rf_s]
  refine c63 ha hf hw hg ⟨fun e0 I1 q1 w1 g1 => ?_, fun e0 I1 w1 g1 => ?_⟩
  · simp (disch := omega) only [v197_8, v197_9, v197_10, v197_13, v197_15, v197_16, v197_17, v197_18, n_cl, n_in_t, n_lt_t, n_lt_f, n_eq_t, n_eq_f, n_sub, nI_add, n_mul, n_01, ↓reduceIte, if_true, if_false, eq_self, true_or, or_true, and_self, and_true, true_and, Nat.reduceAdd, Nat.reduceMul, Nat.reduceLeDiff, Nat.zero_le, not_true_eq_false, not_false_eq_true, cat2_n, cat2_i, cat2_r, ws_0, ws_i, ws_r, ws_l, ws_d, aftr_n, aftr_s, bI_ok, bI_t, bI_f, up_s, up_n, n_bit, decide_true, decide_false, Bool.not_true, Bool.not_false, Bool.and_true, Bool.true_and, Bool.false_and, Bool.and_false, va_rf_s, n_nlt0, k_0, k_67, k_68, k_465, k_466, k_467, k_468, k_469, k_470, k_471, k_472, k_565, r_0_0, r_0_1, r_0_2, r_0_3, r_0_4, r_0_5, r_67_0, r_465_0, r_467_0, r_467_2, r_470_0, r_470_1, va_rf_s, n_neg_t, n_neg_f, k_0, k_67, k_68, k_465, k_466, k_467, k_468, k_469, k_470, k_471, k_472, k_565, r_0_0, r_0_1, r_0_2, r_0_3, r_0_4, r_0_5, r_67_0, r_465_0, r_467_0, r_467_2, r_470_0, r_470_1, va_rf_s, k_577]
    exact hQ.1 e0 I1 q1 w1 g1
  · have hq := hQ.2 e0 I1 w1 g1
    have hq1 : (opUns (A, n, H, B) a f).1 = 1 := by omega
    · rw [hq1] at hq ⊢
      refine (?_ : aftr (X z) mT 197 5 _ _ _ Q (.inr 2) _)
      rw [a197_2]
      intro qq
      simp (disch := omega) only [v197_13, v197_15, v197_16, n_cl, n_in_t, n_lt_t, n_lt_f, n_eq_t, n_eq_f, n_sub, nI_add, n_mul, n_01, ↓reduceIte, if_true, if_false, eq_self, true_or, or_true, and_self, and_true, true_and, Nat.reduceAdd, Nat.reduceMul, Nat.reduceLeDiff, Nat.zero_le, not_true_eq_false, not_false_eq_true, cat2_n, cat2_i, cat2_r, ws_0, ws_i, ws_r, ws_l, ws_d, aftr_n, aftr_s, bI_ok, bI_t, bI_f, up_s, up_n, n_bit, decide_true, decide_false, Bool.not_true, Bool.not_false, Bool.and_true, Bool.true_and, Bool.false_and, Bool.and_false, va_rf_s, n_nlt0, k_0, k_67, k_68, k_465, k_466, k_467, k_468, k_469, k_470, k_471, k_472, k_565, r_0_0, r_0_1, r_0_2, r_0_3, r_0_4, r_0_5, r_67_0, r_465_0, r_467_0, r_467_2, r_470_0, r_470_1, va_rf_s, n_neg_t, n_neg_f, k_0, k_67, k_68, k_465, k_466, k_467, k_468, k_469, k_470, k_471, k_472, k_565, r_0_0, r_0_1, r_0_2, r_0_3, r_0_4, r_0_5, r_67_0, r_465_0, r_467_0, r_467_2, r_470_0, r_470_1, va_rf_s]
      exact hq
theorem o198 {w : Wd} {a f : Nat} : (opSet w a f).1 ≤ 2 := by
  unfold opSet
  repeat' split
  all_goals (dsimp only; omega)
theorem a198_2 {ls : Lcs} {rest : List Value} {cu : Nat × Nat} {σ : Mem} : aftr (X z) mT 198 5 ls rest cu Q (.inr 2) σ = ∀ q : Nat, X z 198 13 ls [.ref q] cu σ Q := rfl
theorem a198_0 {ls : Lcs} {rest : List Value} {cu : Nat × Nat} {σ : Mem} : aftr (X z) mT 198 5 ls rest cu Q (.inr 0) σ = ∀ q : Nat, X z 198 17 ls [.ref q] cu σ Q := rfl
set_option maxHeartbeats 4000000 in
theorem c198 {a f : Nat} (ha : a < 4294967296) (hf : f < 4294967296) (hw : CSt b I q (A, n, H, B)) (hg : GoodW (A, n, H, B)) (hv0 : SV KL b I z) (hQ : LQ Q KL RL L sz ex b I q (opSet (A, n, H, B) a f)) : X z 198 0 [some (.ref (ad b 0)), some (.int (nI a)), some (.int (nI f)), some (.ref (ad b 577)), none] [] (0, 0) (KAt KL b, I, RAt RL b q, L, sz, ex) Q := by
  have ol := o198 (w := (A, n, H, B)) (a := a) (f := f)
  simp (disch := omega) only [v198_0, v198_1, v198_2, v198_3, v198_4, u198_5, n_cl, n_in_t, n_lt_t, n_lt_f, n_eq_t, n_eq_f, n_sub, nI_add, n_mul, n_01, ↓reduceIte, if_true, if_false, eq_self, true_or, or_true, and_self, and_true, true_and, Nat.reduceAdd, Nat.reduceMul, Nat.reduceLeDiff, Nat.zero_le, not_true_eq_false, not_false_eq_true, cat2_n, cat2_i, cat2_r, ws_0, ws_i, ws_r, ws_l, ws_d, aftr_n, aftr_s, bI_ok, bI_t, bI_f, up_s, up_n, n_bit, decide_true, decide_false, Bool.not_true, Bool.not_false, Bool.and_true, Bool.true_and, Bool.false_and, Bool.and_false, va_rf_s, n_nlt0, k_0, k_67, k_68, k_465, k_466, k_467, k_468, k_469, k_470, k_471, k_472, k_565, r_0_0, r_0_1, r_0_2, r_0_3, r_0_4, r_0_5, r_67_0, r_465_0, r_467_0, r_467_2, r_470_0, r_470_1, va_rf_s, n_neg_t, n_neg_f, k_0, k_67, k_68, k_465, k_466, k_467, k_468, k_469, k_470, k_471, k_472, k_565, r_0_0, r_0_1, r_0_2, r_0_3, r_0_4, r_0_5, r_67_0, r_465_0, r_467_0, r_467_2, r_470_0, r_470_1, va_rf_s]
  refine c64 ha hf hv0 hw hg ⟨fun e0 I1 q1 w1 g1 => ?_, fun e0 I1 w1 g1 => ?_⟩
  · simp (disch := omega) only [v198_8, v198_9, v198_10, v198_13, v198_15, v198_16, v198_17, v198_19, v198_20, v198_21, v198_22, n_cl, n_in_t, n_lt_t, n_lt_f, n_eq_t, n_eq_f, n_sub, nI_add, n_mul, n_01, ↓reduceIte, if_true, if_false, eq_self, true_or, or_true, and_self, and_true, true_and, Nat.reduceAdd, Nat.reduceMul, Nat.reduceLeDiff, Nat.zero_le, not_true_eq_false, not_false_eq_true, cat2_n, cat2_i, cat2_r, ws_0, ws_i, ws_r, ws_l, ws_d, aftr_n, aftr_s, bI_ok, bI_t, bI_f, up_s, up_n, n_bit, decide_true, decide_false, Bool.not_true, Bool.not_false, Bool.and_true, Bool.true_and, Bool.false_and, Bool.and_false, va_rf_s, n_nlt0, k_0, k_67, k_68, k_465, k_466, k_467, k_468, k_469, k_470, k_471, k_472, k_565, r_0_0, r_0_1, r_0_2, r_0_3, r_0_4, r_0_5, r_67_0, r_465_0, r_467_0, r_467_2, r_470_0, r_470_1, va_rf_s, n_neg_t, n_neg_f, k_0, k_67, k_68, k_465, k_466, k_467, k_468, k_469, k_470, k_471, k_472, k_565, r_0_0, r_0_1, r_0_2, r_0_3, r_0_4, r_0_5, r_67_0, r_465_0, r_467_0, r_467_2, r_470_0, r_470_1, va_rf_s, k_577]
    exact hQ.1 e0 I1 q1 w1 g1
  · have hq := hQ.2 e0 I1 w1 g1
    rcases (show (opSet (A, n, H, B) a f).1 = 1 ∨ (opSet (A, n, H, B) a f).1 = 2 by omega) with hq1 | hq1
    · rw [hq1] at hq ⊢
      refine (?_ : aftr (X z) mT 198 5 _ _ _ Q (.inr 2) _)
      rw [a198_2]
      intro qq
      simp (disch := omega) only [v198_13, v198_15, v198_16, n_cl, n_in_t, n_lt_t, n_lt_f, n_eq_t, n_eq_f, n_sub, nI_add, n_mul, n_01, ↓reduceIte, if_true, if_false, eq_self, true_or, or_true, and_self, and_true, true_and, Nat.reduceAdd, Nat.reduceMul, Nat.reduceLeDiff, Nat.zero_le, not_true_eq_false, not_false_eq_true, cat2_n, cat2_i, cat2_r, ws_0, ws_i, ws_r, ws_l, ws_d, aftr_n, aftr_s, bI_ok, bI_t, bI_f, up_s, up_n, n_bit, decide_true, decide_false, Bool.not_true, Bool.not_false, Bool.and_true, Bool.true_and, Bool.false_and, Bool.and_false, va_rf_s, n_nlt0, k_0, k_67, k_68, k_465, k_466, k_467, k_468, k_469, k_470, k_471, k_472, k_565, r_0_0, r_0_1, r_0_2, r_0_3, r_0_4, r_0_5, r_67_0, r_465_0, r_467_0, r_467_2, r_470_0, r_470_1, va_rf_s, n_neg_t, n_neg_f, k_0, k_67, k_68, k_465, k_466, k_467, k_468, k_469, k_470, k_471, k_472, k_565, r_0_0, r_0_1, r_0_2, r_0_3, r_0_4, r_0_5, r_67_0, r_465_0, r_467_0, r_467_2, r_470_0, r_470_1, va_rf_s]
      exact hq
    · rw [hq1] at hq ⊢
      refine (?_ : aftr (X z) mT 198 5 _ _ _ Q (.inr 0) _)
      rw [a198_0]
      intro qq
      simp (disch := omega) only [v198_17, v198_19, v198_20, n_cl, n_in_t, n_lt_t, n_lt_f, n_eq_t, n_eq_f, n_sub, nI_add, n_mul, n_01, ↓reduceIte, if_true, if_false, eq_self, true_or, or_true, and_self, and_true, true_and, Nat.reduceAdd, Nat.reduceMul, Nat.reduceLeDiff, Nat.zero_le, not_true_eq_false, not_false_eq_true, cat2_n, cat2_i, cat2_r, ws_0, ws_i, ws_r, ws_l, ws_d, aftr_n, aftr_s, bI_ok, bI_t, bI_f, up_s, up_n, n_bit, decide_true, decide_false, Bool.not_true, Bool.not_false, Bool.and_true, Bool.true_and, Bool.false_and, Bool.and_false, va_rf_s, n_nlt0, k_0, k_67, k_68, k_465, k_466, k_467, k_468, k_469, k_470, k_471, k_472, k_565, r_0_0, r_0_1, r_0_2, r_0_3, r_0_4, r_0_5, r_67_0, r_465_0, r_467_0, r_467_2, r_470_0, r_470_1, va_rf_s, n_neg_t, n_neg_f, k_0, k_67, k_68, k_465, k_466, k_467, k_468, k_469, k_470, k_471, k_472, k_565, r_0_0, r_0_1, r_0_2, r_0_3, r_0_4, r_0_5, r_67_0, r_465_0, r_467_0, r_467_2, r_470_0, r_470_1, va_rf_s]
      exact hq
theorem o199 {w : Wd} : (opSend w).1 ≤ 1 := by
  unfold opSend
  repeat' split
  all_goals (dsimp only; omega)
theorem a199_1 {ls : Lcs} {rest : List Value} {cu : Nat × Nat} {σ : Mem} : aftr (X z) mT 199 3 ls rest cu Q (.inr 1) σ = ∀ q : Nat, X z 199 11 ls [.ref q] cu σ Q := rfl
set_option maxHeartbeats 4000000 in
theorem c199 (hw : CSt b I q (A, n, H, B)) (hg : GoodW (A, n, H, B)) (hm : Sm A) (hz : SZ KL RL b I z) (hQ : LQ Q KL RL L sz ex b I q (opSend (A, n, H, B))) : X z 199 0 [some (.ref (ad b 0)), some (.ref (ad b 577)), none] [] (0, 0) (KAt KL b, I, RAt RL b q, L, sz, ex) Q := by
  have ol := o199 (w := (A, n, H, B))
  simp (disch := omega) only [v199_0, v199_1, v199_2, u199_3, n_cl, n_in_t, n_lt_t, n_lt_f, n_eq_t, n_eq_f, n_sub, nI_add, n_mul, n_01, ↓reduceIte, if_true, if_false, eq_self, true_or, or_true, and_self, and_true, true_and, Nat.reduceAdd, Nat.reduceMul, Nat.reduceLeDiff, Nat.zero_le, not_true_eq_false, not_false_eq_true, cat2_n, cat2_i, cat2_r, ws_0, ws_i, ws_r, ws_l, ws_d, aftr_n, aftr_s, bI_ok, bI_t, bI_f, up_s, up_n, n_bit, decide_true, decide_false, Bool.not_true, Bool.not_false, Bool.and_true, Bool.true_and, Bool.false_and, Bool.and_false, va_rf_s, n_nlt0, k_0, k_67, k_68, k_465, k_466, k_467, k_468, k_469, k_470, k_471, k_472, k_565, r_0_0, r_0_1, r_0_2, r_0_3, r_0_4, r_0_5, r_67_0, r_465_0, r_467_0, r_467_2, r_470_0, r_470_1, va_rf_s, n_neg_t, n_neg_f, k_0, k_67, k_68, k_465, k_466, k_467, k_468, k_469, k_470, k_471, k_472, k_565, r_0_0, r_0_1, r_0_2, r_0_3, r_0_4, r_0_5, r_67_0, r_465_0, r_467_0, r_467_2, r_470_0, r_470_1, va_rf_s]
  refine c65  hw hg hm hz ⟨fun e0 I1 q1 w1 g1 => ?_, fun e0 I1 w1 g1 => ?_⟩
  · simp (disch := omega) only [v199_6, v199_7, v199_8, v199_11, v199_12, v199_13, v199_14, v199_15, n_cl, n_in_t, n_lt_t, n_lt_f, n_eq_t, n_eq_f, n_sub, nI_add, n_mul, n_01, ↓reduceIte, if_true, if_false, eq_self, true_or, or_true, and_self, and_true, true_and, Nat.reduceAdd, Nat.reduceMul, Nat.reduceLeDiff, Nat.zero_le, not_true_eq_false, not_false_eq_true, cat2_n, cat2_i, cat2_r, ws_0, ws_i, ws_r, ws_l, ws_d, aftr_n, aftr_s, bI_ok, bI_t, bI_f, up_s, up_n, n_bit, decide_true, decide_false, Bool.not_true, Bool.not_false, Bool.and_true, Bool.true_and, Bool.false_and, Bool.and_false, va_rf_s, n_nlt0, k_0, k_67, k_68, k_465, k_466, k_467, k_468, k_469, k_470, k_471, k_472, k_565, r_0_0, r_0_1, r_0_2, r_0_3, r_0_4, r_0_5, r_67_0, r_465_0, r_467_0, r_467_2, r_470_0, r_470_1, va_rf_s, n_neg_t, n_neg_f, k_0, k_67, k_68, k_465, k_466, k_467, k_468, k_469, k_470, k_471, k_472, k_565, r_0_0, r_0_1, r_0_2, r_0_3, r_0_4, r_0_5, r_67_0, r_465_0, r_467_0, r_467_2, r_470_0, r_470_1, va_rf_s, k_577]
    exact hQ.1 e0 I1 q1 w1 g1
  · have hq := hQ.2 e0 I1 w1 g1
    have hq1 : (opSend (A, n, H, B)).1 = 1 := by omega
    · rw [hq1] at hq ⊢
      refine (?_ : aftr (X z) mT 199 3 _ _ _ Q (.inr 1) _)
      rw [a199_1]
      intro qq
      simp (disch := omega) only [v199_11, v199_12, v199_13, n_cl, n_in_t, n_lt_t, n_lt_f, n_eq_t, n_eq_f, n_sub, nI_add, n_mul, n_01, ↓reduceIte, if_true, if_false, eq_self, true_or, or_true, and_self, and_true, true_and, Nat.reduceAdd, Nat.reduceMul, Nat.reduceLeDiff, Nat.zero_le, not_true_eq_false, not_false_eq_true, cat2_n, cat2_i, cat2_r, ws_0, ws_i, ws_r, ws_l, ws_d, aftr_n, aftr_s, bI_ok, bI_t, bI_f, up_s, up_n, n_bit, decide_true, decide_false, Bool.not_true, Bool.not_false, Bool.and_true, Bool.true_and, Bool.false_and, Bool.and_false, va_rf_s, n_nlt0, k_0, k_67, k_68, k_465, k_466, k_467, k_468, k_469, k_470, k_471, k_472, k_565, r_0_0, r_0_1, r_0_2, r_0_3, r_0_4, r_0_5, r_67_0, r_465_0, r_467_0, r_467_2, r_470_0, r_470_1, va_rf_s, n_neg_t, n_neg_f, k_0, k_67, k_68, k_465, k_466, k_467, k_468, k_469, k_470, k_471, k_472, k_565, r_0_0, r_0_1, r_0_2, r_0_3, r_0_4, r_0_5, r_67_0, r_465_0, r_467_0, r_467_2, r_470_0, r_470_1, va_rf_s]
      exact hq
theorem o200 {w : Wd} {a : Nat} : (opPass w a).1 ≤ 2 := by
  unfold opPass
  repeat' split
  all_goals (dsimp only; omega)
theorem a200_0 {ls : Lcs} {rest : List Value} {cu : Nat × Nat} {σ : Mem} : aftr (X z) mT 200 4 ls rest cu Q (.inr 0) σ = ∀ q : Nat, X z 200 12 ls [.ref q] cu σ Q := rfl
theorem a200_1 {ls : Lcs} {rest : List Value} {cu : Nat × Nat} {σ : Mem} : aftr (X z) mT 200 4 ls rest cu Q (.inr 1) σ = ∀ q : Nat, X z 200 15 ls [.ref q] cu σ Q := rfl
set_option maxHeartbeats 4000000 in
theorem c200 {a : Nat} (ha : a < 4294967296) (hw : CSt b I q (A, n, H, B)) (hg : GoodW (A, n, H, B)) (hQ : LQ Q KL RL L sz ex b I q (opPass (A, n, H, B) a)) : X z 200 0 [some (.ref (ad b 0)), some (.int (nI a)), some (.ref (ad b 577)), none] [] (0, 0) (KAt KL b, I, RAt RL b q, L, sz, ex) Q := by
  have ol := o200 (w := (A, n, H, B)) (a := a)
  simp (disch := omega) only [v200_0, v200_1, v200_2, v200_3, u200_4, n_cl, n_in_t, n_lt_t, n_lt_f, n_eq_t, n_eq_f, n_sub, nI_add, n_mul, n_01, ↓reduceIte, if_true, if_false, eq_self, true_or, or_true, and_self, and_true, true_and, Nat.reduceAdd, Nat.reduceMul, Nat.reduceLeDiff, Nat.zero_le, not_true_eq_false, not_false_eq_true, cat2_n, cat2_i, cat2_r, ws_0, ws_i, ws_r, ws_l, ws_d, aftr_n, aftr_s, bI_ok, bI_t, bI_f, up_s, up_n, n_bit, decide_true, decide_false, Bool.not_true, Bool.not_false, Bool.and_true, Bool.true_and, Bool.false_and, Bool.and_false, va_rf_s, n_nlt0, k_0, k_67, k_68, k_465, k_466, k_467, k_468, k_469, k_470, k_471, k_472, k_565, r_0_0, r_0_1, r_0_2, r_0_3, r_0_4, r_0_5, r_67_0, r_465_0, r_467_0, r_467_2, r_470_0, r_470_1, va_rf_s, n_neg_t, n_neg_f, k_0, k_67, k_68, k_465, k_466, k_467, k_468, k_469, k_470, k_471, k_472, k_565, r_0_0, r_0_1, r_0_2, r_0_3, r_0_4, r_0_5, r_67_0, r_465_0, r_467_0, r_467_2, r_470_0, r_470_1, va_rf_s]
  refine c66 ha hw hg ⟨fun e0 I1 q1 w1 g1 => ?_, fun e0 I1 w1 g1 => ?_⟩
  · simp (disch := omega) only [v200_7, v200_8, v200_9, v200_12, v200_13, v200_14, v200_15, v200_16, v200_17, v200_18, v200_19, n_cl, n_in_t, n_lt_t, n_lt_f, n_eq_t, n_eq_f, n_sub, nI_add, n_mul, n_01, ↓reduceIte, if_true, if_false, eq_self, true_or, or_true, and_self, and_true, true_and, Nat.reduceAdd, Nat.reduceMul, Nat.reduceLeDiff, Nat.zero_le, not_true_eq_false, not_false_eq_true, cat2_n, cat2_i, cat2_r, ws_0, ws_i, ws_r, ws_l, ws_d, aftr_n, aftr_s, bI_ok, bI_t, bI_f, up_s, up_n, n_bit, decide_true, decide_false, Bool.not_true, Bool.not_false, Bool.and_true, Bool.true_and, Bool.false_and, Bool.and_false, va_rf_s, n_nlt0, k_0, k_67, k_68, k_465, k_466, k_467, k_468, k_469, k_470, k_471, k_472, k_565, r_0_0, r_0_1, r_0_2, r_0_3, r_0_4, r_0_5, r_67_0, r_465_0, r_467_0, r_467_2, r_470_0, r_470_1, va_rf_s, n_neg_t, n_neg_f, k_0, k_67, k_68, k_465, k_466, k_467, k_468, k_469, k_470, k_471, k_472, k_565, r_0_0, r_0_1, r_0_2, r_0_3, r_0_4, r_0_5, r_67_0, r_465_0, r_467_0, r_467_2, r_470_0, r_470_1, va_rf_s, k_577]
    exact hQ.1 e0 I1 q1 w1 g1
  · have hq := hQ.2 e0 I1 w1 g1
    rcases (show (opPass (A, n, H, B) a).1 = 1 ∨ (opPass (A, n, H, B) a).1 = 2 by omega) with hq1 | hq1
    · rw [hq1] at hq ⊢
      refine (?_ : aftr (X z) mT 200 4 _ _ _ Q (.inr 0) _)
      rw [a200_0]
      intro qq
      simp (disch := omega) only [v200_12, v200_13, v200_14, n_cl, n_in_t, n_lt_t, n_lt_f, n_eq_t, n_eq_f, n_sub, nI_add, n_mul, n_01, ↓reduceIte, if_true, if_false, eq_self, true_or, or_true, and_self, and_true, true_and, Nat.reduceAdd, Nat.reduceMul, Nat.reduceLeDiff, Nat.zero_le, not_true_eq_false, not_false_eq_true, cat2_n, cat2_i, cat2_r, ws_0, ws_i, ws_r, ws_l, ws_d, aftr_n, aftr_s, bI_ok, bI_t, bI_f, up_s, up_n, n_bit, decide_true, decide_false, Bool.not_true, Bool.not_false, Bool.and_true, Bool.true_and, Bool.false_and, Bool.and_false, va_rf_s, n_nlt0, k_0, k_67, k_68, k_465, k_466, k_467, k_468, k_469, k_470, k_471, k_472, k_565, r_0_0, r_0_1, r_0_2, r_0_3, r_0_4, r_0_5, r_67_0, r_465_0, r_467_0, r_467_2, r_470_0, r_470_1, va_rf_s, n_neg_t, n_neg_f, k_0, k_67, k_68, k_465, k_466, k_467, k_468, k_469, k_470, k_471, k_472, k_565, r_0_0, r_0_1, r_0_2, r_0_3, r_0_4, r_0_5, r_67_0, r_465_0, r_467_0, r_467_2, r_470_0, r_470_1, va_rf_s]
      exact hq
    · rw [hq1] at hq ⊢
      refine (?_ : aftr (X z) mT 200 4 _ _ _ Q (.inr 1) _)
      rw [a200_1]
      intro qq
      simp (disch := omega) only [v200_15, v200_16, v200_17, n_cl, n_in_t, n_lt_t, n_lt_f, n_eq_t, n_eq_f, n_sub, nI_add, n_mul, n_01, ↓reduceIte, if_true, if_false, eq_self, true_or, or_true, and_self, and_true, true_and, Nat.reduceAdd, Nat.reduceMul, Nat.reduceLeDiff, Nat.zero_le, not_true_eq_false, not_false_eq_true, cat2_n, cat2_i, cat2_r, ws_0, ws_i, ws_r, ws_l, ws_d, aftr_n, aftr_s, bI_ok, bI_t, bI_f, up_s, up_n, n_bit, decide_true, decide_false, Bool.not_true, Bool.not_false, Bool.and_true, Bool.true_and, Bool.false_and, Bool.and_false, va_rf_s, n_nlt0, k_0, k_67, k_68, k_465, k_466, k_467, k_468, k_469, k_470, k_471, k_472, k_565, r_0_0, r_0_1, r_0_2, r_0_3, r_0_4, r_0_5, r_67_0, r_465_0, r_467_0, r_467_2, r_470_0, r_470_1, va_rf_s, n_neg_t, n_neg_f, k_0, k_67, k_68, k_465, k_466, k_467, k_468, k_469, k_470, k_471, k_472, k_565, r_0_0, r_0_1, r_0_2, r_0_3, r_0_4, r_0_5, r_67_0, r_465_0, r_467_0, r_467_2, r_470_0, r_470_1, va_rf_s]
      exact hq
theorem o201 {w : Wd} {a : Nat} : (opApp w a).1 ≤ 2 := by
  unfold opApp
  repeat' split
  all_goals (dsimp only; omega)
theorem a201_0 {ls : Lcs} {rest : List Value} {cu : Nat × Nat} {σ : Mem} : aftr (X z) mT 201 4 ls rest cu Q (.inr 0) σ = ∀ q : Nat, X z 201 12 ls [.ref q] cu σ Q := rfl
theorem a201_1 {ls : Lcs} {rest : List Value} {cu : Nat × Nat} {σ : Mem} : aftr (X z) mT 201 4 ls rest cu Q (.inr 1) σ = ∀ q : Nat, X z 201 15 ls [.ref q] cu σ Q := rfl
set_option maxHeartbeats 4000000 in
theorem c201 {a : Nat} (ha : a < 4294967296) (hw : CSt b I q (A, n, H, B)) (hg : GoodW (A, n, H, B)) (hQ : LQ Q KL RL L sz ex b I q (opApp (A, n, H, B) a)) : X z 201 0 [some (.ref (ad b 0)), some (.int (nI a)), some (.ref (ad b 577)), none] [] (0, 0) (KAt KL b, I, RAt RL b q, L, sz, ex) Q := by
  have ol := o201 (w := (A, n, H, B)) (a := a)
  simp (disch := omega) only [v201_0, v201_1, v201_2, v201_3, u201_4, n_cl, n_in_t, n_lt_t, n_lt_f, n_eq_t, n_eq_f, n_sub, nI_add, n_mul, n_01, ↓reduceIte, if_true, if_false, eq_self, true_or, or_true, and_self, and_true, true_and, Nat.reduceAdd, Nat.reduceMul, Nat.reduceLeDiff, Nat.zero_le, not_true_eq_false, not_false_eq_true, cat2_n, cat2_i, cat2_r, ws_0, ws_i, ws_r, ws_l, ws_d, aftr_n, aftr_s, bI_ok, bI_t, bI_f, up_s, up_n, n_bit, decide_true, decide_false, Bool.not_true, Bool.not_false, Bool.and_true, Bool.true_and, Bool.false_and, Bool.and_false, va_rf_s, n_nlt0, k_0, k_67, k_68, k_465, k_466, k_467, k_468, k_469, k_470, k_471, k_472, k_565, r_0_0, r_0_1, r_0_2, r_0_3, r_0_4, r_0_5, r_67_0, r_465_0, r_467_0, r_467_2, r_470_0, r_470_1, va_rf_s, n_neg_t, n_neg_f, k_0, k_67, k_68, k_465, k_466, k_467, k_468, k_469, k_470, k_471, k_472, k_565, r_0_0, r_0_1, r_0_2, r_0_3, r_0_4, r_0_5, r_67_0, r_465_0, r_467_0, r_467_2, r_470_0, r_470_1, va_rf_s]
  refine c67 ha hw hg ⟨fun e0 I1 q1 w1 g1 => ?_, fun e0 I1 w1 g1 => ?_⟩
  · simp (disch := omega) only [v201_7, v201_8, v201_9, v201_12, v201_13, v201_14, v201_15, v201_16, v201_17, v201_18, v201_19, n_cl, n_in_t, n_lt_t, n_lt_f, n_eq_t, n_eq_f, n_sub, nI_add, n_mul, n_01, ↓reduceIte, if_true, if_false, eq_self, true_or, or_true, and_self, and_true, true_and, Nat.reduceAdd, Nat.reduceMul, Nat.reduceLeDiff, Nat.zero_le, not_true_eq_false, not_false_eq_true, cat2_n, cat2_i, cat2_r, ws_0, ws_i, ws_r, ws_l, ws_d, aftr_n, aftr_s, bI_ok, bI_t, bI_f, up_s, up_n, n_bit, decide_true, decide_false, Bool.not_true, Bool.not_false, Bool.and_true, Bool.true_and, Bool.false_and, Bool.and_false, va_rf_s, n_nlt0, k_0, k_67, k_68, k_465, k_466, k_467, k_468, k_469, k_470, k_471, k_472, k_565, r_0_0, r_0_1, r_0_2, r_0_3, r_0_4, r_0_5, r_67_0, r_465_0, r_467_0, r_467_2, r_470_0, r_470_1, va_rf_s, n_neg_t, n_neg_f, k_0, k_67, k_68, k_465, k_466, k_467, k_468, k_469, k_470, k_471, k_472, k_565, r_0_0, r_0_1, r_0_2, r_0_3, r_0_4, r_0_5, r_67_0, r_465_0, r_467_0, r_467_2, r_470_0, r_470_1, va_rf_s, k_577]
    exact hQ.1 e0 I1 q1 w1 g1
  · have hq := hQ.2 e0 I1 w1 g1
    rcases (show (opApp (A, n, H, B) a).1 = 1 ∨ (opApp (A, n, H, B) a).1 = 2 by omega) with hq1 | hq1
    · rw [hq1] at hq ⊢
      refine (?_ : aftr (X z) mT 201 4 _ _ _ Q (.inr 0) _)
      rw [a201_0]
      intro qq
      simp (disch := omega) only [v201_12, v201_13, v201_14, n_cl, n_in_t, n_lt_t, n_lt_f, n_eq_t, n_eq_f, n_sub, nI_add, n_mul, n_01, ↓reduceIte, if_true, if_false, eq_self, true_or, or_true, and_self, and_true, true_and, Nat.reduceAdd, Nat.reduceMul, Nat.reduceLeDiff, Nat.zero_le, not_true_eq_false, not_false_eq_true, cat2_n, cat2_i, cat2_r, ws_0, ws_i, ws_r, ws_l, ws_d, aftr_n, aftr_s, bI_ok, bI_t, bI_f, up_s, up_n, n_bit, decide_true, decide_false, Bool.not_true, Bool.not_false, Bool.and_true, Bool.true_and, Bool.false_and, Bool.and_false, va_rf_s, n_nlt0, k_0, k_67, k_68, k_465, k_466, k_467, k_468, k_469, k_470, k_471, k_472, k_565, r_0_0, r_0_1, r_0_2, r_0_3, r_0_4, r_0_5, r_67_0, r_465_0, r_467_0, r_467_2, r_470_0, r_470_1, va_rf_s, n_neg_t, n_neg_f, k_0, k_67, k_68, k_465, k_466, k_467, k_468, k_469, k_470, k_471, k_472, k_565, r_0_0, r_0_1, r_0_2, r_0_3, r_0_4, r_0_5, r_67_0, r_465_0, r_467_0, r_467_2, r_470_0, r_470_1, va_rf_s]
      exact hq
    · rw [hq1] at hq ⊢
      refine (?_ : aftr (X z) mT 201 4 _ _ _ Q (.inr 1) _)
      rw [a201_1]
      intro qq
      simp (disch := omega) only [v201_15, v201_16, v201_17, n_cl, n_in_t, n_lt_t, n_lt_f, n_eq_t, n_eq_f, n_sub, nI_add, n_mul, n_01, ↓reduceIte, if_true, if_false, eq_self, true_or, or_true, and_self, and_true, true_and, Nat.reduceAdd, Nat.reduceMul, Nat.reduceLeDiff, Nat.zero_le, not_true_eq_false, not_false_eq_true, cat2_n, cat2_i, cat2_r, ws_0, ws_i, ws_r, ws_l, ws_d, aftr_n, aftr_s, bI_ok, bI_t, bI_f, up_s, up_n, n_bit, decide_true, decide_false, Bool.not_true, Bool.not_false, Bool.and_true, Bool.true_and, Bool.false_and, Bool.and_false, va_rf_s, n_nlt0, k_0, k_67, k_68, k_465, k_466, k_467, k_468, k_469, k_470, k_471, k_472, k_565, r_0_0, r_0_1, r_0_2, r_0_3, r_0_4, r_0_5, r_67_0, r_465_0, r_467_0, r_467_2, r_470_0, r_470_1, va_rf_s, n_neg_t, n_neg_f, k_0, k_67, k_68, k_465, k_466, k_467, k_468, k_469, k_470, k_471, k_472, k_565, r_0_0, r_0_1, r_0_2, r_0_3, r_0_4, r_0_5, r_67_0, r_465_0, r_467_0, r_467_2, r_470_0, r_470_1, va_rf_s]
      exact hq
theorem o202 {w : Wd} {a : Nat} : (opErr w a).1 ≤ 1 := by
  unfold opErr
  repeat' split
  all_goals (dsimp only; omega)
theorem a202_0 {ls : Lcs} {rest : List Value} {cu : Nat × Nat} {σ : Mem} : aftr (X z) mT 202 4 ls rest cu Q (.inr 0) σ = ∀ q : Nat, X z 202 12 ls [.ref q] cu σ Q := rfl
set_option maxHeartbeats 4000000 in
theorem c202 {a : Nat} (ha : a < 4294967296) (hw : CSt b I q (A, n, H, B)) (hg : GoodW (A, n, H, B)) (hQ : LQ Q KL RL L sz ex b I q (opErr (A, n, H, B) a)) : X z 202 0 [some (.ref (ad b 0)), some (.int (nI a)), some (.ref (ad b 577)), none] [] (0, 0) (KAt KL b, I, RAt RL b q, L, sz, ex) Q := by
  have ol := o202 (w := (A, n, H, B)) (a := a)
  simp (disch := omega) only [v202_0, v202_1, v202_2, v202_3, u202_4, n_cl, n_in_t, n_lt_t, n_lt_f, n_eq_t, n_eq_f, n_sub, nI_add, n_mul, n_01, ↓reduceIte, if_true, if_false, eq_self, true_or, or_true, and_self, and_true, true_and, Nat.reduceAdd, Nat.reduceMul, Nat.reduceLeDiff, Nat.zero_le, not_true_eq_false, not_false_eq_true, cat2_n, cat2_i, cat2_r, ws_0, ws_i, ws_r, ws_l, ws_d, aftr_n, aftr_s, bI_ok, bI_t, bI_f, up_s, up_n, n_bit, decide_true, decide_false, Bool.not_true, Bool.not_false, Bool.and_true, Bool.true_and, Bool.false_and, Bool.and_false, va_rf_s, n_nlt0, k_0, k_67, k_68, k_465, k_466, k_467, k_468, k_469, k_470, k_471, k_472, k_565, r_0_0, r_0_1, r_0_2, r_0_3, r_0_4, r_0_5, r_67_0, r_465_0, r_467_0, r_467_2, r_470_0, r_470_1, va_rf_s, n_neg_t, n_neg_f, k_0, k_67, k_68, k_465, k_466, k_467, k_468, k_469, k_470, k_471, k_472, k_565, r_0_0, r_0_1, r_0_2, r_0_3, r_0_4, r_0_5, r_67_0, r_465_0, r_467_0, r_467_2, r_470_0, r_470_1, va_rf_s]
  refine c69 ha hw ⟨fun e0 I1 q1 w1 g1 => ?_, fun e0 I1 w1 g1 => ?_⟩
  · simp (disch := omega) only [v202_7, v202_8, v202_9, v202_12, v202_13, v202_14, v202_15, v202_16, n_cl, n_in_t, n_lt_t, n_lt_f, n_eq_t, n_eq_f, n_sub, nI_add, n_mul, n_01, ↓reduceIte, if_true, if_false, eq_self, true_or, or_true, and_self, and_true, true_and, Nat.reduceAdd, Nat.reduceMul, Nat.reduceLeDiff, Nat.zero_le, not_true_eq_false, not_false_eq_true, cat2_n, cat2_i, cat2_r, ws_0, ws_i, ws_r, ws_l, ws_d, aftr_n, aftr_s, bI_ok, bI_t, bI_f, up_s, up_n, n_bit, decide_true, decide_false, Bool.not_true, Bool.not_false, Bool.and_true, Bool.true_and, Bool.false_and, Bool.and_false, va_rf_s, n_nlt0, k_0, k_67, k_68, k_465, k_466, k_467, k_468, k_469, k_470, k_471, k_472, k_565, r_0_0, r_0_1, r_0_2, r_0_3, r_0_4, r_0_5, r_67_0, r_465_0, r_467_0, r_467_2, r_470_0, r_470_1, va_rf_s, n_neg_t, n_neg_f, k_0, k_67, k_68, k_465, k_466, k_467, k_468, k_469, k_470, k_471, k_472, k_565, r_0_0, r_0_1, r_0_2, r_0_3, r_0_4, r_0_5, r_67_0, r_465_0, r_467_0, r_467_2, r_470_0, r_470_1, va_rf_s, k_577]
    exact hQ.1 e0 I1 q1 w1 g1
  · have hq := hQ.2 e0 I1 w1 g1
    have hq1 : (opErr (A, n, H, B) a).1 = 1 := by omega
    · rw [hq1] at hq ⊢
      refine (?_ : aftr (X z) mT 202 4 _ _ _ Q (.inr 0) _)
      rw [a202_0]
      intro qq
      simp (disch := omega) only [v202_12, v202_13, v202_14, n_cl, n_in_t, n_lt_t, n_lt_f, n_eq_t, n_eq_f, n_sub, nI_add, n_mul, n_01, ↓reduceIte, if_true, if_false, eq_self, true_or, or_true, and_self, and_true, true_and, Nat.reduceAdd, Nat.reduceMul, Nat.reduceLeDiff, Nat.zero_le, not_true_eq_false, not_false_eq_true, cat2_n, cat2_i, cat2_r, ws_0, ws_i, ws_r, ws_l, ws_d, aftr_n, aftr_s, bI_ok, bI_t, bI_f, up_s, up_n, n_bit, decide_true, decide_false, Bool.not_true, Bool.not_false, Bool.and_true, Bool.true_and, Bool.false_and, Bool.and_false, va_rf_s, n_nlt0, k_0, k_67, k_68, k_465, k_466, k_467, k_468, k_469, k_470, k_471, k_472, k_565, r_0_0, r_0_1, r_0_2, r_0_3, r_0_4, r_0_5, r_67_0, r_465_0, r_467_0, r_467_2, r_470_0, r_470_1, va_rf_s, n_neg_t, n_neg_f, k_0, k_67, k_68, k_465, k_466, k_467, k_468, k_469, k_470, k_471, k_472, k_565, r_0_0, r_0_1, r_0_2, r_0_3, r_0_4, r_0_5, r_67_0, r_465_0, r_467_0, r_467_2, r_470_0, r_470_1, va_rf_s]
      exact hq
theorem o203 {w : Wd} : (opUndo w).1 ≤ 1 := by
  unfold opUndo
  repeat' split
  all_goals (dsimp only; omega)
theorem a203_1 {ls : Lcs} {rest : List Value} {cu : Nat × Nat} {σ : Mem} : aftr (X z) mT 203 3 ls rest cu Q (.inr 1) σ = ∀ q : Nat, X z 203 11 ls [.ref q] cu σ Q := rfl
set_option maxHeartbeats 4000000 in
theorem c203 (hw : CSt b I q (A, n, H, B)) (hg : GoodW (A, n, H, B)) (hQ : LQ Q KL RL L sz ex b I q (opUndo (A, n, H, B))) : X z 203 0 [some (.ref (ad b 0)), some (.ref (ad b 577)), none] [] (0, 0) (KAt KL b, I, RAt RL b q, L, sz, ex) Q := by
  have ol := o203 (w := (A, n, H, B))
  simp (disch := omega) only [v203_0, v203_1, v203_2, u203_3, n_cl, n_in_t, n_lt_t, n_lt_f, n_eq_t, n_eq_f, n_sub, nI_add, n_mul, n_01, ↓reduceIte, if_true, if_false, eq_self, true_or, or_true, and_self, and_true, true_and, Nat.reduceAdd, Nat.reduceMul, Nat.reduceLeDiff, Nat.zero_le, not_true_eq_false, not_false_eq_true, cat2_n, cat2_i, cat2_r, ws_0, ws_i, ws_r, ws_l, ws_d, aftr_n, aftr_s, bI_ok, bI_t, bI_f, up_s, up_n, n_bit, decide_true, decide_false, Bool.not_true, Bool.not_false, Bool.and_true, Bool.true_and, Bool.false_and, Bool.and_false, va_rf_s, n_nlt0, k_0, k_67, k_68, k_465, k_466, k_467, k_468, k_469, k_470, k_471, k_472, k_565, r_0_0, r_0_1, r_0_2, r_0_3, r_0_4, r_0_5, r_67_0, r_465_0, r_467_0, r_467_2, r_470_0, r_470_1, va_rf_s, n_neg_t, n_neg_f, k_0, k_67, k_68, k_465, k_466, k_467, k_468, k_469, k_470, k_471, k_472, k_565, r_0_0, r_0_1, r_0_2, r_0_3, r_0_4, r_0_5, r_67_0, r_465_0, r_467_0, r_467_2, r_470_0, r_470_1, va_rf_s]
  refine c70  hw hg ⟨fun e0 I1 q1 w1 g1 => ?_, fun e0 I1 w1 g1 => ?_⟩
  · simp (disch := omega) only [v203_6, v203_7, v203_8, v203_11, v203_12, v203_13, v203_14, v203_15, n_cl, n_in_t, n_lt_t, n_lt_f, n_eq_t, n_eq_f, n_sub, nI_add, n_mul, n_01, ↓reduceIte, if_true, if_false, eq_self, true_or, or_true, and_self, and_true, true_and, Nat.reduceAdd, Nat.reduceMul, Nat.reduceLeDiff, Nat.zero_le, not_true_eq_false, not_false_eq_true, cat2_n, cat2_i, cat2_r, ws_0, ws_i, ws_r, ws_l, ws_d, aftr_n, aftr_s, bI_ok, bI_t, bI_f, up_s, up_n, n_bit, decide_true, decide_false, Bool.not_true, Bool.not_false, Bool.and_true, Bool.true_and, Bool.false_and, Bool.and_false, va_rf_s, n_nlt0, k_0, k_67, k_68, k_465, k_466, k_467, k_468, k_469, k_470, k_471, k_472, k_565, r_0_0, r_0_1, r_0_2, r_0_3, r_0_4, r_0_5, r_67_0, r_465_0, r_467_0, r_467_2, r_470_0, r_470_1, va_rf_s, n_neg_t, n_neg_f, k_0, k_67, k_68, k_465, k_466, k_467, k_468, k_469, k_470, k_471, k_472, k_565, r_0_0, r_0_1, r_0_2, r_0_3, r_0_4, r_0_5, r_67_0, r_465_0, r_467_0, r_467_2, r_470_0, r_470_1, va_rf_s, k_577]
    exact hQ.1 e0 I1 q1 w1 g1
  · have hq := hQ.2 e0 I1 w1 g1
    have hq1 : (opUndo (A, n, H, B)).1 = 1 := by omega
    · rw [hq1] at hq ⊢
      refine (?_ : aftr (X z) mT 203 3 _ _ _ Q (.inr 1) _)
      rw [a203_1]
      intro qq
      simp (disch := omega) only [v203_11, v203_12, v203_13, n_cl, n_in_t, n_lt_t, n_lt_f, n_eq_t, n_eq_f, n_sub, nI_add, n_mul, n_01, ↓reduceIte, if_true, if_false, eq_self, true_or, or_true, and_self, and_true, true_and, Nat.reduceAdd, Nat.reduceMul, Nat.reduceLeDiff, Nat.zero_le, not_true_eq_false, not_false_eq_true, cat2_n, cat2_i, cat2_r, ws_0, ws_i, ws_r, ws_l, ws_d, aftr_n, aftr_s, bI_ok, bI_t, bI_f, up_s, up_n, n_bit, decide_true, decide_false, Bool.not_true, Bool.not_false, Bool.and_true, Bool.true_and, Bool.false_and, Bool.and_false, va_rf_s, n_nlt0, k_0, k_67, k_68, k_465, k_466, k_467, k_468, k_469, k_470, k_471, k_472, k_565, r_0_0, r_0_1, r_0_2, r_0_3, r_0_4, r_0_5, r_67_0, r_465_0, r_467_0, r_467_2, r_470_0, r_470_1, va_rf_s, n_neg_t, n_neg_f, k_0, k_67, k_68, k_465, k_466, k_467, k_468, k_469, k_470, k_471, k_472, k_565, r_0_0, r_0_1, r_0_2, r_0_3, r_0_4, r_0_5, r_67_0, r_465_0, r_467_0, r_467_2, r_470_0, r_470_1, va_rf_s]
      exact hq
theorem o204 {w : Wd} {a f : Nat} : (opPerson w a f).1 ≤ 2 := by
  unfold opPerson
  repeat' split
  all_goals (dsimp only; omega)
theorem a204_2 {ls : Lcs} {rest : List Value} {cu : Nat × Nat} {σ : Mem} : aftr (X z) mT 204 5 ls rest cu Q (.inr 2) σ = ∀ q : Nat, X z 204 13 ls [.ref q] cu σ Q := rfl
theorem a204_0 {ls : Lcs} {rest : List Value} {cu : Nat × Nat} {σ : Mem} : aftr (X z) mT 204 5 ls rest cu Q (.inr 0) σ = ∀ q : Nat, X z 204 17 ls [.ref q] cu σ Q := rfl
set_option maxHeartbeats 4000000 in
theorem c204 {a f : Nat} (ha : a < 4294967296) (hf : f < 4294967296) (hw : CSt b I q (A, n, H, B)) (hg : GoodW (A, n, H, B)) (hm : Sm A) (hz : SZ KL RL b I z) (hQ : LQ Q KL RL L sz ex b I q (opPerson (A, n, H, B) a f)) : X z 204 0 [some (.ref (ad b 0)), some (.int (nI a)), some (.int (nI f)), some (.ref (ad b 577)), none] [] (0, 0) (KAt KL b, I, RAt RL b q, L, sz, ex) Q := by
  have ol := o204 (w := (A, n, H, B)) (a := a) (f := f)
  simp (disch := omega) only [v204_0, v204_1, v204_2, v204_3, v204_4, u204_5, n_cl, n_in_t, n_lt_t, n_lt_f, n_eq_t, n_eq_f, n_sub, nI_add, n_mul, n_01, ↓reduceIte, if_true, if_false, eq_self, true_or, or_true, and_self, and_true, true_and, Nat.reduceAdd, Nat.reduceMul, Nat.reduceLeDiff, Nat.zero_le, not_true_eq_false, not_false_eq_true, cat2_n, cat2_i, cat2_r, ws_0, ws_i, ws_r, ws_l, ws_d, aftr_n, aftr_s, bI_ok, bI_t, bI_f, up_s, up_n, n_bit, decide_true, decide_false, Bool.not_true, Bool.not_false, Bool.and_true, Bool.true_and, Bool.false_and, Bool.and_false, va_rf_s, n_nlt0, k_0, k_67, k_68, k_465, k_466, k_467, k_468, k_469, k_470, k_471, k_472, k_565, r_0_0, r_0_1, r_0_2, r_0_3, r_0_4, r_0_5, r_67_0, r_465_0, r_467_0, r_467_2, r_470_0, r_470_1, va_rf_s, n_neg_t, n_neg_f, k_0, k_67, k_68, k_465, k_466, k_467, k_468, k_469, k_470, k_471, k_472, k_565, r_0_0, r_0_1, r_0_2, r_0_3, r_0_4, r_0_5, r_67_0, r_465_0, r_467_0, r_467_2, r_470_0, r_470_1, va_rf_s]
  refine c71 ha hf hw hg hm hz ⟨fun e0 I1 q1 w1 g1 => ?_, fun e0 I1 w1 g1 => ?_⟩
  · simp (disch := omega) only [v204_8, v204_9, v204_10, v204_13, v204_15, v204_16, v204_17, v204_19, v204_20, v204_21, v204_22, n_cl, n_in_t, n_lt_t, n_lt_f, n_eq_t, n_eq_f, n_sub, nI_add, n_mul, n_01, ↓reduceIte, if_true, if_false, eq_self, true_or, or_true, and_self, and_true, true_and, Nat.reduceAdd, Nat.reduceMul, Nat.reduceLeDiff, Nat.zero_le, not_true_eq_false, not_false_eq_true, cat2_n, cat2_i, cat2_r, ws_0, ws_i, ws_r, ws_l, ws_d, aftr_n, aftr_s, bI_ok, bI_t, bI_f, up_s, up_n, n_bit, decide_true, decide_false, Bool.not_true, Bool.not_false, Bool.and_true, Bool.true_and, Bool.false_and, Bool.and_false, va_rf_s, n_nlt0, k_0, k_67, k_68, k_465, k_466, k_467, k_468, k_469, k_470, k_471, k_472, k_565, r_0_0, r_0_1, r_0_2, r_0_3, r_0_4, r_0_5, r_67_0, r_465_0, r_467_0, r_467_2, r_470_0, r_470_1, va_rf_s, n_neg_t, n_neg_f, k_0, k_67, k_68, k_465, k_466, k_467, k_468, k_469, k_470, k_471, k_472, k_565, r_0_0, r_0_1, r_0_2, r_0_3, r_0_4, r_0_5, r_67_0, r_465_0, r_467_0, r_467_2, r_470_0, r_470_1, va_rf_s, k_577]
    exact hQ.1 e0 I1 q1 w1 g1
  · have hq := hQ.2 e0 I1 w1 g1
    rcases (show (opPerson (A, n, H, B) a f).1 = 1 ∨ (opPerson (A, n, H, B) a f).1 = 2 by omega) with hq1 | hq1
    · rw [hq1] at hq ⊢
      refine (?_ : aftr (X z) mT 204 5 _ _ _ Q (.inr 2) _)
      rw [a204_2]
      intro qq
      simp (disch := omega) only [v204_13, v204_15, v204_16, n_cl, n_in_t, n_lt_t, n_lt_f, n_eq_t, n_eq_f, n_sub, nI_add, n_mul, n_01, ↓reduceIte, if_true, if_false, eq_self, true_or, or_true, and_self, and_true, true_and, Nat.reduceAdd, Nat.reduceMul, Nat.reduceLeDiff, Nat.zero_le, not_true_eq_false, not_false_eq_true, cat2_n, cat2_i, cat2_r, ws_0, ws_i, ws_r, ws_l, ws_d, aftr_n, aftr_s, bI_ok, bI_t, bI_f, up_s, up_n, n_bit, decide_true, decide_false, Bool.not_true, Bool.not_false, Bool.and_true, Bool.true_and, Bool.false_and, Bool.and_false, va_rf_s, n_nlt0, k_0, k_67, k_68, k_465, k_466, k_467, k_468, k_469, k_470, k_471, k_472, k_565, r_0_0, r_0_1, r_0_2, r_0_3, r_0_4, r_0_5, r_67_0, r_465_0, r_467_0, r_467_2, r_470_0, r_470_1, va_rf_s, n_neg_t, n_neg_f, k_0, k_67, k_68, k_465, k_466, k_467, k_468, k_469, k_470, k_471, k_472, k_565, r_0_0, r_0_1, r_0_2, r_0_3, r_0_4, r_0_5, r_67_0, r_465_0, r_467_0, r_467_2, r_470_0, r_470_1, va_rf_s]
      exact hq
    · rw [hq1] at hq ⊢
      refine (?_ : aftr (X z) mT 204 5 _ _ _ Q (.inr 0) _)
      rw [a204_0]
      intro qq
      simp (disch := omega) only [v204_17, v204_19, v204_20, n_cl, n_in_t, n_lt_t, n_lt_f, n_eq_t, n_eq_f, n_sub, nI_add, n_mul, n_01, ↓reduceIte, if_true, if_false, eq_self, true_or, or_true, and_self, and_true, true_and, Nat.reduceAdd, Nat.reduceMul, Nat.reduceLeDiff, Nat.zero_le, not_true_eq_false, not_false_eq_true, cat2_n, cat2_i, cat2_r, ws_0, ws_i, ws_r, ws_l, ws_d, aftr_n, aftr_s, bI_ok, bI_t, bI_f, up_s, up_n, n_bit, decide_true, decide_false, Bool.not_true, Bool.not_false, Bool.and_true, Bool.true_and, Bool.false_and, Bool.and_false, va_rf_s, n_nlt0, k_0, k_67, k_68, k_465, k_466, k_467, k_468, k_469, k_470, k_471, k_472, k_565, r_0_0, r_0_1, r_0_2, r_0_3, r_0_4, r_0_5, r_67_0, r_465_0, r_467_0, r_467_2, r_470_0, r_470_1, va_rf_s, n_neg_t, n_neg_f, k_0, k_67, k_68, k_465, k_466, k_467, k_468, k_469, k_470, k_471, k_472, k_565, r_0_0, r_0_1, r_0_2, r_0_3, r_0_4, r_0_5, r_67_0, r_465_0, r_467_0, r_467_2, r_470_0, r_470_1, va_rf_s]
      exact hq
theorem o205 {w : Wd} {a f : Nat} : (opName w a f).1 ≤ 1 := by
  unfold opName
  repeat' split
  all_goals (dsimp only; omega)
theorem a205_2 {ls : Lcs} {rest : List Value} {cu : Nat × Nat} {σ : Mem} : aftr (X z) mT 205 5 ls rest cu Q (.inr 2) σ = ∀ q : Nat, X z 205 13 ls [.ref q] cu σ Q := rfl
set_option maxHeartbeats 4000000 in
theorem c205 {a f : Nat} (ha : a < 4294967296) (hf : f < 4294967296) (hw : CSt b I q (A, n, H, B)) (hg : GoodW (A, n, H, B)) (hQ : LQ Q KL RL L sz ex b I q (opName (A, n, H, B) a f)) : X z 205 0 [some (.ref (ad b 0)), some (.int (nI a)), some (.int (nI f)), some (.ref (ad b 577)), none] [] (0, 0) (KAt KL b, I, RAt RL b q, L, sz, ex) Q := by
  have ol := o205 (w := (A, n, H, B)) (a := a) (f := f)
  simp (disch := omega) only [v205_0, v205_1, v205_2, v205_3, v205_4, u205_5, n_cl, n_in_t, n_lt_t, n_lt_f, n_eq_t, n_eq_f, n_sub, nI_add, n_mul, n_01, ↓reduceIte, if_true, if_false, eq_self, true_or, or_true, and_self, and_true, true_and, Nat.reduceAdd, Nat.reduceMul, Nat.reduceLeDiff, Nat.zero_le, not_true_eq_false, not_false_eq_true, cat2_n, cat2_i, cat2_r, ws_0, ws_i, ws_r, ws_l, ws_d, aftr_n, aftr_s, bI_ok, bI_t, bI_f, up_s, up_n, n_bit, decide_true, decide_false, Bool.not_true, Bool.not_false, Bool.and_true, Bool.true_and, Bool.false_and, Bool.and_false, va_rf_s, n_nlt0, k_0, k_67, k_68, k_465, k_466, k_467, k_468, k_469, k_470, k_471, k_472, k_565, r_0_0, r_0_1, r_0_2, r_0_3, r_0_4, r_0_5, r_67_0, r_465_0, r_467_0, r_467_2, r_470_0, r_470_1, va_rf_s, n_neg_t, n_neg_f, k_0, k_67, k_68, k_465, k_466, k_467, k_468, k_469, k_470, k_471, k_472, k_565, r_0_0, r_0_1, r_0_2, r_0_3, r_0_4, r_0_5, r_67_0, r_465_0, r_467_0, r_467_2, r_470_0, r_470_1, va_rf_s]
  refine c72 ha hf hw hg ⟨fun e0 I1 q1 w1 g1 => ?_, fun e0 I1 w1 g1 => ?_⟩
  · simp (disch := omega) only [v205_8, v205_9, v205_10, v205_13, v205_15, v205_16, v205_17, v205_18, n_cl, n_in_t, n_lt_t, n_lt_f, n_eq_t, n_eq_f, n_sub, nI_add, n_mul, n_01, ↓reduceIte, if_true, if_false, eq_self, true_or, or_true, and_self, and_true, true_and, Nat.reduceAdd, Nat.reduceMul, Nat.reduceLeDiff, Nat.zero_le, not_true_eq_false, not_false_eq_true, cat2_n, cat2_i, cat2_r, ws_0, ws_i, ws_r, ws_l, ws_d, aftr_n, aftr_s, bI_ok, bI_t, bI_f, up_s, up_n, n_bit, decide_true, decide_false, Bool.not_true, Bool.not_false, Bool.and_true, Bool.true_and, Bool.false_and, Bool.and_false, va_rf_s, n_nlt0, k_0, k_67, k_68, k_465, k_466, k_467, k_468, k_469, k_470, k_471, k_472, k_565, r_0_0, r_0_1, r_0_2, r_0_3, r_0_4, r_0_5, r_67_0, r_465_0, r_467_0, r_467_2, r_470_0, r_470_1, va_rf_s, n_neg_t, n_neg_f, k_0, k_67, k_68, k_465, k_466, k_467, k_468, k_469, k_470, k_471, k_472, k_565, r_0_0, r_0_1, r_0_2, r_0_3, r_0_4, r_0_5, r_67_0, r_465_0, r_467_0, r_467_2, r_470_0, r_470_1, va_rf_s, k_577]
    exact hQ.1 e0 I1 q1 w1 g1
  · have hq := hQ.2 e0 I1 w1 g1
    have hq1 : (opName (A, n, H, B) a f).1 = 1 := by omega
    · rw [hq1] at hq ⊢
      refine (?_ : aftr (X z) mT 205 5 _ _ _ Q (.inr 2) _)
      rw [a205_2]
      intro qq
      simp (disch := omega) only [v205_13, v205_15, v205_16, n_cl, n_in_t, n_lt_t, n_lt_f, n_eq_t, n_eq_f, n_sub, nI_add, n_mul, n_01, ↓reduceIte, if_true, if_false, eq_self, true_or, or_true, and_self, and_true, true_and, Nat.reduceAdd, Nat.reduceMul, Nat.reduceLeDiff, Nat.zero_le, not_true_eq_false, not_false_eq_true, cat2_n, cat2_i, cat2_r, ws_0, ws_i, ws_r, ws_l, ws_d, aftr_n, aftr_s, bI_ok, bI_t, bI_f, up_s, up_n, n_bit, decide_true, decide_false, Bool.not_true, Bool.not_false, Bool.and_true, Bool.true_and, Bool.false_and, Bool.and_false, va_rf_s, n_nlt0, k_0, k_67, k_68, k_465, k_466, k_467, k_468, k_469, k_470, k_471, k_472, k_565, r_0_0, r_0_1, r_0_2, r_0_3, r_0_4, r_0_5, r_67_0, r_465_0, r_467_0, r_467_2, r_470_0, r_470_1, va_rf_s, n_neg_t, n_neg_f, k_0, k_67, k_68, k_465, k_466, k_467, k_468, k_469, k_470, k_471, k_472, k_565, r_0_0, r_0_1, r_0_2, r_0_3, r_0_4, r_0_5, r_67_0, r_465_0, r_467_0, r_467_2, r_470_0, r_470_1, va_rf_s]
      exact hq
theorem o206 {w : Wd} {a f : Nat} : (opWord w a f).1 ≤ 2 := by
  unfold opWord
  repeat' split
  all_goals (dsimp only; omega)
theorem a206_2 {ls : Lcs} {rest : List Value} {cu : Nat × Nat} {σ : Mem} : aftr (X z) mT 206 5 ls rest cu Q (.inr 2) σ = ∀ q : Nat, X z 206 13 ls [.ref q] cu σ Q := rfl
theorem a206_0 {ls : Lcs} {rest : List Value} {cu : Nat × Nat} {σ : Mem} : aftr (X z) mT 206 5 ls rest cu Q (.inr 0) σ = ∀ q : Nat, X z 206 17 ls [.ref q] cu σ Q := rfl
set_option maxHeartbeats 4000000 in
theorem c206 {a f : Nat} (ha : a < 4294967296) (hf : f < 4294967296) (hw : CSt b I q (A, n, H, B)) (hg : GoodW (A, n, H, B)) (hm : Sm A) (hz : SZ KL RL b I z) (hQ : LQ Q KL RL L sz ex b I q (opWord (A, n, H, B) a f)) : X z 206 0 [some (.ref (ad b 0)), some (.int (nI a)), some (.int (nI f)), some (.ref (ad b 577)), none] [] (0, 0) (KAt KL b, I, RAt RL b q, L, sz, ex) Q := by
  have ol := o206 (w := (A, n, H, B)) (a := a) (f := f)
  simp (disch := omega) only [v206_0, v206_1, v206_2, v206_3, v206_4, u206_5, n_cl, n_in_t, n_lt_t, n_lt_f, n_eq_t, n_eq_f, n_sub, nI_add, n_mul, n_01, ↓reduceIte, if_true, if_false, eq_self, true_or, or_true, and_self, and_true, true_and, Nat.reduceAdd, Nat.reduceMul, Nat.reduceLeDiff, Nat.zero_le, not_true_eq_false, not_false_eq_true, cat2_n, cat2_i, cat2_r, ws_0, ws_i, ws_r, ws_l, ws_d, aftr_n, aftr_s, bI_ok, bI_t, bI_f, up_s, up_n, n_bit, decide_true, decide_false, Bool.not_true, Bool.not_false, Bool.and_true, Bool.true_and, Bool.false_and, Bool.and_false, va_rf_s, n_nlt0, k_0, k_67, k_68, k_465, k_466, k_467, k_468, k_469, k_470, k_471, k_472, k_565, r_0_0, r_0_1, r_0_2, r_0_3, r_0_4, r_0_5, r_67_0, r_465_0, r_467_0, r_467_2, r_470_0, r_470_1, va_rf_s, n_neg_t, n_neg_f, k_0, k_67, k_68, k_465, k_466, k_467, k_468, k_469, k_470, k_471, k_472, k_565, r_0_0, r_0_1, r_0_2, r_0_3, r_0_4, r_0_5, r_67_0, r_465_0, r_467_0, r_467_2, r_470_0, r_470_1, va_rf_s]
  refine c73 ha hf hw hg hm hz ⟨fun e0 I1 q1 w1 g1 => ?_, fun e0 I1 w1 g1 => ?_⟩
  · simp (disch := omega) only [v206_8, v206_9, v206_10, v206_13, v206_15, v206_16, v206_17, v206_19, v206_20, v206_21, v206_22, n_cl, n_in_t, n_lt_t, n_lt_f, n_eq_t, n_eq_f, n_sub, nI_add, n_mul, n_01, ↓reduceIte, if_true, if_false, eq_self, true_or, or_true, and_self, and_true, true_and, Nat.reduceAdd, Nat.reduceMul, Nat.reduceLeDiff, Nat.zero_le, not_true_eq_false, not_false_eq_true, cat2_n, cat2_i, cat2_r, ws_0, ws_i, ws_r, ws_l, ws_d, aftr_n, aftr_s, bI_ok, bI_t, bI_f, up_s, up_n, n_bit, decide_true, decide_false, Bool.not_true, Bool.not_false, Bool.and_true, Bool.true_and, Bool.false_and, Bool.and_false, va_rf_s, n_nlt0, k_0, k_67, k_68, k_465, k_466, k_467, k_468, k_469, k_470, k_471, k_472, k_565, r_0_0, r_0_1, r_0_2, r_0_3, r_0_4, r_0_5, r_67_0, r_465_0, r_467_0, r_467_2, r_470_0, r_470_1, va_rf_s, n_neg_t, n_neg_f, k_0, k_67, k_68, k_465, k_466, k_467, k_468, k_469, k_470, k_471, k_472, k_565, r_0_0, r_0_1, r_0_2, r_0_3, r_0_4, r_0_5, r_67_0, r_465_0, r_467_0, r_467_2, r_470_0, r_470_1, va_rf_s, k_577]
    exact hQ.1 e0 I1 q1 w1 g1
  · have hq := hQ.2 e0 I1 w1 g1
    rcases (show (opWord (A, n, H, B) a f).1 = 1 ∨ (opWord (A, n, H, B) a f).1 = 2 by omega) with hq1 | hq1
    · rw [hq1] at hq ⊢
      refine (?_ : aftr (X z) mT 206 5 _ _ _ Q (.inr 2) _)
      rw [a206_2]
      intro qq
      simp (disch := omega) only [v206_13, v206_15, v206_16, n_cl, n_in_t, n_lt_t, n_lt_f, n_eq_t, n_eq_f, n_sub, nI_add, n_mul, n_01, ↓reduceIte, if_true, if_false, eq_self, true_or, or_true, and_self, and_true, true_and, Nat.reduceAdd, Nat.reduceMul, Nat.reduceLeDiff, Nat.zero_le, not_true_eq_false, not_false_eq_true, cat2_n, cat2_i, cat2_r, ws_0, ws_i, ws_r, ws_l, ws_d, aftr_n, aftr_s, bI_ok, bI_t, bI_f, up_s, up_n, n_bit, decide_true, decide_false, Bool.not_true, Bool.not_false, Bool.and_true, Bool.true_and, Bool.false_and, Bool.and_false, va_rf_s, n_nlt0, k_0, k_67, k_68, k_465, k_466, k_467, k_468, k_469, k_470, k_471, k_472, k_565, r_0_0, r_0_1, r_0_2, r_0_3, r_0_4, r_0_5, r_67_0, r_465_0, r_467_0, r_467_2, r_470_0, r_470_1, va_rf_s, n_neg_t, n_neg_f, k_0, k_67, k_68, k_465, k_466, k_467, k_468, k_469, k_470, k_471, k_472, k_565, r_0_0, r_0_1, r_0_2, r_0_3, r_0_4, r_0_5, r_67_0, r_465_0, r_467_0, r_467_2, r_470_0, r_470_1, va_rf_s]
      exact hq
    · rw [hq1] at hq ⊢
      refine (?_ : aftr (X z) mT 206 5 _ _ _ Q (.inr 0) _)
      rw [a206_0]
      intro qq
      simp (disch := omega) only [v206_17, v206_19, v206_20, n_cl, n_in_t, n_lt_t, n_lt_f, n_eq_t, n_eq_f, n_sub, nI_add, n_mul, n_01, ↓reduceIte, if_true, if_false, eq_self, true_or, or_true, and_self, and_true, true_and, Nat.reduceAdd, Nat.reduceMul, Nat.reduceLeDiff, Nat.zero_le, not_true_eq_false, not_false_eq_true, cat2_n, cat2_i, cat2_r, ws_0, ws_i, ws_r, ws_l, ws_d, aftr_n, aftr_s, bI_ok, bI_t, bI_f, up_s, up_n, n_bit, decide_true, decide_false, Bool.not_true, Bool.not_false, Bool.and_true, Bool.true_and, Bool.false_and, Bool.and_false, va_rf_s, n_nlt0, k_0, k_67, k_68, k_465, k_466, k_467, k_468, k_469, k_470, k_471, k_472, k_565, r_0_0, r_0_1, r_0_2, r_0_3, r_0_4, r_0_5, r_67_0, r_465_0, r_467_0, r_467_2, r_470_0, r_470_1, va_rf_s, n_neg_t, n_neg_f, k_0, k_67, k_68, k_465, k_466, k_467, k_468, k_469, k_470, k_471, k_472, k_565, r_0_0, r_0_1, r_0_2, r_0_3, r_0_4, r_0_5, r_67_0, r_465_0, r_467_0, r_467_2, r_470_0, r_470_1, va_rf_s]
      exact hq
theorem o207 {w : Wd} {a f : Nat} : (opLetter w a f).1 ≤ 2 := by
  unfold opLetter
  repeat' split
  all_goals (dsimp only; omega)
theorem a207_2 {ls : Lcs} {rest : List Value} {cu : Nat × Nat} {σ : Mem} : aftr (X z) mT 207 5 ls rest cu Q (.inr 2) σ = ∀ q : Nat, X z 207 13 ls [.ref q] cu σ Q := rfl
theorem a207_0 {ls : Lcs} {rest : List Value} {cu : Nat × Nat} {σ : Mem} : aftr (X z) mT 207 5 ls rest cu Q (.inr 0) σ = ∀ q : Nat, X z 207 17 ls [.ref q] cu σ Q := rfl
set_option maxHeartbeats 4000000 in
theorem c207 {a f : Nat} (ha : a < 4294967296) (hf : f < 4294967296) (hw : CSt b I q (A, n, H, B)) (hg : GoodW (A, n, H, B)) (hm : Sm A) (hz : SZ KL RL b I z) (hQ : LQ Q KL RL L sz ex b I q (opLetter (A, n, H, B) a f)) : X z 207 0 [some (.ref (ad b 0)), some (.int (nI a)), some (.int (nI f)), some (.ref (ad b 577)), none] [] (0, 0) (KAt KL b, I, RAt RL b q, L, sz, ex) Q := by
  have ol := o207 (w := (A, n, H, B)) (a := a) (f := f)
  simp (disch := omega) only [v207_0, v207_1, v207_2, v207_3, v207_4, u207_5, n_cl, n_in_t, n_lt_t, n_lt_f, n_eq_t, n_eq_f, n_sub, nI_add, n_mul, n_01, ↓reduceIte, if_true, if_false, eq_self, true_or, or_true, and_self, and_true, true_and, Nat.reduceAdd, Nat.reduceMul, Nat.reduceLeDiff, Nat.zero_le, not_true_eq_false, not_false_eq_true, cat2_n, cat2_i, cat2_r, ws_0, ws_i, ws_r, ws_l, ws_d, aftr_n, aftr_s, bI_ok, bI_t, bI_f, up_s, up_n, n_bit, decide_true, decide_false, Bool.not_true, Bool.not_false, Bool.and_true, Bool.true_and, Bool.false_and, Bool.and_false, va_rf_s, n_nlt0, k_0, k_67, k_68, k_465, k_466, k_467, k_468, k_469, k_470, k_471, k_472, k_565, r_0_0, r_0_1, r_0_2, r_0_3, r_0_4, r_0_5, r_67_0, r_465_0, r_467_0, r_467_2, r_470_0, r_470_1, va_rf_s, n_neg_t, n_neg_f, k_0, k_67, k_68, k_465, k_466, k_467, k_468, k_469, k_470, k_471, k_472, k_565, r_0_0, r_0_1, r_0_2, r_0_3, r_0_4, r_0_5, r_67_0, r_465_0, r_467_0, r_467_2, r_470_0, r_470_1, va_rf_s]
  refine c74 ha hf hw hg hm hz ⟨fun e0 I1 q1 w1 g1 => ?_, fun e0 I1 w1 g1 => ?_⟩
  · simp (disch := omega) only [v207_8, v207_9, v207_10, v207_13, v207_15, v207_16, v207_17, v207_19, v207_20, v207_21, v207_22, n_cl, n_in_t, n_lt_t, n_lt_f, n_eq_t, n_eq_f, n_sub, nI_add, n_mul, n_01, ↓reduceIte, if_true, if_false, eq_self, true_or, or_true, and_self, and_true, true_and, Nat.reduceAdd, Nat.reduceMul, Nat.reduceLeDiff, Nat.zero_le, not_true_eq_false, not_false_eq_true, cat2_n, cat2_i, cat2_r, ws_0, ws_i, ws_r, ws_l, ws_d, aftr_n, aftr_s, bI_ok, bI_t, bI_f, up_s, up_n, n_bit, decide_true, decide_false, Bool.not_true, Bool.not_false, Bool.and_true, Bool.true_and, Bool.false_and, Bool.and_false, va_rf_s, n_nlt0, k_0, k_67, k_68, k_465, k_466, k_467, k_468, k_469, k_470, k_471, k_472, k_565, r_0_0, r_0_1, r_0_2, r_0_3, r_0_4, r_0_5, r_67_0, r_465_0, r_467_0, r_467_2, r_470_0, r_470_1, va_rf_s, n_neg_t, n_neg_f, k_0, k_67, k_68, k_465, k_466, k_467, k_468, k_469, k_470, k_471, k_472, k_565, r_0_0, r_0_1, r_0_2, r_0_3, r_0_4, r_0_5, r_67_0, r_465_0, r_467_0, r_467_2, r_470_0, r_470_1, va_rf_s, k_577]
    exact hQ.1 e0 I1 q1 w1 g1
  · have hq := hQ.2 e0 I1 w1 g1
    rcases (show (opLetter (A, n, H, B) a f).1 = 1 ∨ (opLetter (A, n, H, B) a f).1 = 2 by omega) with hq1 | hq1
    · rw [hq1] at hq ⊢
      refine (?_ : aftr (X z) mT 207 5 _ _ _ Q (.inr 2) _)
      rw [a207_2]
      intro qq
      simp (disch := omega) only [v207_13, v207_15, v207_16, n_cl, n_in_t, n_lt_t, n_lt_f, n_eq_t, n_eq_f, n_sub, nI_add, n_mul, n_01, ↓reduceIte, if_true, if_false, eq_self, true_or, or_true, and_self, and_true, true_and, Nat.reduceAdd, Nat.reduceMul, Nat.reduceLeDiff, Nat.zero_le, not_true_eq_false, not_false_eq_true, cat2_n, cat2_i, cat2_r, ws_0, ws_i, ws_r, ws_l, ws_d, aftr_n, aftr_s, bI_ok, bI_t, bI_f, up_s, up_n, n_bit, decide_true, decide_false, Bool.not_true, Bool.not_false, Bool.and_true, Bool.true_and, Bool.false_and, Bool.and_false, va_rf_s, n_nlt0, k_0, k_67, k_68, k_465, k_466, k_467, k_468, k_469, k_470, k_471, k_472, k_565, r_0_0, r_0_1, r_0_2, r_0_3, r_0_4, r_0_5, r_67_0, r_465_0, r_467_0, r_467_2, r_470_0, r_470_1, va_rf_s, n_neg_t, n_neg_f, k_0, k_67, k_68, k_465, k_466, k_467, k_468, k_469, k_470, k_471, k_472, k_565, r_0_0, r_0_1, r_0_2, r_0_3, r_0_4, r_0_5, r_67_0, r_465_0, r_467_0, r_467_2, r_470_0, r_470_1, va_rf_s]
      exact hq
    · rw [hq1] at hq ⊢
      refine (?_ : aftr (X z) mT 207 5 _ _ _ Q (.inr 0) _)
      rw [a207_0]
      intro qq
      simp (disch := omega) only [v207_17, v207_19, v207_20, n_cl, n_in_t, n_lt_t, n_lt_f, n_eq_t, n_eq_f, n_sub, nI_add, n_mul, n_01, ↓reduceIte, if_true, if_false, eq_self, true_or, or_true, and_self, and_true, true_and, Nat.reduceAdd, Nat.reduceMul, Nat.reduceLeDiff, Nat.zero_le, not_true_eq_false, not_false_eq_true, cat2_n, cat2_i, cat2_r, ws_0, ws_i, ws_r, ws_l, ws_d, aftr_n, aftr_s, bI_ok, bI_t, bI_f, up_s, up_n, n_bit, decide_true, decide_false, Bool.not_true, Bool.not_false, Bool.and_true, Bool.true_and, Bool.false_and, Bool.and_false, va_rf_s, n_nlt0, k_0, k_67, k_68, k_465, k_466, k_467, k_468, k_469, k_470, k_471, k_472, k_565, r_0_0, r_0_1, r_0_2, r_0_3, r_0_4, r_0_5, r_67_0, r_465_0, r_467_0, r_467_2, r_470_0, r_470_1, va_rf_s, n_neg_t, n_neg_f, k_0, k_67, k_68, k_465, k_466, k_467, k_468, k_469, k_470, k_471, k_472, k_565, r_0_0, r_0_1, r_0_2, r_0_3, r_0_4, r_0_5, r_67_0, r_465_0, r_467_0, r_467_2, r_470_0, r_470_1, va_rf_s]
      exact hq
theorem o208 {w : Wd} {a f : Nat} : (opSign w a f).1 ≤ 1 := by
  unfold opSign
  repeat' split
  all_goals (dsimp only; omega)
theorem a208_2 {ls : Lcs} {rest : List Value} {cu : Nat × Nat} {σ : Mem} : aftr (X z) mT 208 5 ls rest cu Q (.inr 2) σ = ∀ q : Nat, X z 208 13 ls [.ref q] cu σ Q := rfl
set_option maxHeartbeats 4000000 in
theorem c208 {a f : Nat} (ha : a < 4294967296) (hf : f < 4294967296) (hw : CSt b I q (A, n, H, B)) (hg : GoodW (A, n, H, B)) (hm : Sm A) (hz : SZ KL RL b I z) (hQ : LQ Q KL RL L sz ex b I q (opSign (A, n, H, B) a f)) : X z 208 0 [some (.ref (ad b 0)), some (.int (nI a)), some (.int (nI f)), some (.ref (ad b 577)), none] [] (0, 0) (KAt KL b, I, RAt RL b q, L, sz, ex) Q := by
  have ol := o208 (w := (A, n, H, B)) (a := a) (f := f)
  simp (disch := omega) only [v208_0, v208_1, v208_2, v208_3, v208_4, u208_5, n_cl, n_in_t, n_lt_t, n_lt_f, n_eq_t, n_eq_f, n_sub, nI_add, n_mul, n_01, ↓reduceIte, if_true, if_false, eq_self, true_or, or_true, and_self, and_true, true_and, Nat.reduceAdd, Nat.reduceMul, Nat.reduceLeDiff, Nat.zero_le, not_true_eq_false, not_false_eq_true, cat2_n, cat2_i, cat2_r, ws_0, ws_i, ws_r, ws_l, ws_d, aftr_n, aftr_s, bI_ok, bI_t, bI_f, up_s, up_n, n_bit, decide_true, decide_false, Bool.not_true, Bool.not_false, Bool.and_true, Bool.true_and, Bool.false_and, Bool.and_false, va_rf_s, n_nlt0, k_0, k_67, k_68, k_465, k_466, k_467, k_468, k_469, k_470, k_471, k_472, k_565, r_0_0, r_0_1, r_0_2, r_0_3, r_0_4, r_0_5, r_67_0, r_465_0, r_467_0, r_467_2, r_470_0, r_470_1, va_rf_s, n_neg_t, n_neg_f, k_0, k_67, k_68, k_465, k_466, k_467, k_468, k_469, k_470, k_471, k_472, k_565, r_0_0, r_0_1, r_0_2, r_0_3, r_0_4, r_0_5, r_67_0, r_465_0, r_467_0, r_467_2, r_470_0, r_470_1, va_rf_s]
  refine c75 ha hf hw hg hm hz ⟨fun e0 I1 q1 w1 g1 => ?_, fun e0 I1 w1 g1 => ?_⟩
  · simp (disch := omega) only [v208_8, v208_9, v208_10, v208_13, v208_15, v208_16, v208_17, v208_18, n_cl, n_in_t, n_lt_t, n_lt_f, n_eq_t, n_eq_f, n_sub, nI_add, n_mul, n_01, ↓reduceIte, if_true, if_false, eq_self, true_or, or_true, and_self, and_true, true_and, Nat.reduceAdd, Nat.reduceMul, Nat.reduceLeDiff, Nat.zero_le, not_true_eq_false, not_false_eq_true, cat2_n, cat2_i, cat2_r, ws_0, ws_i, ws_r, ws_l, ws_d, aftr_n, aftr_s, bI_ok, bI_t, bI_f, up_s, up_n, n_bit, decide_true, decide_false, Bool.not_true, Bool.not_false, Bool.and_true, Bool.true_and, Bool.false_and, Bool.and_false, va_rf_s, n_nlt0, k_0, k_67, k_68, k_465, k_466, k_467, k_468, k_469, k_470, k_471, k_472, k_565, r_0_0, r_0_1, r_0_2, r_0_3, r_0_4, r_0_5, r_67_0, r_465_0, r_467_0, r_467_2, r_470_0, r_470_1, va_rf_s, n_neg_t, n_neg_f, k_0, k_67, k_68, k_465, k_466, k_467, k_468, k_469, k_470, k_471, k_472, k_565, r_0_0, r_0_1, r_0_2, r_0_3, r_0_4, r_0_5, r_67_0, r_465_0, r_467_0, r_467_2, r_470_0, r_470_1, va_rf_s, k_577]
    exact hQ.1 e0 I1 q1 w1 g1
  · have hq := hQ.2 e0 I1 w1 g1
    have hq1 : (opSign (A, n, H, B) a f).1 = 1 := by omega
    · rw [hq1] at hq ⊢
      refine (?_ : aftr (X z) mT 208 5 _ _ _ Q (.inr 2) _)
      rw [a208_2]
      intro qq
      simp (disch := omega) only [v208_13, v208_15, v208_16, n_cl, n_in_t, n_lt_t, n_lt_f, n_eq_t, n_eq_f, n_sub, nI_add, n_mul, n_01, ↓reduceIte, if_true, if_false, eq_self, true_or, or_true, and_self, and_true, true_and, Nat.reduceAdd, Nat.reduceMul, Nat.reduceLeDiff, Nat.zero_le, not_true_eq_false, not_false_eq_true, cat2_n, cat2_i, cat2_r, ws_0, ws_i, ws_r, ws_l, ws_d, aftr_n, aftr_s, bI_ok, bI_t, bI_f, up_s, up_n, n_bit, decide_true, decide_false, Bool.not_true, Bool.not_false, Bool.and_true, Bool.true_and, Bool.false_and, Bool.and_false, va_rf_s, n_nlt0, k_0, k_67, k_68, k_465, k_466, k_467, k_468, k_469, k_470, k_471, k_472, k_565, r_0_0, r_0_1, r_0_2, r_0_3, r_0_4, r_0_5, r_67_0, r_465_0, r_467_0, r_467_2, r_470_0, r_470_1, va_rf_s, n_neg_t, n_neg_f, k_0, k_67, k_68, k_465, k_466, k_467, k_468, k_469, k_470, k_471, k_472, k_565, r_0_0, r_0_1, r_0_2, r_0_3, r_0_4, r_0_5, r_67_0, r_465_0, r_467_0, r_467_2, r_470_0, r_470_1, va_rf_s]
      exact hq
theorem o209 {w : Wd} {a : Nat} : (opMembers w a).1 ≤ 1 := by
  unfold opMembers
  repeat' split
  all_goals (dsimp only; omega)
theorem a209_2 {ls : Lcs} {rest : List Value} {cu : Nat × Nat} {σ : Mem} : aftr (X z) mT 209 4 ls rest cu Q (.inr 2) σ = ∀ q : Nat, X z 209 12 ls [.ref q] cu σ Q := rfl
set_option maxHeartbeats 4000000 in
theorem c209 {a : Nat} (ha : a < 4294967296) (hw : CSt b I q (A, n, H, B)) (hg : GoodW (A, n, H, B)) (hm : Sm A) (hz : SZ KL RL b I z) (hQ : LQ Q KL RL L sz ex b I q (opMembers (A, n, H, B) a)) : X z 209 0 [some (.ref (ad b 0)), some (.int (nI a)), some (.ref (ad b 577)), none] [] (0, 0) (KAt KL b, I, RAt RL b q, L, sz, ex) Q := by
  have ol := o209 (w := (A, n, H, B)) (a := a)
  simp (disch := omega) only [v209_0, v209_1, v209_2, v209_3, u209_4, n_cl, n_in_t, n_lt_t, n_lt_f, n_eq_t, n_eq_f, n_sub, nI_add, n_mul, n_01, ↓reduceIte, if_true, if_false, eq_self, true_or, or_true, and_self, and_true, true_and, Nat.reduceAdd, Nat.reduceMul, Nat.reduceLeDiff, Nat.zero_le, not_true_eq_false, not_false_eq_true, cat2_n, cat2_i, cat2_r, ws_0, ws_i, ws_r, ws_l, ws_d, aftr_n, aftr_s, bI_ok, bI_t, bI_f, up_s, up_n, n_bit, decide_true, decide_false, Bool.not_true, Bool.not_false, Bool.and_true, Bool.true_and, Bool.false_and, Bool.and_false, va_rf_s, n_nlt0, k_0, k_67, k_68, k_465, k_466, k_467, k_468, k_469, k_470, k_471, k_472, k_565, r_0_0, r_0_1, r_0_2, r_0_3, r_0_4, r_0_5, r_67_0, r_465_0, r_467_0, r_467_2, r_470_0, r_470_1, va_rf_s, n_neg_t, n_neg_f, k_0, k_67, k_68, k_465, k_466, k_467, k_468, k_469, k_470, k_471, k_472, k_565, r_0_0, r_0_1, r_0_2, r_0_3, r_0_4, r_0_5, r_67_0, r_465_0, r_467_0, r_467_2, r_470_0, r_470_1, va_rf_s]
  refine c76 ha hw hg hm hz ⟨fun e0 I1 q1 w1 g1 => ?_, fun e0 I1 w1 g1 => ?_⟩
  · simp (disch := omega) only [v209_7, v209_8, v209_9, v209_12, v209_13, v209_14, v209_15, v209_16, n_cl, n_in_t, n_lt_t, n_lt_f, n_eq_t, n_eq_f, n_sub, nI_add, n_mul, n_01, ↓reduceIte, if_true, if_false, eq_self, true_or, or_true, and_self, and_true, true_and, Nat.reduceAdd, Nat.reduceMul, Nat.reduceLeDiff, Nat.zero_le, not_true_eq_false, not_false_eq_true, cat2_n, cat2_i, cat2_r, ws_0, ws_i, ws_r, ws_l, ws_d, aftr_n, aftr_s, bI_ok, bI_t, bI_f, up_s, up_n, n_bit, decide_true, decide_false, Bool.not_true, Bool.not_false, Bool.and_true, Bool.true_and, Bool.false_and, Bool.and_false, va_rf_s, n_nlt0, k_0, k_67, k_68, k_465, k_466, k_467, k_468, k_469, k_470, k_471, k_472, k_565, r_0_0, r_0_1, r_0_2, r_0_3, r_0_4, r_0_5, r_67_0, r_465_0, r_467_0, r_467_2, r_470_0, r_470_1, va_rf_s, n_neg_t, n_neg_f, k_0, k_67, k_68, k_465, k_466, k_467, k_468, k_469, k_470, k_471, k_472, k_565, r_0_0, r_0_1, r_0_2, r_0_3, r_0_4, r_0_5, r_67_0, r_465_0, r_467_0, r_467_2, r_470_0, r_470_1, va_rf_s, k_577]
    exact hQ.1 e0 I1 q1 w1 g1
  · have hq := hQ.2 e0 I1 w1 g1
    have hq1 : (opMembers (A, n, H, B) a).1 = 1 := by omega
    · rw [hq1] at hq ⊢
      refine (?_ : aftr (X z) mT 209 4 _ _ _ Q (.inr 2) _)
      rw [a209_2]
      intro qq
      simp (disch := omega) only [v209_12, v209_13, v209_14, n_cl, n_in_t, n_lt_t, n_lt_f, n_eq_t, n_eq_f, n_sub, nI_add, n_mul, n_01, ↓reduceIte, if_true, if_false, eq_self, true_or, or_true, and_self, and_true, true_and, Nat.reduceAdd, Nat.reduceMul, Nat.reduceLeDiff, Nat.zero_le, not_true_eq_false, not_false_eq_true, cat2_n, cat2_i, cat2_r, ws_0, ws_i, ws_r, ws_l, ws_d, aftr_n, aftr_s, bI_ok, bI_t, bI_f, up_s, up_n, n_bit, decide_true, decide_false, Bool.not_true, Bool.not_false, Bool.and_true, Bool.true_and, Bool.false_and, Bool.and_false, va_rf_s, n_nlt0, k_0, k_67, k_68, k_465, k_466, k_467, k_468, k_469, k_470, k_471, k_472, k_565, r_0_0, r_0_1, r_0_2, r_0_3, r_0_4, r_0_5, r_67_0, r_465_0, r_467_0, r_467_2, r_470_0, r_470_1, va_rf_s, n_neg_t, n_neg_f, k_0, k_67, k_68, k_465, k_466, k_467, k_468, k_469, k_470, k_471, k_472, k_565, r_0_0, r_0_1, r_0_2, r_0_3, r_0_4, r_0_5, r_67_0, r_465_0, r_467_0, r_467_2, r_470_0, r_470_1, va_rf_s]
      exact hq
theorem o210 {w : Wd} {a : Nat} : (opCount w a).1 ≤ 1 := by
  unfold opCount
  repeat' split
  all_goals (dsimp only; omega)
theorem a210_0 {ls : Lcs} {rest : List Value} {cu : Nat × Nat} {σ : Mem} : aftr (X z) mT 210 4 ls rest cu Q (.inr 0) σ = ∀ q : Nat, X z 210 12 ls [.ref q] cu σ Q := rfl
set_option maxHeartbeats 4000000 in
theorem c210 {a : Nat} (ha : a < 4294967296) (hw : CSt b I q (A, n, H, B)) (hg : GoodW (A, n, H, B)) (hm : Sm A) (hz : SZ KL RL b I z) (hQ : LQ Q KL RL L sz ex b I q (opCount (A, n, H, B) a)) : X z 210 0 [some (.ref (ad b 0)), some (.int (nI a)), some (.ref (ad b 577)), none] [] (0, 0) (KAt KL b, I, RAt RL b q, L, sz, ex) Q := by
  have ol := o210 (w := (A, n, H, B)) (a := a)
  simp (disch := omega) only [v210_0, v210_1, v210_2, v210_3, u210_4, n_cl, n_in_t, n_lt_t, n_lt_f, n_eq_t, n_eq_f, n_sub, nI_add, n_mul, n_01, ↓reduceIte, if_true, if_false, eq_self, true_or, or_true, and_self, and_true, true_and, Nat.reduceAdd, Nat.reduceMul, Nat.reduceLeDiff, Nat.zero_le, not_true_eq_false, not_false_eq_true, cat2_n, cat2_i, cat2_r, ws_0, ws_i, ws_r, ws_l, ws_d, aftr_n, aftr_s, bI_ok, bI_t, bI_f, up_s, up_n, n_bit, decide_true, decide_false, Bool.not_true, Bool.not_false, Bool.and_true, Bool.true_and, Bool.false_and, Bool.and_false, va_rf_s, n_nlt0, k_0, k_67, k_68, k_465, k_466, k_467, k_468, k_469, k_470, k_471, k_472, k_565, r_0_0, r_0_1, r_0_2, r_0_3, r_0_4, r_0_5, r_67_0, r_465_0, r_467_0, r_467_2, r_470_0, r_470_1, va_rf_s, n_neg_t, n_neg_f, k_0, k_67, k_68, k_465, k_466, k_467, k_468, k_469, k_470, k_471, k_472, k_565, r_0_0, r_0_1, r_0_2, r_0_3, r_0_4, r_0_5, r_67_0, r_465_0, r_467_0, r_467_2, r_470_0, r_470_1, va_rf_s]
  refine c77 ha hw hg hm hz ⟨fun e0 I1 q1 w1 g1 => ?_, fun e0 I1 w1 g1 => ?_⟩
  · simp (disch := omega) only [v210_7, v210_8, v210_9, v210_12, v210_13, v210_14, v210_15, v210_16, n_cl, n_in_t, n_lt_t, n_lt_f, n_eq_t, n_eq_f, n_sub, nI_add, n_mul, n_01, ↓reduceIte, if_true, if_false, eq_self, true_or, or_true, and_self, and_true, true_and, Nat.reduceAdd, Nat.reduceMul, Nat.reduceLeDiff, Nat.zero_le, not_true_eq_false, not_false_eq_true, cat2_n, cat2_i, cat2_r, ws_0, ws_i, ws_r, ws_l, ws_d, aftr_n, aftr_s, bI_ok, bI_t, bI_f, up_s, up_n, n_bit, decide_true, decide_false, Bool.not_true, Bool.not_false, Bool.and_true, Bool.true_and, Bool.false_and, Bool.and_false, va_rf_s, n_nlt0, k_0, k_67, k_68, k_465, k_466, k_467, k_468, k_469, k_470, k_471, k_472, k_565, r_0_0, r_0_1, r_0_2, r_0_3, r_0_4, r_0_5, r_67_0, r_465_0, r_467_0, r_467_2, r_470_0, r_470_1, va_rf_s, n_neg_t, n_neg_f, k_0, k_67, k_68, k_465, k_466, k_467, k_468, k_469, k_470, k_471, k_472, k_565, r_0_0, r_0_1, r_0_2, r_0_3, r_0_4, r_0_5, r_67_0, r_465_0, r_467_0, r_467_2, r_470_0, r_470_1, va_rf_s, k_577]
    exact hQ.1 e0 I1 q1 w1 g1
  · have hq := hQ.2 e0 I1 w1 g1
    have hq1 : (opCount (A, n, H, B) a).1 = 1 := by omega
    · rw [hq1] at hq ⊢
      refine (?_ : aftr (X z) mT 210 4 _ _ _ Q (.inr 0) _)
      rw [a210_0]
      intro qq
      simp (disch := omega) only [v210_12, v210_13, v210_14, n_cl, n_in_t, n_lt_t, n_lt_f, n_eq_t, n_eq_f, n_sub, nI_add, n_mul, n_01, ↓reduceIte, if_true, if_false, eq_self, true_or, or_true, and_self, and_true, true_and, Nat.reduceAdd, Nat.reduceMul, Nat.reduceLeDiff, Nat.zero_le, not_true_eq_false, not_false_eq_true, cat2_n, cat2_i, cat2_r, ws_0, ws_i, ws_r, ws_l, ws_d, aftr_n, aftr_s, bI_ok, bI_t, bI_f, up_s, up_n, n_bit, decide_true, decide_false, Bool.not_true, Bool.not_false, Bool.and_true, Bool.true_and, Bool.false_and, Bool.and_false, va_rf_s, n_nlt0, k_0, k_67, k_68, k_465, k_466, k_467, k_468, k_469, k_470, k_471, k_472, k_565, r_0_0, r_0_1, r_0_2, r_0_3, r_0_4, r_0_5, r_67_0, r_465_0, r_467_0, r_467_2, r_470_0, r_470_1, va_rf_s, n_neg_t, n_neg_f, k_0, k_67, k_68, k_465, k_466, k_467, k_468, k_469, k_470, k_471, k_472, k_565, r_0_0, r_0_1, r_0_2, r_0_3, r_0_4, r_0_5, r_67_0, r_465_0, r_467_0, r_467_2, r_470_0, r_470_1, va_rf_s]
      exact hq
theorem o211 {w : Wd} {a : Nat} : (opSetting w a).1 ≤ 1 := by
  unfold opSetting
  repeat' split
  all_goals (dsimp only; omega)
theorem a211_2 {ls : Lcs} {rest : List Value} {cu : Nat × Nat} {σ : Mem} : aftr (X z) mT 211 4 ls rest cu Q (.inr 2) σ = ∀ q : Nat, X z 211 12 ls [.ref q] cu σ Q := rfl
set_option maxHeartbeats 4000000 in
theorem c211 {a : Nat} (ha : a < 4294967296) (hw : CSt b I q (A, n, H, B)) (hg : GoodW (A, n, H, B)) (hQ : LQ Q KL RL L sz ex b I q (opSetting (A, n, H, B) a)) : X z 211 0 [some (.ref (ad b 0)), some (.int (nI a)), some (.ref (ad b 577)), none] [] (0, 0) (KAt KL b, I, RAt RL b q, L, sz, ex) Q := by
  have ol := o211 (w := (A, n, H, B)) (a := a)
  simp (disch := omega) only [v211_0, v211_1, v211_2, v211_3, u211_4, n_cl, n_in_t, n_lt_t, n_lt_f, n_eq_t, n_eq_f, n_sub, nI_add, n_mul, n_01, ↓reduceIte, if_true, if_false, eq_self, true_or, or_true, and_self, and_true, true_and, Nat.reduceAdd, Nat.reduceMul, Nat.reduceLeDiff, Nat.zero_le, not_true_eq_false, not_false_eq_true, cat2_n, cat2_i, cat2_r, ws_0, ws_i, ws_r, ws_l, ws_d, aftr_n, aftr_s, bI_ok, bI_t, bI_f, up_s, up_n, n_bit, decide_true, decide_false, Bool.not_true, Bool.not_false, Bool.and_true, Bool.true_and, Bool.false_and, Bool.and_false, va_rf_s, n_nlt0, k_0, k_67, k_68, k_465, k_466, k_467, k_468, k_469, k_470, k_471, k_472, k_565, r_0_0, r_0_1, r_0_2, r_0_3, r_0_4, r_0_5, r_67_0, r_465_0, r_467_0, r_467_2, r_470_0, r_470_1, va_rf_s, n_neg_t, n_neg_f, k_0, k_67, k_68, k_465, k_466, k_467, k_468, k_469, k_470, k_471, k_472, k_565, r_0_0, r_0_1, r_0_2, r_0_3, r_0_4, r_0_5, r_67_0, r_465_0, r_467_0, r_467_2, r_470_0, r_470_1, va_rf_s]
  refine c78 ha hw ⟨fun e0 I1 q1 w1 g1 => ?_, fun e0 I1 w1 g1 => ?_⟩
  · simp (disch := omega) only [v211_7, v211_8, v211_9, v211_12, v211_13, v211_14, v211_15, v211_16, n_cl, n_in_t, n_lt_t, n_lt_f, n_eq_t, n_eq_f, n_sub, nI_add, n_mul, n_01, ↓reduceIte, if_true, if_false, eq_self, true_or, or_true, and_self, and_true, true_and, Nat.reduceAdd, Nat.reduceMul, Nat.reduceLeDiff, Nat.zero_le, not_true_eq_false, not_false_eq_true, cat2_n, cat2_i, cat2_r, ws_0, ws_i, ws_r, ws_l, ws_d, aftr_n, aftr_s, bI_ok, bI_t, bI_f, up_s, up_n, n_bit, decide_true, decide_false, Bool.not_true, Bool.not_false, Bool.and_true, Bool.true_and, Bool.false_and, Bool.and_false, va_rf_s, n_nlt0, k_0, k_67, k_68, k_465, k_466, k_467, k_468, k_469, k_470, k_471, k_472, k_565, r_0_0, r_0_1, r_0_2, r_0_3, r_0_4, r_0_5, r_67_0, r_465_0, r_467_0, r_467_2, r_470_0, r_470_1, va_rf_s, n_neg_t, n_neg_f, k_0, k_67, k_68, k_465, k_466, k_467, k_468, k_469, k_470, k_471, k_472, k_565, r_0_0, r_0_1, r_0_2, r_0_3, r_0_4, r_0_5, r_67_0, r_465_0, r_467_0, r_467_2, r_470_0, r_470_1, va_rf_s, k_577]
    exact hQ.1 e0 I1 q1 w1 g1
  · have hq := hQ.2 e0 I1 w1 g1
    have hq1 : (opSetting (A, n, H, B) a).1 = 1 := by omega
    · rw [hq1] at hq ⊢
      refine (?_ : aftr (X z) mT 211 4 _ _ _ Q (.inr 2) _)
      rw [a211_2]
      intro qq
      simp (disch := omega) only [v211_12, v211_13, v211_14, n_cl, n_in_t, n_lt_t, n_lt_f, n_eq_t, n_eq_f, n_sub, nI_add, n_mul, n_01, ↓reduceIte, if_true, if_false, eq_self, true_or, or_true, and_self, and_true, true_and, Nat.reduceAdd, Nat.reduceMul, Nat.reduceLeDiff, Nat.zero_le, not_true_eq_false, not_false_eq_true, cat2_n, cat2_i, cat2_r, ws_0, ws_i, ws_r, ws_l, ws_d, aftr_n, aftr_s, bI_ok, bI_t, bI_f, up_s, up_n, n_bit, decide_true, decide_false, Bool.not_true, Bool.not_false, Bool.and_true, Bool.true_and, Bool.false_and, Bool.and_false, va_rf_s, n_nlt0, k_0, k_67, k_68, k_465, k_466, k_467, k_468, k_469, k_470, k_471, k_472, k_565, r_0_0, r_0_1, r_0_2, r_0_3, r_0_4, r_0_5, r_67_0, r_465_0, r_467_0, r_467_2, r_470_0, r_470_1, va_rf_s, n_neg_t, n_neg_f, k_0, k_67, k_68, k_465, k_466, k_467, k_468, k_469, k_470, k_471, k_472, k_565, r_0_0, r_0_1, r_0_2, r_0_3, r_0_4, r_0_5, r_67_0, r_465_0, r_467_0, r_467_2, r_470_0, r_470_1, va_rf_s]
      exact hq
theorem o212 {w : Wd} {a f t : Nat} : (opIfSet w a f t).1 ≤ 2 := by
  unfold opIfSet
  repeat' split
  all_goals (dsimp only; omega)
theorem a212_2 {ls : Lcs} {rest : List Value} {cu : Nat × Nat} {σ : Mem} : aftr (X z) mT 212 7 ls rest cu Q (.inr 2) σ = ∀ q : Nat, X z 212 15 ls [.ref q] cu σ Q := rfl
theorem a212_0 {ls : Lcs} {rest : List Value} {cu : Nat × Nat} {σ : Mem} : aftr (X z) mT 212 7 ls rest cu Q (.inr 0) σ = ∀ q : Nat, X z 212 19 ls [.ref q] cu σ Q := rfl
set_option maxHeartbeats 4000000 in
theorem c212 {a f t : Nat} (ha : a < 4294967296) (hf : f < 4294967296) (ht : t < 4294967296) (hw : CSt b I q (A, n, H, B)) (hg : GoodW (A, n, H, B)) (hm : Sm A) (hz : SZ KL RL b I z) (hv0 : SV KL b I z) (hQ : LQ Q KL RL L sz ex b I q (opIfSet (A, n, H, B) a f t)) : X z 212 0 [some (.ref (ad b 0)), some (.int (nI a)), some (.int (nI f)), some (.int (nI t)), some (.ref (ad b 577)), none] [] (0, 0) (KAt KL b, I, RAt RL b q, L, sz, ex) Q := by
  have ol := o212 (w := (A, n, H, B)) (a := a) (f := f) (t := t)
  simp (disch := omega) only [v212_0, v212_2, v212_3, v212_4, v212_5, v212_6, u212_7, n_cl, n_in_t, n_lt_t, n_lt_f, n_eq_t, n_eq_f, n_sub, nI_add, n_mul, n_01, ↓reduceIte, if_true, if_false, eq_self, true_or, or_true, and_self, and_true, true_and, Nat.reduceAdd, Nat.reduceMul, Nat.reduceLeDiff, Nat.zero_le, not_true_eq_false, not_false_eq_true, cat2_n, cat2_i, cat2_r, ws_0, ws_i, ws_r, ws_l, ws_d, aftr_n, aftr_s, bI_ok, bI_t, bI_f, up_s, up_n, n_bit, decide_true, decide_false, Bool.not_true, Bool.not_false, Bool.and_true, Bool.true_and, Bool.false_and, Bool.and_false, va_rf_s, n_nlt0, k_0, k_67, k_68, k_465, k_466, k_467, k_468, k_469, k_470, k_471, k_472, k_565, r_0_0, r_0_1, r_0_2, r_0_3, r_0_4, r_0_5, r_67_0, r_465_0, r_467_0, r_467_2, r_470_0, r_470_1, va_rf_s, n_neg_t, n_neg_f, k_0, k_67, k_68, k_465, k_466, k_467, k_468, k_469, k_470, k_471, k_472, k_565, r_0_0, r_0_1, r_0_2, r_0_3, r_0_4, r_0_5, r_67_0, r_465_0, r_467_0, r_467_2, r_470_0, r_470_1, va_rf_s]
  refine c79 ha hf ht hw hg hm hz hv0 ⟨fun e0 I1 q1 w1 g1 => ?_, fun e0 I1 w1 g1 => ?_⟩
  · simp (disch := omega) only [v212_10, v212_11, v212_12, v212_15, v212_17, v212_18, v212_19, v212_21, v212_22, v212_23, v212_24, n_cl, n_in_t, n_lt_t, n_lt_f, n_eq_t, n_eq_f, n_sub, nI_add, n_mul, n_01, ↓reduceIte, if_true, if_false, eq_self, true_or, or_true, and_self, and_true, true_and, Nat.reduceAdd, Nat.reduceMul, Nat.reduceLeDiff, Nat.zero_le, not_true_eq_false, not_false_eq_true, cat2_n, cat2_i, cat2_r, ws_0, ws_i, ws_r, ws_l, ws_d, aftr_n, aftr_s, bI_ok, bI_t, bI_f, up_s, up_n, n_bit, decide_true, decide_false, Bool.not_true, Bool.not_false, Bool.and_true, Bool.true_and, Bool.false_and, Bool.and_false, va_rf_s, n_nlt0, k_0, k_67, k_68, k_465, k_466, k_467, k_468, k_469, k_470, k_471, k_472, k_565, r_0_0, r_0_1, r_0_2, r_0_3, r_0_4, r_0_5, r_67_0, r_465_0, r_467_0, r_467_2, r_470_0, r_470_1, va_rf_s, n_neg_t, n_neg_f, k_0, k_67, k_68, k_465, k_466, k_467, k_468, k_469, k_470, k_471, k_472, k_565, r_0_0, r_0_1, r_0_2, r_0_3, r_0_4, r_0_5, r_67_0, r_465_0, r_467_0, r_467_2, r_470_0, r_470_1, va_rf_s, k_577]
    exact hQ.1 e0 I1 q1 w1 g1
  · have hq := hQ.2 e0 I1 w1 g1
    rcases (show (opIfSet (A, n, H, B) a f t).1 = 1 ∨ (opIfSet (A, n, H, B) a f t).1 = 2 by omega) with hq1 | hq1
    · rw [hq1] at hq ⊢
      refine (?_ : aftr (X z) mT 212 7 _ _ _ Q (.inr 2) _)
      rw [a212_2]
      intro qq
      simp (disch := omega) only [v212_15, v212_17, v212_18, n_cl, n_in_t, n_lt_t, n_lt_f, n_eq_t, n_eq_f, n_sub, nI_add, n_mul, n_01, ↓reduceIte, if_true, if_false, eq_self, true_or, or_true, and_self, and_true, true_and, Nat.reduceAdd, Nat.reduceMul, Nat.reduceLeDiff, Nat.zero_le, not_true_eq_false, not_false_eq_true, cat2_n, cat2_i, cat2_r, ws_0, ws_i, ws_r, ws_l, ws_d, aftr_n, aftr_s, bI_ok, bI_t, bI_f, up_s, up_n, n_bit, decide_true, decide_false, Bool.not_true, Bool.not_false, Bool.and_true, Bool.true_and, Bool.false_and, Bool.and_false, va_rf_s, n_nlt0, k_0, k_67, k_68, k_465, k_466, k_467, k_468, k_469, k_470, k_471, k_472, k_565, r_0_0, r_0_1, r_0_2, r_0_3, r_0_4, r_0_5, r_67_0, r_465_0, r_467_0, r_467_2, r_470_0, r_470_1, va_rf_s, n_neg_t, n_neg_f, k_0, k_67, k_68, k_465, k_466, k_467, k_468, k_469, k_470, k_471, k_472, k_565, r_0_0, r_0_1, r_0_2, r_0_3, r_0_4, r_0_5, r_67_0, r_465_0, r_467_0, r_467_2, r_470_0, r_470_1, va_rf_s]
      exact hq
    · rw [hq1] at hq ⊢
      refine (?_ : aftr (X z) mT 212 7 _ _ _ Q (.inr 0) _)
      rw [a212_0]
      intro qq
      simp (disch := omega) only [v212_19, v212_21, v212_22, n_cl, n_in_t, n_lt_t, n_lt_f, n_eq_t, n_eq_f, n_sub, nI_add, n_mul, n_01, ↓reduceIte, if_true, if_false, eq_self, true_or, or_true, and_self, and_true, true_and, Nat.reduceAdd, Nat.reduceMul, Nat.reduceLeDiff, Nat.zero_le, not_true_eq_false, not_false_eq_true, cat2_n, cat2_i, cat2_r, ws_0, ws_i, ws_r, ws_l, ws_d, aftr_n, aftr_s, bI_ok, bI_t, bI_f, up_s, up_n, n_bit, decide_true, decide_false, Bool.not_true, Bool.not_false, Bool.and_true, Bool.true_and, Bool.false_and, Bool.and_false, va_rf_s, n_nlt0, k_0, k_67, k_68, k_465, k_466, k_467, k_468, k_469, k_470, k_471, k_472, k_565, r_0_0, r_0_1, r_0_2, r_0_3, r_0_4, r_0_5, r_67_0, r_465_0, r_467_0, r_467_2, r_470_0, r_470_1, va_rf_s, n_neg_t, n_neg_f, k_0, k_67, k_68, k_465, k_466, k_467, k_468, k_469, k_470, k_471, k_472, k_565, r_0_0, r_0_1, r_0_2, r_0_3, r_0_4, r_0_5, r_67_0, r_465_0, r_467_0, r_467_2, r_470_0, r_470_1, va_rf_s]
      exact hq
theorem o213 {w : Wd} {a : Nat} : (opRdy w a).1 ≤ 1 := by
  unfold opRdy
  repeat' split
  all_goals (dsimp only; omega)
theorem a213_2 {ls : Lcs} {rest : List Value} {cu : Nat × Nat} {σ : Mem} : aftr (X z) mT 213 4 ls rest cu Q (.inr 2) σ = ∀ q : Nat, X z 213 12 ls [.ref q] cu σ Q := rfl
set_option maxHeartbeats 4000000 in
theorem c213 {a : Nat} (ha : a < 4294967296) (hw : CSt b I q (A, n, H, B)) (hg : GoodW (A, n, H, B)) (hm : Sm A) (hQ : LQ Q KL RL L sz ex b I q (opRdy (A, n, H, B) a)) : X z 213 0 [some (.ref (ad b 0)), some (.int (nI a)), some (.ref (ad b 577)), none] [] (0, 0) (KAt KL b, I, RAt RL b q, L, sz, ex) Q := by
  have ol := o213 (w := (A, n, H, B)) (a := a)
  simp (disch := omega) only [v213_0, v213_1, v213_2, v213_3, u213_4, n_cl, n_in_t, n_lt_t, n_lt_f, n_eq_t, n_eq_f, n_sub, nI_add, n_mul, n_01, ↓reduceIte, if_true, if_false, eq_self, true_or, or_true, and_self, and_true, true_and, Nat.reduceAdd, Nat.reduceMul, Nat.reduceLeDiff, Nat.zero_le, not_true_eq_false, not_false_eq_true, cat2_n, cat2_i, cat2_r, ws_0, ws_i, ws_r, ws_l, ws_d, aftr_n, aftr_s, bI_ok, bI_t, bI_f, up_s, up_n, n_bit, decide_true, decide_false, Bool.not_true, Bool.not_false, Bool.and_true, Bool.true_and, Bool.false_and, Bool.and_false, va_rf_s, n_nlt0, k_0, k_67, k_68, k_465, k_466, k_467, k_468, k_469, k_470, k_471, k_472, k_565, r_0_0, r_0_1, r_0_2, r_0_3, r_0_4, r_0_5, r_67_0, r_465_0, r_467_0, r_467_2, r_470_0, r_470_1, va_rf_s, n_neg_t, n_neg_f, k_0, k_67, k_68, k_465, k_466, k_467, k_468, k_469, k_470, k_471, k_472, k_565, r_0_0, r_0_1, r_0_2, r_0_3, r_0_4, r_0_5, r_67_0, r_465_0, r_467_0, r_467_2, r_470_0, r_470_1, va_rf_s]
  refine c82 ha hw hg hm ⟨fun e0 I1 q1 w1 g1 => ?_, fun e0 I1 w1 g1 => ?_⟩
  · simp (disch := omega) only [v213_7, v213_8, v213_9, v213_12, v213_13, v213_14, v213_15, v213_16, n_cl, n_in_t, n_lt_t, n_lt_f, n_eq_t, n_eq_f, n_sub, nI_add, n_mul, n_01, ↓reduceIte, if_true, if_false, eq_self, true_or, or_true, and_self, and_true, true_and, Nat.reduceAdd, Nat.reduceMul, Nat.reduceLeDiff, Nat.zero_le, not_true_eq_false, not_false_eq_true, cat2_n, cat2_i, cat2_r, ws_0, ws_i, ws_r, ws_l, ws_d, aftr_n, aftr_s, bI_ok, bI_t, bI_f, up_s, up_n, n_bit, decide_true, decide_false, Bool.not_true, Bool.not_false, Bool.and_true, Bool.true_and, Bool.false_and, Bool.and_false, va_rf_s, n_nlt0, k_0, k_67, k_68, k_465, k_466, k_467, k_468, k_469, k_470, k_471, k_472, k_565, r_0_0, r_0_1, r_0_2, r_0_3, r_0_4, r_0_5, r_67_0, r_465_0, r_467_0, r_467_2, r_470_0, r_470_1, va_rf_s, n_neg_t, n_neg_f, k_0, k_67, k_68, k_465, k_466, k_467, k_468, k_469, k_470, k_471, k_472, k_565, r_0_0, r_0_1, r_0_2, r_0_3, r_0_4, r_0_5, r_67_0, r_465_0, r_467_0, r_467_2, r_470_0, r_470_1, va_rf_s, k_577]
    exact hQ.1 e0 I1 q1 w1 g1
  · have hq := hQ.2 e0 I1 w1 g1
    have hq1 : (opRdy (A, n, H, B) a).1 = 1 := by omega
    · rw [hq1] at hq ⊢
      refine (?_ : aftr (X z) mT 213 4 _ _ _ Q (.inr 2) _)
      rw [a213_2]
      intro qq
      simp (disch := omega) only [v213_12, v213_13, v213_14, n_cl, n_in_t, n_lt_t, n_lt_f, n_eq_t, n_eq_f, n_sub, nI_add, n_mul, n_01, ↓reduceIte, if_true, if_false, eq_self, true_or, or_true, and_self, and_true, true_and, Nat.reduceAdd, Nat.reduceMul, Nat.reduceLeDiff, Nat.zero_le, not_true_eq_false, not_false_eq_true, cat2_n, cat2_i, cat2_r, ws_0, ws_i, ws_r, ws_l, ws_d, aftr_n, aftr_s, bI_ok, bI_t, bI_f, up_s, up_n, n_bit, decide_true, decide_false, Bool.not_true, Bool.not_false, Bool.and_true, Bool.true_and, Bool.false_and, Bool.and_false, va_rf_s, n_nlt0, k_0, k_67, k_68, k_465, k_466, k_467, k_468, k_469, k_470, k_471, k_472, k_565, r_0_0, r_0_1, r_0_2, r_0_3, r_0_4, r_0_5, r_67_0, r_465_0, r_467_0, r_467_2, r_470_0, r_470_1, va_rf_s, n_neg_t, n_neg_f, k_0, k_67, k_68, k_465, k_466, k_467, k_468, k_469, k_470, k_471, k_472, k_565, r_0_0, r_0_1, r_0_2, r_0_3, r_0_4, r_0_5, r_67_0, r_465_0, r_467_0, r_467_2, r_470_0, r_470_1, va_rf_s]
      exact hq
end LW
