/-! THE CLASS: grammar, words, fields -/
def artI (n : Nat) : Nat := if n = 4 then 101 else if n = 2 then 102 else 103
theorem SZ.art {KL : Nat → Nat × Nat} {RL : Nat → Nat → Option Nat} {b : Nat} {I : Nat → Nat → Int32} {z : P0} (h : SZ KL RL b I z) {n : Nat} (hn : n = 4 ∨ n = 2 ∨ n = 1) : SO KL RL b I (z.1 (artI n)) (artT n) := by
  rcases hn with rfl | rfl | rfl
  · exact h.2.2.1
  · exact h.2.2.2.1
  · exact h.2.2.2.2
theorem artN_c {A : Row} {w : Nat} : artN A w = 4 ∨ artN A w = 2 ∨ artN A w = 1 := by unfold artN; split <;> (try split) <;> omega
section CG
variable {z : P0} {KL : Nat → Nat × Nat} {RL : Nat → Nat → Option Nat} {q : Nat → Nat} {b : Nat} {I : Nat → Nat → Int32} {L : Nat → Nat → Int64} {sz : Nat} {ex : Bool} {Q : Res → Mem → Prop} {A : Row}
variable {t : List Nat} {s p i : Nat} {g : List Nat}
set_option maxHeartbeats 4000000 in
theorem c56 {w : Nat} (hs : isS s) (hg : Good A) (hw : w < A 7) (h : WR b I (s + 46 + 2 * w) (s + 47 + 2 * w) A w) : X z 56 0 [some (.ref (ad b (s + 46 + 2 * w))), none, none] [] (0, 0) (KAt KL b, I, RAt RL b q, L, sz, ex) Q = Q (.inl (some (.ref (z.1 (artI (artN A w)))))) (KAt KL b, I, RAt RL b q, L, sz, ex) := by
  have h7 := hg.1.2.1
  obtain ⟨q1, q2, q3, q4⟩ := hg.2.2.2.1 w hw
  obtain ⟨w1, w2, w3⟩ := h
  have w0 : I (ad b (s + 47 + 2 * w)) 0 = nI (A (333 + 8 * w)) := w3 0 (by omega)
  have c0 := q4 0 (by omega)
  rw [Nat.add_zero] at c0
  unfold isLet at c0
  unfold artN vowel
  by_cases e0 : A (323 + w) = 1
  · rw [if_pos e0]
    simp (disch := omega) only [v56_0, v56_1, v56_4, v56_7, v56_9, v56_10, v56_11, v56_14, v56_15, v56_16, v56_17, v56_18, v56_20, v56_23, v56_24, v56_26, v56_29, v56_30, v56_32, v56_35, v56_36, v56_38, v56_41, v56_42, v56_44, v56_47, v56_48, v56_51, v56_52, v56_53, v56_54, v56_57, v56_59, v56_62, v56_64, n_cl, n_in_t, n_lt_t, n_lt_f, n_eq_t, n_eq_f, n_sub, nI_add, n_mul, n_01, ↓reduceIte, if_true, if_false, eq_self, true_or, or_true, and_self, and_true, true_and, Nat.reduceAdd, Nat.reduceMul, Nat.reduceLeDiff, Nat.zero_le, not_true_eq_false, not_false_eq_true, cat2_n, cat2_i, cat2_r, ws_0, ws_i, ws_r, ws_l, ws_d, aftr_n, aftr_s, bI_ok, bI_t, bI_f, up_s, up_n, n_bit, decide_true, decide_false, Bool.not_true, Bool.not_false, Bool.and_true, Bool.true_and, Bool.false_and, Bool.and_false, va_rf_s, n_nlt0, k_0, k_67, k_68, k_465, k_466, k_467, k_468, k_469, k_470, k_471, k_472, k_565, r_0_0, r_0_1, r_0_2, r_0_3, r_0_4, r_0_5, r_67_0, r_465_0, r_467_0, r_467_2, r_470_0, r_470_1, va_rf_s, n_neg_t, n_neg_f, kS0 hs, kS1 hs, kS2 hs, kS3 hs, kS4 hs, kS5 hs, kSp hs, kSn hs, kSw hs, kSl hs, rS0_0 hs, rS0_2 hs, rS0_4 hs, rS0_5 hs, rS3_0 hs, rS1 hs, rS2 hs, rSp hs, rSw hs, w2]
    rfl
  · rw [if_neg e0]
    by_cases e1 : A (333 + 8 * w) = 97
    · rw [if_pos (by simp [e1])]; simp (disch := omega) only [v56_0, v56_1, v56_4, v56_7, v56_9, v56_10, v56_11, v56_14, v56_15, v56_16, v56_17, v56_18, v56_20, v56_23, v56_24, v56_26, v56_29, v56_30, v56_32, v56_35, v56_36, v56_38, v56_41, v56_42, v56_44, v56_47, v56_48, v56_51, v56_52, v56_53, v56_54, v56_57, v56_59, v56_62, v56_64, n_cl, n_in_t, n_lt_t, n_lt_f, n_eq_t, n_eq_f, n_sub, nI_add, n_mul, n_01, ↓reduceIte, if_true, if_false, eq_self, true_or, or_true, and_self, and_true, true_and, Nat.reduceAdd, Nat.reduceMul, Nat.reduceLeDiff, Nat.zero_le, not_true_eq_false, not_false_eq_true, cat2_n, cat2_i, cat2_r, ws_0, ws_i, ws_r, ws_l, ws_d, aftr_n, aftr_s, bI_ok, bI_t, bI_f, up_s, up_n, n_bit, decide_true, decide_false, Bool.not_true, Bool.not_false, Bool.and_true, Bool.true_and, Bool.false_and, Bool.and_false, va_rf_s, n_nlt0, k_0, k_67, k_68, k_465, k_466, k_467, k_468, k_469, k_470, k_471, k_472, k_565, r_0_0, r_0_1, r_0_2, r_0_3, r_0_4, r_0_5, r_67_0, r_465_0, r_467_0, r_467_2, r_470_0, r_470_1, va_rf_s, n_neg_t, n_neg_f, kS0 hs, kS1 hs, kS2 hs, kS3 hs, kS4 hs, kS5 hs, kSp hs, kSn hs, kSw hs, kSl hs, rS0_0 hs, rS0_2 hs, rS0_4 hs, rS0_5 hs, rS3_0 hs, rS1 hs, rS2 hs, rSp hs, rSw hs, w2, w0]; rfl
    · by_cases e2 : A (333 + 8 * w) = 101
      · rw [if_pos (by simp [e2])]; simp (disch := omega) only [v56_0, v56_1, v56_4, v56_7, v56_9, v56_10, v56_11, v56_14, v56_15, v56_16, v56_17, v56_18, v56_20, v56_23, v56_24, v56_26, v56_29, v56_30, v56_32, v56_35, v56_36, v56_38, v56_41, v56_42, v56_44, v56_47, v56_48, v56_51, v56_52, v56_53, v56_54, v56_57, v56_59, v56_62, v56_64, n_cl, n_in_t, n_lt_t, n_lt_f, n_eq_t, n_eq_f, n_sub, nI_add, n_mul, n_01, ↓reduceIte, if_true, if_false, eq_self, true_or, or_true, and_self, and_true, true_and, Nat.reduceAdd, Nat.reduceMul, Nat.reduceLeDiff, Nat.zero_le, not_true_eq_false, not_false_eq_true, cat2_n, cat2_i, cat2_r, ws_0, ws_i, ws_r, ws_l, ws_d, aftr_n, aftr_s, bI_ok, bI_t, bI_f, up_s, up_n, n_bit, decide_true, decide_false, Bool.not_true, Bool.not_false, Bool.and_true, Bool.true_and, Bool.false_and, Bool.and_false, va_rf_s, n_nlt0, k_0, k_67, k_68, k_465, k_466, k_467, k_468, k_469, k_470, k_471, k_472, k_565, r_0_0, r_0_1, r_0_2, r_0_3, r_0_4, r_0_5, r_67_0, r_465_0, r_467_0, r_467_2, r_470_0, r_470_1, va_rf_s, n_neg_t, n_neg_f, kS0 hs, kS1 hs, kS2 hs, kS3 hs, kS4 hs, kS5 hs, kSp hs, kSn hs, kSw hs, kSl hs, rS0_0 hs, rS0_2 hs, rS0_4 hs, rS0_5 hs, rS3_0 hs, rS1 hs, rS2 hs, rSp hs, rSw hs, w2, w0]; rfl
      · by_cases e3 : A (333 + 8 * w) = 105
        · rw [if_pos (by simp [e3])]; simp (disch := omega) only [v56_0, v56_1, v56_4, v56_7, v56_9, v56_10, v56_11, v56_14, v56_15, v56_16, v56_17, v56_18, v56_20, v56_23, v56_24, v56_26, v56_29, v56_30, v56_32, v56_35, v56_36, v56_38, v56_41, v56_42, v56_44, v56_47, v56_48, v56_51, v56_52, v56_53, v56_54, v56_57, v56_59, v56_62, v56_64, n_cl, n_in_t, n_lt_t, n_lt_f, n_eq_t, n_eq_f, n_sub, nI_add, n_mul, n_01, ↓reduceIte, if_true, if_false, eq_self, true_or, or_true, and_self, and_true, true_and, Nat.reduceAdd, Nat.reduceMul, Nat.reduceLeDiff, Nat.zero_le, not_true_eq_false, not_false_eq_true, cat2_n, cat2_i, cat2_r, ws_0, ws_i, ws_r, ws_l, ws_d, aftr_n, aftr_s, bI_ok, bI_t, bI_f, up_s, up_n, n_bit, decide_true, decide_false, Bool.not_true, Bool.not_false, Bool.and_true, Bool.true_and, Bool.false_and, Bool.and_false, va_rf_s, n_nlt0, k_0, k_67, k_68, k_465, k_466, k_467, k_468, k_469, k_470, k_471, k_472, k_565, r_0_0, r_0_1, r_0_2, r_0_3, r_0_4, r_0_5, r_67_0, r_465_0, r_467_0, r_467_2, r_470_0, r_470_1, va_rf_s, n_neg_t, n_neg_f, kS0 hs, kS1 hs, kS2 hs, kS3 hs, kS4 hs, kS5 hs, kSp hs, kSn hs, kSw hs, kSl hs, rS0_0 hs, rS0_2 hs, rS0_4 hs, rS0_5 hs, rS3_0 hs, rS1 hs, rS2 hs, rSp hs, rSw hs, w2, w0]; rfl
        · by_cases e4 : A (333 + 8 * w) = 111
          · rw [if_pos (by simp [e4])]; simp (disch := omega) only [v56_0, v56_1, v56_4, v56_7, v56_9, v56_10, v56_11, v56_14, v56_15, v56_16, v56_17, v56_18, v56_20, v56_23, v56_24, v56_26, v56_29, v56_30, v56_32, v56_35, v56_36, v56_38, v56_41, v56_42, v56_44, v56_47, v56_48, v56_51, v56_52, v56_53, v56_54, v56_57, v56_59, v56_62, v56_64, n_cl, n_in_t, n_lt_t, n_lt_f, n_eq_t, n_eq_f, n_sub, nI_add, n_mul, n_01, ↓reduceIte, if_true, if_false, eq_self, true_or, or_true, and_self, and_true, true_and, Nat.reduceAdd, Nat.reduceMul, Nat.reduceLeDiff, Nat.zero_le, not_true_eq_false, not_false_eq_true, cat2_n, cat2_i, cat2_r, ws_0, ws_i, ws_r, ws_l, ws_d, aftr_n, aftr_s, bI_ok, bI_t, bI_f, up_s, up_n, n_bit, decide_true, decide_false, Bool.not_true, Bool.not_false, Bool.and_true, Bool.true_and, Bool.false_and, Bool.and_false, va_rf_s, n_nlt0, k_0, k_67, k_68, k_465, k_466, k_467, k_468, k_469, k_470, k_471, k_472, k_565, r_0_0, r_0_1, r_0_2, r_0_3, r_0_4, r_0_5, r_67_0, r_465_0, r_467_0, r_467_2, r_470_0, r_470_1, va_rf_s, n_neg_t, n_neg_f, kS0 hs, kS1 hs, kS2 hs, kS3 hs, kS4 hs, kS5 hs, kSp hs, kSn hs, kSw hs, kSl hs, rS0_0 hs, rS0_2 hs, rS0_4 hs, rS0_5 hs, rS3_0 hs, rS1 hs, rS2 hs, rSp hs, rSw hs, w2, w0]; rfl
          · by_cases e5 : A (333 + 8 * w) = 117
            · rw [if_pos (by simp [e5])]; simp (disch := omega) only [v56_0, v56_1, v56_4, v56_7, v56_9, v56_10, v56_11, v56_14, v56_15, v56_16, v56_17, v56_18, v56_20, v56_23, v56_24, v56_26, v56_29, v56_30, v56_32, v56_35, v56_36, v56_38, v56_41, v56_42, v56_44, v56_47, v56_48, v56_51, v56_52, v56_53, v56_54, v56_57, v56_59, v56_62, v56_64, n_cl, n_in_t, n_lt_t, n_lt_f, n_eq_t, n_eq_f, n_sub, nI_add, n_mul, n_01, ↓reduceIte, if_true, if_false, eq_self, true_or, or_true, and_self, and_true, true_and, Nat.reduceAdd, Nat.reduceMul, Nat.reduceLeDiff, Nat.zero_le, not_true_eq_false, not_false_eq_true, cat2_n, cat2_i, cat2_r, ws_0, ws_i, ws_r, ws_l, ws_d, aftr_n, aftr_s, bI_ok, bI_t, bI_f, up_s, up_n, n_bit, decide_true, decide_false, Bool.not_true, Bool.not_false, Bool.and_true, Bool.true_and, Bool.false_and, Bool.and_false, va_rf_s, n_nlt0, k_0, k_67, k_68, k_465, k_466, k_467, k_468, k_469, k_470, k_471, k_472, k_565, r_0_0, r_0_1, r_0_2, r_0_3, r_0_4, r_0_5, r_67_0, r_465_0, r_467_0, r_467_2, r_470_0, r_470_1, va_rf_s, n_neg_t, n_neg_f, kS0 hs, kS1 hs, kS2 hs, kS3 hs, kS4 hs, kS5 hs, kSp hs, kSn hs, kSw hs, kSl hs, rS0_0 hs, rS0_2 hs, rS0_4 hs, rS0_5 hs, rS3_0 hs, rS1 hs, rS2 hs, rSp hs, rSw hs, w2, w0]; rfl
            · rw [if_neg (by simp [e1, e2, e3, e4, e5])]; simp (disch := omega) only [v56_0, v56_1, v56_4, v56_7, v56_9, v56_10, v56_11, v56_14, v56_15, v56_16, v56_17, v56_18, v56_20, v56_23, v56_24, v56_26, v56_29, v56_30, v56_32, v56_35, v56_36, v56_38, v56_41, v56_42, v56_44, v56_47, v56_48, v56_51, v56_52, v56_53, v56_54, v56_57, v56_59, v56_62, v56_64, n_cl, n_in_t, n_lt_t, n_lt_f, n_eq_t, n_eq_f, n_sub, nI_add, n_mul, n_01, ↓reduceIte, if_true, if_false, eq_self, true_or, or_true, and_self, and_true, true_and, Nat.reduceAdd, Nat.reduceMul, Nat.reduceLeDiff, Nat.zero_le, not_true_eq_false, not_false_eq_true, cat2_n, cat2_i, cat2_r, ws_0, ws_i, ws_r, ws_l, ws_d, aftr_n, aftr_s, bI_ok, bI_t, bI_f, up_s, up_n, n_bit, decide_true, decide_false, Bool.not_true, Bool.not_false, Bool.and_true, Bool.true_and, Bool.false_and, Bool.and_false, va_rf_s, n_nlt0, k_0, k_67, k_68, k_465, k_466, k_467, k_468, k_469, k_470, k_471, k_472, k_565, r_0_0, r_0_1, r_0_2, r_0_3, r_0_4, r_0_5, r_67_0, r_465_0, r_467_0, r_467_2, r_470_0, r_470_1, va_rf_s, n_neg_t, n_neg_f, kS0 hs, kS1 hs, kS2 hs, kS3 hs, kS4 hs, kS5 hs, kSp hs, kSn hs, kSw hs, kSl hs, rS0_0 hs, rS0_2 hs, rS0_4 hs, rS0_5 hs, rS3_0 hs, rS1 hs, rS2 hs, rSp hs, rSw hs, w2, w0]; rfl
theorem l13 {f : Nat} (hs : isS s) (hp : isM p) (hi : i < 20) (hg : Good A) (ok : OkL A g) (hz : SZ KL RL b I z) (hx : CX b I s p i A g) (ht : CT b I t) (hf : f < 3) (hl : t.length + 3 ≤ 1660) (hQ1 : (∀ c ∈ g, A (33 + c) = f) → X z 13 59 [some (.ref (ad b 467)), some (.ref (ad b s)), some (.ref (ad b (p + 6 + 2 * i))), some (.int (nI f)), some (.int (nI g.length))] [] (0, 0) (KAt KL b, I, RAt RL b q, L, sz, ex) Q) (hQ2 : ¬ (∀ c ∈ g, A (33 + c) = f) → ∀ I', CT b I' (t ++ [97, 108, 108]) → Ag pCx b I I' → Q (.inl none) (KAt KL b, I', RAt RL b q, L, sz, ex)) :
    ∀ (r : List Nat) k, k + r.length = g.length → (∀ j, j < r.length → g.getD (k + j) 0 = r.getD j 0) → ((∀ c ∈ r, A (33 + c) = f) → ∀ c ∈ g, A (33 + c) = f) → X z 13 18 [some (.ref (ad b 467)), some (.ref (ad b s)), some (.ref (ad b (p + 6 + 2 * i))), some (.int (nI f)), some (.int (nI k))] [] (0, 0) (KAt KL b, I, RAt RL b q, L, sz, ex) Q := by
  have h6 := hg.1.1
  have gl := ok.2.2.2.1
  have d1 := hx.2.1
  intro r
  induction r with
  | nil =>
    intro k hk hr hall
    rw [List.length_nil, Nat.add_zero] at hk
    have := hQ1 (hall (fun c hc => absurd hc List.not_mem_nil))
    rw [v13_18, hk]
    simp (disch := omega) only [v13_20, v13_21, v13_24, v13_27, v13_28, v13_31, v13_32, v13_35, v13_37, v13_38, v13_39, v13_42, v13_43, v13_46, v13_47, u13_49, v13_52, v13_53, v13_56, n_cl, n_in_t, n_lt_t, n_lt_f, n_eq_t, n_eq_f, n_sub, nI_add, n_mul, n_01, ↓reduceIte, if_true, if_false, eq_self, true_or, or_true, and_self, and_true, true_and, Nat.reduceAdd, Nat.reduceMul, Nat.reduceLeDiff, Nat.zero_le, not_true_eq_false, not_false_eq_true, cat2_n, cat2_i, cat2_r, ws_0, ws_i, ws_r, ws_l, ws_d, aftr_n, aftr_s, bI_ok, bI_t, bI_f, up_s, up_n, n_bit, decide_true, decide_false, Bool.not_true, Bool.not_false, Bool.and_true, Bool.true_and, Bool.false_and, Bool.and_false, va_rf_s, n_nlt0, k_0, k_67, k_68, k_465, k_466, k_467, k_468, k_469, k_470, k_471, k_472, k_565, r_0_0, r_0_1, r_0_2, r_0_3, r_0_4, r_0_5, r_67_0, r_465_0, r_467_0, r_467_2, r_470_0, r_470_1, va_rf_s, n_neg_t, n_neg_f, kM0 hp, kM1 hp, kM2 hp, kM3 hp, kM4 hp, kM5 hp, kMd hp, kMa hp, rM0_0 hp, rM0_2 hp, rM0_3 hp, rM0_4 hp, rM0_5 hp, rM0_6 hp, rM0_7 hp, rM1 hp, rMd hp, kS0 hs, kS1 hs, kS2 hs, kS3 hs, kS4 hs, kS5 hs, kSp hs, kSn hs, kSw hs, kSl hs, rS0_0 hs, rS0_2 hs, rS0_4 hs, rS0_5 hs, rS3_0 hs, rS1 hs, rS2 hs, rSp hs, rSw hs, d1]
    exact this
  | cons c r ih =>
    intro k hk hr hall
    obtain ⟨hB1, hB2⟩ := getD_tail hr
    rw [List.length_cons] at hk
    have d2 := hx.2.2 k (by omega)
    rw [hB1] at d2
    have hm : c ∈ g := by rw [← hB1, List.getD_eq_getElem?_getD, List.getElem?_eq_getElem (by omega)]; exact List.getElem_mem _
    have hc : c < A 6 := ok.2.2.1 c hm
    have q1 := (hg.2.2.1 c hc).2.1
    have pf := (hx.1.2.1 c hc).2.2.1
    rw [v13_18]
    by_cases e : A (33 + c) = f
    · simp (disch := omega) only [v13_20, v13_21, v13_24, v13_27, v13_28, v13_31, v13_32, v13_35, v13_37, v13_38, v13_39, v13_42, v13_43, v13_46, v13_47, u13_49, v13_52, v13_53, v13_56, n_cl, n_in_t, n_lt_t, n_lt_f, n_eq_t, n_eq_f, n_sub, nI_add, n_mul, n_01, ↓reduceIte, if_true, if_false, eq_self, true_or, or_true, and_self, and_true, true_and, Nat.reduceAdd, Nat.reduceMul, Nat.reduceLeDiff, Nat.zero_le, not_true_eq_false, not_false_eq_true, cat2_n, cat2_i, cat2_r, ws_0, ws_i, ws_r, ws_l, ws_d, aftr_n, aftr_s, bI_ok, bI_t, bI_f, up_s, up_n, n_bit, decide_true, decide_false, Bool.not_true, Bool.not_false, Bool.and_true, Bool.true_and, Bool.false_and, Bool.and_false, va_rf_s, n_nlt0, k_0, k_67, k_68, k_465, k_466, k_467, k_468, k_469, k_470, k_471, k_472, k_565, r_0_0, r_0_1, r_0_2, r_0_3, r_0_4, r_0_5, r_67_0, r_465_0, r_467_0, r_467_2, r_470_0, r_470_1, va_rf_s, n_neg_t, n_neg_f, kM0 hp, kM1 hp, kM2 hp, kM3 hp, kM4 hp, kM5 hp, kMd hp, kMa hp, rM0_0 hp, rM0_2 hp, rM0_3 hp, rM0_4 hp, rM0_5 hp, rM0_6 hp, rM0_7 hp, rM1 hp, rMd hp, kS0 hs, kS1 hs, kS2 hs, kS3 hs, kS4 hs, kS5 hs, kSp hs, kSn hs, kSw hs, kSl hs, rS0_0 hs, rS0_2 hs, rS0_4 hs, rS0_5 hs, rS3_0 hs, rS1 hs, rS2 hs, rSp hs, rSw hs, d1, d2, pf]
      exact ih (k + 1) (by omega) hB2 (fun h => hall (fun x hx => by
        rcases List.mem_cons.mp hx with h' | h'
        · rw [h']; exact e
        · exact h x h'))
    · simp (disch := omega) only [v13_20, v13_21, v13_24, v13_27, v13_28, v13_31, v13_32, v13_35, v13_37, v13_38, v13_39, v13_42, v13_43, v13_46, v13_47, u13_49, v13_52, v13_53, v13_56, n_cl, n_in_t, n_lt_t, n_lt_f, n_eq_t, n_eq_f, n_sub, nI_add, n_mul, n_01, ↓reduceIte, if_true, if_false, eq_self, true_or, or_true, and_self, and_true, true_and, Nat.reduceAdd, Nat.reduceMul, Nat.reduceLeDiff, Nat.zero_le, not_true_eq_false, not_false_eq_true, cat2_n, cat2_i, cat2_r, ws_0, ws_i, ws_r, ws_l, ws_d, aftr_n, aftr_s, bI_ok, bI_t, bI_f, up_s, up_n, n_bit, decide_true, decide_false, Bool.not_true, Bool.not_false, Bool.and_true, Bool.true_and, Bool.false_and, Bool.and_false, va_rf_s, n_nlt0, k_0, k_67, k_68, k_465, k_466, k_467, k_468, k_469, k_470, k_471, k_472, k_565, r_0_0, r_0_1, r_0_2, r_0_3, r_0_4, r_0_5, r_67_0, r_465_0, r_467_0, r_467_2, r_470_0, r_470_1, va_rf_s, n_neg_t, n_neg_f, kM0 hp, kM1 hp, kM2 hp, kM3 hp, kM4 hp, kM5 hp, kMd hp, kMa hp, rM0_0 hp, rM0_2 hp, rM0_3 hp, rM0_4 hp, rM0_5 hp, rM0_6 hp, rM0_7 hp, rM1 hp, rMd hp, kS0 hs, kS1 hs, kS2 hs, kS3 hs, kS4 hs, kS5 hs, kSp hs, kSn hs, kSw hs, kSl hs, rS0_0 hs, rS0_2 hs, rS0_4 hs, rS0_5 hs, rS3_0 hs, rS1 hs, rS2 hs, rSp hs, rSw hs, d1, d2, pf]
      refine c18 hz.1 ht hz.2.1 (by show t.length + 3 ≤ 1660; exact hl) (fun I1 g1 g2 => ?_)
      simp (disch := omega) only [v13_52, n_cl, n_in_t, n_lt_t, n_lt_f, n_eq_t, n_eq_f, n_sub, nI_add, n_mul, n_01, ↓reduceIte, if_true, if_false, eq_self, true_or, or_true, and_self, and_true, true_and, Nat.reduceAdd, Nat.reduceMul, Nat.reduceLeDiff, Nat.zero_le, not_true_eq_false, not_false_eq_true, cat2_n, cat2_i, cat2_r, ws_0, ws_i, ws_r, ws_l, ws_d, aftr_n, aftr_s, bI_ok, bI_t, bI_f, up_s, up_n, n_bit, decide_true, decide_false, Bool.not_true, Bool.not_false, Bool.and_true, Bool.true_and, Bool.false_and, Bool.and_false, va_rf_s, n_nlt0, k_0, k_67, k_68, k_465, k_466, k_467, k_468, k_469, k_470, k_471, k_472, k_565, r_0_0, r_0_1, r_0_2, r_0_3, r_0_4, r_0_5, r_67_0, r_465_0, r_467_0, r_467_2, r_470_0, r_470_1, va_rf_s, n_neg_t, n_neg_f]
      exact hQ2 (fun h => e (h c hm)) I1 g1 g2
set_option maxHeartbeats 4000000 in
theorem c13 (hs : isS s) (hp : isM p) (hi : i < 20) (hg : Good A) (ok : OkL A g) (hz : SZ KL RL b I z) (hx : CX b I s p i A g) (ht : CT b I t) (hl : t.length + 3 ≤ 1660) (hQ : ∀ I', CT b I' (t ++ formT A g) → Ag pCx b I I' → Q (.inl none) (KAt KL b, I', RAt RL b q, L, sz, ex)) :
    X z 13 0 [some (.ref (ad b 467)), some (.ref (ad b s)), some (.ref (ad b (p + 6 + 2 * i))), none, none] [] (0, 0) (KAt KL b, I, RAt RL b q, L, sz, ex) Q := by
  have h6 := hg.1.1
  have h7 := hg.1.2.1
  have gl := ok.2.2.2.1
  have d1 := hx.2.1
  cases hgx : g with
  | nil => exact absurd hgx ok.2.1
  | cons c r =>
    have d2 := hx.2.2 0 (by rw [hgx]; simp)
    have d2' : I (ad b (p + 7 + 2 * i)) 0 = nI c := by rw [d2, hgx]; rfl
    have hm : c ∈ g := by rw [hgx]; exact List.mem_cons_self
    have hc : c < A 6 := ok.2.2.1 c hm
    have q1 := (hg.2.2.1 c hc).2.1
    have pf := (hx.1.2.1 c hc).2.2.1
    have hh : g.headD 0 = c := by rw [hgx]; rfl
    unfold formT at hQ
    rw [hh] at hQ
    have hall : (g.all (fun p => A (33 + p) == A (33 + c)) = true) = (∀ x ∈ g, A (33 + x) = A (33 + c)) := by
      rw [List.all_eq_true]
      exact propext ⟨fun h x hx => beq_iff_eq.mp (h x hx), fun h x hx => beq_iff_eq.mpr (h x hx)⟩
    simp only [hall] at hQ
    simp (disch := omega) only [v13_0, v13_1, v13_4, v13_5, v13_8, v13_9, v13_10, v13_11, v13_14, v13_15, v13_16, n_cl, n_in_t, n_lt_t, n_lt_f, n_eq_t, n_eq_f, n_sub, nI_add, n_mul, n_01, ↓reduceIte, if_true, if_false, eq_self, true_or, or_true, and_self, and_true, true_and, Nat.reduceAdd, Nat.reduceMul, Nat.reduceLeDiff, Nat.zero_le, not_true_eq_false, not_false_eq_true, cat2_n, cat2_i, cat2_r, ws_0, ws_i, ws_r, ws_l, ws_d, aftr_n, aftr_s, bI_ok, bI_t, bI_f, up_s, up_n, n_bit, decide_true, decide_false, Bool.not_true, Bool.not_false, Bool.and_true, Bool.true_and, Bool.false_and, Bool.and_false, va_rf_s, n_nlt0, k_0, k_67, k_68, k_465, k_466, k_467, k_468, k_469, k_470, k_471, k_472, k_565, r_0_0, r_0_1, r_0_2, r_0_3, r_0_4, r_0_5, r_67_0, r_465_0, r_467_0, r_467_2, r_470_0, r_470_1, va_rf_s, n_neg_t, n_neg_f, kM0 hp, kM1 hp, kM2 hp, kM3 hp, kM4 hp, kM5 hp, kMd hp, kMa hp, rM0_0 hp, rM0_2 hp, rM0_3 hp, rM0_4 hp, rM0_5 hp, rM0_6 hp, rM0_7 hp, rM1 hp, rMd hp, kS0 hs, kS1 hs, kS2 hs, kS3 hs, kS4 hs, kS5 hs, kSp hs, kSn hs, kSw hs, kSl hs, rS0_0 hs, rS0_2 hs, rS0_4 hs, rS0_5 hs, rS3_0 hs, rS1 hs, rS2 hs, rSp hs, rSw hs, d2', pf]
    refine l13 hs hp hi hg ok hz hx ht q1 hl (fun ha => ?_) (fun ha I1 g1 g2 => hQ I1 (by rw [if_neg ha]; exact g1) g2) r 1 (by rw [hgx, List.length_cons]; omega) (fun j hj => by rw [hgx, Nat.add_comm 1 j]; rfl) (fun h x hx => by
      rw [hgx] at hx
      rcases List.mem_cons.mp hx with h' | h'
      · rw [h']
      · exact h x h')
    simp only [if_pos ha] at hQ
    simp (disch := omega) only [v13_59, v13_60, u13_61, u13_64, n_cl, n_in_t, n_lt_t, n_lt_f, n_eq_t, n_eq_f, n_sub, nI_add, n_mul, n_01, ↓reduceIte, if_true, if_false, eq_self, true_or, or_true, and_self, and_true, true_and, Nat.reduceAdd, Nat.reduceMul, Nat.reduceLeDiff, Nat.zero_le, not_true_eq_false, not_false_eq_true, cat2_n, cat2_i, cat2_r, ws_0, ws_i, ws_r, ws_l, ws_d, aftr_n, aftr_s, bI_ok, bI_t, bI_f, up_s, up_n, n_bit, decide_true, decide_false, Bool.not_true, Bool.not_false, Bool.and_true, Bool.true_and, Bool.false_and, Bool.and_false, va_rf_s, n_nlt0, k_0, k_67, k_68, k_465, k_466, k_467, k_468, k_469, k_470, k_471, k_472, k_565, r_0_0, r_0_1, r_0_2, r_0_3, r_0_4, r_0_5, r_67_0, r_465_0, r_467_0, r_467_2, r_470_0, r_470_1, va_rf_s, n_neg_t, n_neg_f, c14]
    refine c19 ht (by omega) (fun I1 g1 g2 => ?_)
    have d3 : I1 (ad b (p + 6 + 2 * i)) 1 = nI g.length := (hx.ag h6 h7 hs hp g2 pCx_3).2.1
    by_cases e2 : 1 < g.length
    · rw [if_pos e2] at hQ
      simp (disch := omega) only [v13_67, v13_68, v13_71, v13_72, v13_75, v13_76, u13_78, v13_81, n_cl, n_in_t, n_lt_t, n_lt_f, n_eq_t, n_eq_f, n_sub, nI_add, n_mul, n_01, ↓reduceIte, if_true, if_false, eq_self, true_or, or_true, and_self, and_true, true_and, Nat.reduceAdd, Nat.reduceMul, Nat.reduceLeDiff, Nat.zero_le, not_true_eq_false, not_false_eq_true, cat2_n, cat2_i, cat2_r, ws_0, ws_i, ws_r, ws_l, ws_d, aftr_n, aftr_s, bI_ok, bI_t, bI_f, up_s, up_n, n_bit, decide_true, decide_false, Bool.not_true, Bool.not_false, Bool.and_true, Bool.true_and, Bool.false_and, Bool.and_false, va_rf_s, n_nlt0, k_0, k_67, k_68, k_465, k_466, k_467, k_468, k_469, k_470, k_471, k_472, k_565, r_0_0, r_0_1, r_0_2, r_0_3, r_0_4, r_0_5, r_67_0, r_465_0, r_467_0, r_467_2, r_470_0, r_470_1, va_rf_s, n_neg_t, n_neg_f, kM0 hp, kM1 hp, kM2 hp, kM3 hp, kM4 hp, kM5 hp, kMd hp, kMa hp, rM0_0 hp, rM0_2 hp, rM0_3 hp, rM0_4 hp, rM0_5 hp, rM0_6 hp, rM0_7 hp, rM1 hp, rMd hp, d3]
      refine c19 g1 (by rw [List.length_append, List.length_singleton]; omega) (fun I2 g3 g4 => ?_)
      simp (disch := omega) only [v13_81, n_cl, n_in_t, n_lt_t, n_lt_f, n_eq_t, n_eq_f, n_sub, nI_add, n_mul, n_01, ↓reduceIte, if_true, if_false, eq_self, true_or, or_true, and_self, and_true, true_and, Nat.reduceAdd, Nat.reduceMul, Nat.reduceLeDiff, Nat.zero_le, not_true_eq_false, not_false_eq_true, cat2_n, cat2_i, cat2_r, ws_0, ws_i, ws_r, ws_l, ws_d, aftr_n, aftr_s, bI_ok, bI_t, bI_f, up_s, up_n, n_bit, decide_true, decide_false, Bool.not_true, Bool.not_false, Bool.and_true, Bool.true_and, Bool.false_and, Bool.and_false, va_rf_s, n_nlt0, k_0, k_67, k_68, k_465, k_466, k_467, k_468, k_469, k_470, k_471, k_472, k_565, r_0_0, r_0_1, r_0_2, r_0_3, r_0_4, r_0_5, r_67_0, r_465_0, r_467_0, r_467_2, r_470_0, r_470_1, va_rf_s, n_neg_t, n_neg_f]
      exact hQ I2 (by rwa [List.append_assoc] at g3) (g2.tr g4)
    · rw [if_neg e2] at hQ
      simp (disch := omega) only [v13_67, v13_68, v13_71, v13_72, v13_75, v13_76, u13_78, v13_81, n_cl, n_in_t, n_lt_t, n_lt_f, n_eq_t, n_eq_f, n_sub, nI_add, n_mul, n_01, ↓reduceIte, if_true, if_false, eq_self, true_or, or_true, and_self, and_true, true_and, Nat.reduceAdd, Nat.reduceMul, Nat.reduceLeDiff, Nat.zero_le, not_true_eq_false, not_false_eq_true, cat2_n, cat2_i, cat2_r, ws_0, ws_i, ws_r, ws_l, ws_d, aftr_n, aftr_s, bI_ok, bI_t, bI_f, up_s, up_n, n_bit, decide_true, decide_false, Bool.not_true, Bool.not_false, Bool.and_true, Bool.true_and, Bool.false_and, Bool.and_false, va_rf_s, n_nlt0, k_0, k_67, k_68, k_465, k_466, k_467, k_468, k_469, k_470, k_471, k_472, k_565, r_0_0, r_0_1, r_0_2, r_0_3, r_0_4, r_0_5, r_67_0, r_465_0, r_467_0, r_467_2, r_470_0, r_470_1, va_rf_s, n_neg_t, n_neg_f, kM0 hp, kM1 hp, kM2 hp, kM3 hp, kM4 hp, kM5 hp, kMd hp, kMa hp, rM0_0 hp, rM0_2 hp, rM0_3 hp, rM0_4 hp, rM0_5 hp, rM0_6 hp, rM0_7 hp, rM1 hp, rMd hp, d3]
      exact hQ I1 g1 g2
set_option maxHeartbeats 4000000 in
theorem l16 (hs : isS s) (hp : isM p) (hi : i < 20) (hg : Good A) (ok : OkL A g) (hw : ∀ x ∈ g, A (53 + x) < A 7) : ∀ (r acc : List Nat) k seen I (x6 : Option Value), k + r.length = g.length → (∀ j, j < r.length → g.getD (k + j) 0 = r.getD j 0) → acc.length ≤ k → seen < 1024 → (∀ j, seen.testBit j = decide (j ∈ acc)) → CX b I s p i A g → (∀ j, j < acc.length → I (ad b 469) j = nI (acc.getD j 0)) →
    (∀ I', (∀ j, j < (acc ++ nws A acc r).length → I' (ad b 469) j = nI ((acc ++ nws A acc r).getD j 0)) → Ag pCh b I I' → Q (.inl (some (.int (nI (acc ++ nws A acc r).length)))) (KAt KL b, I', RAt RL b q, L, sz, ex)) →
    X z 16 8 [some (.ref (ad b 467)), some (.ref (ad b s)), some (.ref (ad b (p + 6 + 2 * i))), some (.int (nI acc.length)), some (.int (nI seen)), some (.int (nI k)), x6] [] (0, 0) (KAt KL b, I, RAt RL b q, L, sz, ex) Q := by
  have h6 := hg.1.1
  have h7 := hg.1.2.1
  have gl := ok.2.2.2.1
  intro r
  induction r with
  | nil =>
    intro acc k seen I x6 hk hr hac hsn hT hx hch hQ
    have d1 := hx.2.1
    rw [List.length_nil, Nat.add_zero] at hk
    unfold nws at hQ
    rw [List.append_nil] at hQ
    rw [v16_8]
    simp (disch := omega) only [v16_0, v16_1, v16_2, v16_3, v16_5, v16_6, v16_10, v16_11, v16_14, v16_17, v16_18, v16_21, v16_22, v16_25, v16_27, v16_28, v16_29, v16_32, v16_34, v16_36, v16_39, v16_41, v16_42, v16_45, v16_48, v16_50, v16_51, v16_53, v16_54, v16_55, v16_58, v16_60, v16_61, v16_63, v16_64, v16_65, v16_67, v16_68, v16_71, v16_72, v16_74, v16_75, v16_78, v16_81, v16_84, v16_85, n_cl, n_in_t, n_lt_t, n_lt_f, n_eq_t, n_eq_f, n_sub, nI_add, n_mul, n_01, ↓reduceIte, if_true, if_false, eq_self, true_or, or_true, and_self, and_true, true_and, Nat.reduceAdd, Nat.reduceMul, Nat.reduceLeDiff, Nat.zero_le, not_true_eq_false, not_false_eq_true, cat2_n, cat2_i, cat2_r, ws_0, ws_i, ws_r, ws_l, ws_d, aftr_n, aftr_s, bI_ok, bI_t, bI_f, up_s, up_n, n_bit, decide_true, decide_false, Bool.not_true, Bool.not_false, Bool.and_true, Bool.true_and, Bool.false_and, Bool.and_false, va_rf_s, n_nlt0, k_0, k_67, k_68, k_465, k_466, k_467, k_468, k_469, k_470, k_471, k_472, k_565, r_0_0, r_0_1, r_0_2, r_0_3, r_0_4, r_0_5, r_67_0, r_465_0, r_467_0, r_467_2, r_470_0, r_470_1, va_rf_s, n_neg_t, n_neg_f, kM0 hp, kM1 hp, kM2 hp, kM3 hp, kM4 hp, kM5 hp, kMd hp, kMa hp, rM0_0 hp, rM0_2 hp, rM0_3 hp, rM0_4 hp, rM0_5 hp, rM0_6 hp, rM0_7 hp, rM1 hp, rMd hp, d1]
    exact hQ I hch Ag.rf
  | cons c r ih =>
    intro acc k seen I x6 hk hr hac hsn hT hx hch hQ
    obtain ⟨hB1, hB2⟩ := getD_tail hr
    rw [List.length_cons] at hk
    have d1 := hx.2.1
    have d2 := hx.2.2 k (by omega)
    rw [hB1] at d2
    have hm : c ∈ g := by rw [← hB1, List.getD_eq_getElem?_getD, List.getElem?_eq_getElem (by omega)]; exact List.getElem_mem _
    have hc : c < A 6 := ok.2.2.1 c hm
    have hwc := hw c hm
    have pf := (hx.1.2.1 c hc).2.2.2.1
    have m7 := hx.1.1.2.1
    unfold nws at hQ
    rw [v16_8]
    by_cases e : A (53 + c) ∈ acc
    · rw [if_pos e] at hQ
      have hbt : seen.testBit (A (53 + c)) = true := by rw [hT]; exact decide_eq_true e
      simp (disch := omega) only [v16_0, v16_1, v16_2, v16_3, v16_5, v16_6, v16_10, v16_11, v16_14, v16_17, v16_18, v16_21, v16_22, v16_25, v16_27, v16_28, v16_29, v16_32, v16_34, v16_36, v16_39, v16_41, v16_42, v16_45, v16_48, v16_50, v16_51, v16_53, v16_54, v16_55, v16_58, v16_60, v16_61, v16_63, v16_64, v16_65, v16_67, v16_68, v16_71, v16_72, v16_74, v16_75, v16_78, v16_81, v16_84, v16_85, n_cl, n_in_t, n_lt_t, n_lt_f, n_eq_t, n_eq_f, n_sub, nI_add, n_mul, n_01, ↓reduceIte, if_true, if_false, eq_self, true_or, or_true, and_self, and_true, true_and, Nat.reduceAdd, Nat.reduceMul, Nat.reduceLeDiff, Nat.zero_le, not_true_eq_false, not_false_eq_true, cat2_n, cat2_i, cat2_r, ws_0, ws_i, ws_r, ws_l, ws_d, aftr_n, aftr_s, bI_ok, bI_t, bI_f, up_s, up_n, n_bit, decide_true, decide_false, Bool.not_true, Bool.not_false, Bool.and_true, Bool.true_and, Bool.false_and, Bool.and_false, va_rf_s, n_nlt0, k_0, k_67, k_68, k_465, k_466, k_467, k_468, k_469, k_470, k_471, k_472, k_565, r_0_0, r_0_1, r_0_2, r_0_3, r_0_4, r_0_5, r_67_0, r_465_0, r_467_0, r_467_2, r_470_0, r_470_1, va_rf_s, n_neg_t, n_neg_f, kM0 hp, kM1 hp, kM2 hp, kM3 hp, kM4 hp, kM5 hp, kMd hp, kMa hp, rM0_0 hp, rM0_2 hp, rM0_3 hp, rM0_4 hp, rM0_5 hp, rM0_6 hp, rM0_7 hp, rM1 hp, rMd hp, kS0 hs, kS1 hs, kS2 hs, kS3 hs, kS4 hs, kS5 hs, kSp hs, kSn hs, kSw hs, kSl hs, rS0_0 hs, rS0_2 hs, rS0_4 hs, rS0_5 hs, rS3_0 hs, rS1 hs, rS2 hs, rSp hs, rSw hs, d1, d2, pf, m7, n_shl1, n_and, and_t1 hbt]
      exact ih acc (k + 1) seen I _ (by omega) hB2 (by omega) hsn hT hx hch hQ
    · rw [if_neg e] at hQ
      have hbt : seen.testBit (A (53 + c)) = false := by rw [hT]; exact decide_eq_false e
      simp (disch := omega) only [v16_0, v16_1, v16_2, v16_3, v16_5, v16_6, v16_10, v16_11, v16_14, v16_17, v16_18, v16_21, v16_22, v16_25, v16_27, v16_28, v16_29, v16_32, v16_34, v16_36, v16_39, v16_41, v16_42, v16_45, v16_48, v16_50, v16_51, v16_53, v16_54, v16_55, v16_58, v16_60, v16_61, v16_63, v16_64, v16_65, v16_67, v16_68, v16_71, v16_72, v16_74, v16_75, v16_78, v16_81, v16_84, v16_85, n_cl, n_in_t, n_lt_t, n_lt_f, n_eq_t, n_eq_f, n_sub, nI_add, n_mul, n_01, ↓reduceIte, if_true, if_false, eq_self, true_or, or_true, and_self, and_true, true_and, Nat.reduceAdd, Nat.reduceMul, Nat.reduceLeDiff, Nat.zero_le, not_true_eq_false, not_false_eq_true, cat2_n, cat2_i, cat2_r, ws_0, ws_i, ws_r, ws_l, ws_d, aftr_n, aftr_s, bI_ok, bI_t, bI_f, up_s, up_n, n_bit, decide_true, decide_false, Bool.not_true, Bool.not_false, Bool.and_true, Bool.true_and, Bool.false_and, Bool.and_false, va_rf_s, n_nlt0, k_0, k_67, k_68, k_465, k_466, k_467, k_468, k_469, k_470, k_471, k_472, k_565, r_0_0, r_0_1, r_0_2, r_0_3, r_0_4, r_0_5, r_67_0, r_465_0, r_467_0, r_467_2, r_470_0, r_470_1, va_rf_s, n_neg_t, n_neg_f, kM0 hp, kM1 hp, kM2 hp, kM3 hp, kM4 hp, kM5 hp, kMd hp, kMa hp, rM0_0 hp, rM0_2 hp, rM0_3 hp, rM0_4 hp, rM0_5 hp, rM0_6 hp, rM0_7 hp, rM1 hp, rMd hp, kS0 hs, kS1 hs, kS2 hs, kS3 hs, kS4 hs, kS5 hs, kSp hs, kSn hs, kSw hs, kSl hs, rS0_0 hs, rS0_2 hs, rS0_4 hs, rS0_5 hs, rS3_0 hs, rS1 hs, rS2 hs, rSp hs, rSw hs, d1, d2, pf, m7, n_shl1, n_and, n_or, and_t0 hbt]
      have e3 : acc ++ A (53 + c) :: nws A (acc ++ [A (53 + c)]) r = (acc ++ [A (53 + c)]) ++ nws A (acc ++ [A (53 + c)]) r := by rw [List.append_assoc]; rfl
      rw [e3] at hQ
      have a1 : Ag pCh b I (up2 I (ad b 469) acc.length (nI (A (53 + c)))) := Ag.rf.up rfl
      have := ih (acc ++ [A (53 + c)]) (k + 1) (seen ||| 2 ^ A (53 + c)) _ (some (.int (nI (A (53 + c))))) (by omega) hB2 (by rw [List.length_append, List.length_singleton]; omega) (Nat.or_lt_two_pow (n := 10) hsn (Nat.pow_lt_pow_right (by omega) (by omega))) (fun j => by
        rw [Nat.testBit_or, hT, Nat.testBit_two_pow]
        by_cases e4 : A (53 + c) = j
        · simp [e4]
        · have : ¬ j = A (53 + c) := fun x => e4 x.symm
          simp [e4, this]) (hx.ag h6 h7 hs hp a1 pCh_3) (fun j hj => by
        rw [List.length_append, List.length_singleton] at hj
        rw [getD_snoc]
        by_cases e4 : j = acc.length
        · rw [e4, up_s, if_neg (by omega), if_pos rfl]
        · rw [if_pos (by omega), up_n (by omega)]
          exact hch j (by omega)) (fun I2 q1 q2 => hQ I2 q1 (a1.tr q2))
      rwa [List.length_append, List.length_singleton] at this
theorem c16 (hs : isS s) (hp : isM p) (hi : i < 20) (hg : Good A) (ok : OkL A g) (hw : ∀ x ∈ g, A (53 + x) < A 7) (hx : CX b I s p i A g) (hQ : ∀ I', (∀ j, j < (nws A [] g).length → I' (ad b 469) j = nI ((nws A [] g).getD j 0)) → Ag pCh b I I' → Q (.inl (some (.int (nI (nws A [] g).length)))) (KAt KL b, I', RAt RL b q, L, sz, ex)) :
    X z 16 0 [some (.ref (ad b 467)), some (.ref (ad b s)), some (.ref (ad b (p + 6 + 2 * i))), none, none, none, none] [] (0, 0) (KAt KL b, I, RAt RL b q, L, sz, ex) Q := by
  simp (disch := omega) only [v16_0, v16_1, v16_2, v16_3, v16_5, v16_6, n_cl, n_in_t, n_lt_t, n_lt_f, n_eq_t, n_eq_f, n_sub, nI_add, n_mul, n_01, ↓reduceIte, if_true, if_false, eq_self, true_or, or_true, and_self, and_true, true_and, Nat.reduceAdd, Nat.reduceMul, Nat.reduceLeDiff, Nat.zero_le, not_true_eq_false, not_false_eq_true, cat2_n, cat2_i, cat2_r, ws_0, ws_i, ws_r, ws_l, ws_d, aftr_n, aftr_s, bI_ok, bI_t, bI_f, up_s, up_n, n_bit, decide_true, decide_false, Bool.not_true, Bool.not_false, Bool.and_true, Bool.true_and, Bool.false_and, Bool.and_false, va_rf_s, n_nlt0, k_0, k_67, k_68, k_465, k_466, k_467, k_468, k_469, k_470, k_471, k_472, k_565, r_0_0, r_0_1, r_0_2, r_0_3, r_0_4, r_0_5, r_67_0, r_465_0, r_467_0, r_467_2, r_470_0, r_470_1, va_rf_s, n_neg_t, n_neg_f]
  exact l16 hs hp hi hg ok hw g [] 0 0 I none (by omega) (fun j _ => by rw [Nat.zero_add]) (Nat.zero_le _) (by omega) (fun j => by simp) hx (fun j hj => absurd hj (Nat.not_lt_zero _)) hQ
end CG
