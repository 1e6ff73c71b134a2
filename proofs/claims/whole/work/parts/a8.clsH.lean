/-! THE CLASS: words, fields, the whole text -/
section CH
variable {z : P0} {KL : Nat → Nat × Nat} {RL : Nat → Nat → Option Nat} {q : Nat → Nat} {b : Nat} {I : Nat → Nat → Int32} {L : Nat → Nat → Int64} {sz : Nat} {ex : Bool} {Q : Res → Mem → Prop} {A : Row}
variable {t : List Nat} {s p i : Nat} {g : List Nat}
theorem pCz_3 : ∀ o j, pCz o j → o = 467 ∨ o = 468 ∨ o = 469 := fun o j h => by unfold pCz at h; omega
set_option maxHeartbeats 8000000 in
theorem l15 {W : List Nat} (hs : isS s) (hp : isM p) (hi : i < 20) (hg : Good A) (hW : ∀ w ∈ W, w < A 7) (hWl : W.length ≤ 6) : ∀ (r : List Nat) k I t (x5 : Option Value), cat2 x5 = false → k + r.length = W.length → (∀ j, j < r.length → W.getD (k + j) 0 = r.getD j 0) → SZ KL RL b I z → CX b I s p i A g → (∀ j, j < W.length → I (ad b 469) j = nI (W.getD j 0)) → CT b I t → t.length + (seqL W.length k (r.map (wordT A))).length ≤ 1660 →
    (∀ I', CT b I' (t ++ seqL W.length k (r.map (wordT A))) → Ag pCx b I I' → Q (.inl none) (KAt KL b, I', RAt RL b q, L, sz, ex)) →
    X z 15 10 [some (.ref (ad b 467)), some (.ref (ad b s)), some (.ref (ad b (p + 6 + 2 * i))), some (.int (nI W.length)), some (.int (nI k)), x5] [] (0, 0) (KAt KL b, I, RAt RL b q, L, sz, ex) Q := by
  have h6 := hg.1.1
  have h7 := hg.1.2.1
  have sb := isS_b hs
  intro r
  induction r with
  | nil =>
    intro k I t x5 hx5 hk hr hz hx hch ht hl hQ
    rw [List.length_nil, Nat.add_zero] at hk
    rw [v15_10]
    simp (disch := omega) only [v15_12, v15_13, v15_16, v15_17, v15_20, v15_21, v15_24, v15_26, v15_27, v15_28, v15_30, v15_32, v15_35, v15_36, v15_38, v15_39, v15_40, v15_41, v15_44, v15_46, v15_49, u15_51, v15_54, v15_55, u15_57, u15_60, v15_63, v15_64, u15_66, v15_69, v15_70, v15_72, v15_75, v15_77, u15_80, v15_83, v15_86, v15_89, n_cl, n_in_t, n_lt_t, n_lt_f, n_eq_t, n_eq_f, n_sub, nI_add, n_mul, n_01, ↓reduceIte, if_true, if_false, eq_self, true_or, or_true, and_self, and_true, true_and, Nat.reduceAdd, Nat.reduceMul, Nat.reduceLeDiff, Nat.zero_le, not_true_eq_false, not_false_eq_true, cat2_n, cat2_i, cat2_r, ws_0, ws_i, ws_r, ws_l, ws_d, aftr_n, aftr_s, bI_ok, bI_t, bI_f, up_s, up_n, n_bit, decide_true, decide_false, Bool.not_true, Bool.not_false, Bool.and_true, Bool.true_and, Bool.false_and, Bool.and_false, va_rf_s, n_nlt0, k_0, k_67, k_68, k_465, k_466, k_467, k_468, k_469, k_470, k_471, k_472, k_565, r_0_0, r_0_1, r_0_2, r_0_3, r_0_4, r_0_5, r_67_0, r_465_0, r_467_0, r_467_2, r_470_0, r_470_1, va_rf_s]
    exact hQ I (by rw [List.map_nil]; unfold seqL; rwa [List.append_nil]) Ag.rf
  | cons w r ih =>
    intro k I t x5 hx5 hk hr hz hx hch ht hl hQ
    obtain ⟨hB1, hB2⟩ := getD_tail hr
    rw [List.length_cons] at hk
    have d2 := hch k (by omega)
    rw [hB1] at d2
    have hw : w < A 7 := hW w (by rw [← hB1, List.getD_eq_getElem?_getD, List.getElem?_eq_getElem (by omega)]; exact List.getElem_mem _)
    obtain ⟨q1, q2, -⟩ := hg.2.2.2.1 w hw
    rw [List.map_cons, seqL_c, List.length_append, List.length_append] at hl
    rw [List.map_cons, seqL_c] at hQ
    have wl : (wordT A w).length = (artT (artN A w)).length + (A (313 + w) + 1) := by unfold wordT wordL; rw [List.length_append, List.length_cons, segF_len]
    have word : ∀ I1, CT b I1 (t ++ sepL k W.length) → Ag pCx b I I1 → X z 15 54 [some (.ref (ad b 467)), some (.ref (ad b s)), some (.ref (ad b (p + 6 + 2 * i))), some (.int (nI W.length)), some (.int (nI k)), some (.ref (ad b (s + 46 + 2 * w)))] [] (0, 0) (KAt KL b, I1, RAt RL b q, L, sz, ex) Q := by
      intro I1 g1 g2
      have hx1 := hx.ag h6 h7 hs hp g2 pCx_3
      have wr := hx1.1.2.2.1 w hw
      simp (disch := omega) only [v15_54, v15_55, u15_57, u15_60, n_cl, n_in_t, n_lt_t, n_lt_f, n_eq_t, n_eq_f, n_sub, nI_add, n_mul, n_01, ↓reduceIte, if_true, if_false, eq_self, true_or, or_true, and_self, and_true, true_and, Nat.reduceAdd, Nat.reduceMul, Nat.reduceLeDiff, Nat.zero_le, not_true_eq_false, not_false_eq_true, cat2_n, cat2_i, cat2_r, ws_0, ws_i, ws_r, ws_l, ws_d, aftr_n, aftr_s, bI_ok, bI_t, bI_f, up_s, up_n, n_bit, decide_true, decide_false, Bool.not_true, Bool.not_false, Bool.and_true, Bool.true_and, Bool.false_and, Bool.and_false, va_rf_s, n_nlt0, k_0, k_67, k_68, k_465, k_466, k_467, k_468, k_469, k_470, k_471, k_472, k_565, r_0_0, r_0_1, r_0_2, r_0_3, r_0_4, r_0_5, r_67_0, r_465_0, r_467_0, r_467_2, r_470_0, r_470_1, va_rf_s, kS0 hs, kS1 hs, kS2 hs, kS3 hs, kS4 hs, kS5 hs, kSp hs, kSn hs, kSw hs, kSl hs, rS0_0 hs, rS0_2 hs, rS0_4 hs, rS0_5 hs, rS3_0 hs, rS1 hs, rS2 hs, rSp hs, rSw hs, c56 hs hg hw wr]
      have hz1 := hz.ag g2
      refine c18 hz.1 g1 (hz1.art artN_c) (by rw [List.length_append]; omega) (fun I2 g3 g4 => ?_)
      simp (disch := omega) only [v15_63, v15_64, u15_66, n_cl, n_in_t, n_lt_t, n_lt_f, n_eq_t, n_eq_f, n_sub, nI_add, n_mul, n_01, ↓reduceIte, if_true, if_false, eq_self, true_or, or_true, and_self, and_true, true_and, Nat.reduceAdd, Nat.reduceMul, Nat.reduceLeDiff, Nat.zero_le, not_true_eq_false, not_false_eq_true, cat2_n, cat2_i, cat2_r, ws_0, ws_i, ws_r, ws_l, ws_d, aftr_n, aftr_s, bI_ok, bI_t, bI_f, up_s, up_n, n_bit, decide_true, decide_false, Bool.not_true, Bool.not_false, Bool.and_true, Bool.true_and, Bool.false_and, Bool.and_false, va_rf_s, n_nlt0, k_0, k_67, k_68, k_465, k_466, k_467, k_468, k_469, k_470, k_471, k_472, k_565, r_0_0, r_0_1, r_0_2, r_0_3, r_0_4, r_0_5, r_67_0, r_465_0, r_467_0, r_467_2, r_470_0, r_470_1, va_rf_s]
      refine c19 g3 (by simp only [List.length_append]; omega) (fun I3 g5 g6 => ?_)
      have g7 := (g2.tr g4).tr g6
      have hx3 := hx.ag h6 h7 hs hp g7 pCx_3
      have wr3 := hx3.1.2.2.1 w hw
      have wr31 := wr3.1
      simp (disch := omega) only [v15_69, v15_70, v15_72, v15_75, v15_77, u15_80, n_cl, n_in_t, n_lt_t, n_lt_f, n_eq_t, n_eq_f, n_sub, nI_add, n_mul, n_01, ↓reduceIte, if_true, if_false, eq_self, true_or, or_true, and_self, and_true, true_and, Nat.reduceAdd, Nat.reduceMul, Nat.reduceLeDiff, Nat.zero_le, not_true_eq_false, not_false_eq_true, cat2_n, cat2_i, cat2_r, ws_0, ws_i, ws_r, ws_l, ws_d, aftr_n, aftr_s, bI_ok, bI_t, bI_f, up_s, up_n, n_bit, decide_true, decide_false, Bool.not_true, Bool.not_false, Bool.and_true, Bool.true_and, Bool.false_and, Bool.and_false, va_rf_s, n_nlt0, k_0, k_67, k_68, k_465, k_466, k_467, k_468, k_469, k_470, k_471, k_472, k_565, r_0_0, r_0_1, r_0_2, r_0_3, r_0_4, r_0_5, r_67_0, r_465_0, r_467_0, r_467_2, r_470_0, r_470_1, va_rf_s, kS0 hs, kS1 hs, kS2 hs, kS3 hs, kS4 hs, kS5 hs, kSp hs, kSn hs, kSw hs, kSl hs, rS0_0 hs, rS0_2 hs, rS0_4 hs, rS0_5 hs, rS3_0 hs, rS1 hs, rS2 hs, rSp hs, rSw hs, wr31]
      refine c17 (f := fun k => A (333 + 8 * w + k)) (kSl hs (by omega)) q2 (by omega) g5 wr3.2.2 (by simp only [List.length_append, List.length_singleton]; omega) (fun I4 g8 g9 => ?_)
      simp (disch := omega) only [v15_83, v15_86, n_cl, n_in_t, n_lt_t, n_lt_f, n_eq_t, n_eq_f, n_sub, nI_add, n_mul, n_01, ↓reduceIte, if_true, if_false, eq_self, true_or, or_true, and_self, and_true, true_and, Nat.reduceAdd, Nat.reduceMul, Nat.reduceLeDiff, Nat.zero_le, not_true_eq_false, not_false_eq_true, cat2_n, cat2_i, cat2_r, ws_0, ws_i, ws_r, ws_l, ws_d, aftr_n, aftr_s, bI_ok, bI_t, bI_f, up_s, up_n, n_bit, decide_true, decide_false, Bool.not_true, Bool.not_false, Bool.and_true, Bool.true_and, Bool.false_and, Bool.and_false, va_rf_s, n_nlt0, k_0, k_67, k_68, k_465, k_466, k_467, k_468, k_469, k_470, k_471, k_472, k_565, r_0_0, r_0_1, r_0_2, r_0_3, r_0_4, r_0_5, r_67_0, r_465_0, r_467_0, r_467_2, r_470_0, r_470_1, va_rf_s]
      have g10 := g7.tr g9
      have ct : CT b I4 (t ++ sepL k W.length ++ wordT A w) := by
        unfold wordT wordL
        simpa [List.append_assoc] using g8
      refine ih (k + 1) I4 _ _ rfl (by omega) hB2 (hz.ag g10) (hx.ag h6 h7 hs hp g10 pCx_3) (fun j hj => (g10.at (fun x => by unfold pCx at x; omega)).trans (hch j hj)) ct (by simp only [List.length_append]; omega) (fun I5 g11 g12 => hQ I5 ?_ (g10.tr g12))
      rw [List.append_assoc, List.append_assoc] at g11
      exact g11
    rw [v15_10]
    unfold sepL at word hl
    by_cases e0 : k = 0
    · rw [if_pos e0, List.append_nil] at word
      have := word I ht Ag.rf
      simp (disch := omega) only [v15_12, v15_13, v15_16, v15_17, v15_20, v15_21, v15_24, v15_26, v15_27, v15_28, v15_30, v15_32, v15_35, v15_36, v15_38, v15_39, v15_40, v15_41, v15_44, v15_46, v15_49, u15_51, n_cl, n_in_t, n_lt_t, n_lt_f, n_eq_t, n_eq_f, n_sub, nI_add, n_mul, n_01, ↓reduceIte, if_true, if_false, eq_self, true_or, or_true, and_self, and_true, true_and, Nat.reduceAdd, Nat.reduceMul, Nat.reduceLeDiff, Nat.zero_le, not_true_eq_false, not_false_eq_true, cat2_n, cat2_i, cat2_r, ws_0, ws_i, ws_r, ws_l, ws_d, aftr_n, aftr_s, bI_ok, bI_t, bI_f, up_s, up_n, n_bit, decide_true, decide_false, Bool.not_true, Bool.not_false, Bool.and_true, Bool.true_and, Bool.false_and, Bool.and_false, va_rf_s, n_nlt0, k_0, k_67, k_68, k_465, k_466, k_467, k_468, k_469, k_470, k_471, k_472, k_565, r_0_0, r_0_1, r_0_2, r_0_3, r_0_4, r_0_5, r_67_0, r_465_0, r_467_0, r_467_2, r_470_0, r_470_1, va_rf_s, kS0 hs, kS1 hs, kS2 hs, kS3 hs, kS4 hs, kS5 hs, kSp hs, kSn hs, kSw hs, kSl hs, rS0_0 hs, rS0_2 hs, rS0_4 hs, rS0_5 hs, rS3_0 hs, rS1 hs, rS2 hs, rSp hs, rSw hs, d2, hx5]
      exact this
    · rw [if_neg e0] at word hl
      by_cases e1 : k + 1 = W.length
      · rw [if_pos e1] at word hl
        rw [List.length_singleton] at hl
        simp (disch := omega) only [v15_12, v15_13, v15_16, v15_17, v15_20, v15_21, v15_24, v15_26, v15_27, v15_28, v15_30, v15_32, v15_35, v15_36, v15_38, v15_39, v15_40, v15_41, v15_44, v15_46, v15_49, u15_51, n_cl, n_in_t, n_lt_t, n_lt_f, n_eq_t, n_eq_f, n_sub, nI_add, n_mul, n_01, ↓reduceIte, if_true, if_false, eq_self, true_or, or_true, and_self, and_true, true_and, Nat.reduceAdd, Nat.reduceMul, Nat.reduceLeDiff, Nat.zero_le, not_true_eq_false, not_false_eq_true, cat2_n, cat2_i, cat2_r, ws_0, ws_i, ws_r, ws_l, ws_d, aftr_n, aftr_s, bI_ok, bI_t, bI_f, up_s, up_n, n_bit, decide_true, decide_false, Bool.not_true, Bool.not_false, Bool.and_true, Bool.true_and, Bool.false_and, Bool.and_false, va_rf_s, n_nlt0, k_0, k_67, k_68, k_465, k_466, k_467, k_468, k_469, k_470, k_471, k_472, k_565, r_0_0, r_0_1, r_0_2, r_0_3, r_0_4, r_0_5, r_67_0, r_465_0, r_467_0, r_467_2, r_470_0, r_470_1, va_rf_s, kS0 hs, kS1 hs, kS2 hs, kS3 hs, kS4 hs, kS5 hs, kSp hs, kSn hs, kSw hs, kSl hs, rS0_0 hs, rS0_2 hs, rS0_4 hs, rS0_5 hs, rS3_0 hs, rS1 hs, rS2 hs, rSp hs, rSw hs, d2, hx5]
        refine c19 ht (by omega) (fun I1 g1 g2 => ?_)
        simp (disch := omega) only [n_cl, n_in_t, n_lt_t, n_lt_f, n_eq_t, n_eq_f, n_sub, nI_add, n_mul, n_01, ↓reduceIte, if_true, if_false, eq_self, true_or, or_true, and_self, and_true, true_and, Nat.reduceAdd, Nat.reduceMul, Nat.reduceLeDiff, Nat.zero_le, not_true_eq_false, not_false_eq_true, cat2_n, cat2_i, cat2_r, ws_0, ws_i, ws_r, ws_l, ws_d, aftr_n, aftr_s, bI_ok, bI_t, bI_f, up_s, up_n, n_bit, decide_true, decide_false, Bool.not_true, Bool.not_false, Bool.and_true, Bool.true_and, Bool.false_and, Bool.and_false, va_rf_s, n_nlt0, k_0, k_67, k_68, k_465, k_466, k_467, k_468, k_469, k_470, k_471, k_472, k_565, r_0_0, r_0_1, r_0_2, r_0_3, r_0_4, r_0_5, r_67_0, r_465_0, r_467_0, r_467_2, r_470_0, r_470_1, va_rf_s]
        exact word I1 g1 g2
      · rw [if_neg e1] at word hl
        rw [List.length_singleton] at hl
        simp (disch := omega) only [v15_12, v15_13, v15_16, v15_17, v15_20, v15_21, v15_24, v15_26, v15_27, v15_28, v15_30, v15_32, v15_35, v15_36, v15_38, v15_39, v15_40, v15_41, v15_44, v15_46, v15_49, u15_51, n_cl, n_in_t, n_lt_t, n_lt_f, n_eq_t, n_eq_f, n_sub, nI_add, n_mul, n_01, ↓reduceIte, if_true, if_false, eq_self, true_or, or_true, and_self, and_true, true_and, Nat.reduceAdd, Nat.reduceMul, Nat.reduceLeDiff, Nat.zero_le, not_true_eq_false, not_false_eq_true, cat2_n, cat2_i, cat2_r, ws_0, ws_i, ws_r, ws_l, ws_d, aftr_n, aftr_s, bI_ok, bI_t, bI_f, up_s, up_n, n_bit, decide_true, decide_false, Bool.not_true, Bool.not_false, Bool.and_true, Bool.true_and, Bool.false_and, Bool.and_false, va_rf_s, n_nlt0, k_0, k_67, k_68, k_465, k_466, k_467, k_468, k_469, k_470, k_471, k_472, k_565, r_0_0, r_0_1, r_0_2, r_0_3, r_0_4, r_0_5, r_67_0, r_465_0, r_467_0, r_467_2, r_470_0, r_470_1, va_rf_s, kS0 hs, kS1 hs, kS2 hs, kS3 hs, kS4 hs, kS5 hs, kSp hs, kSn hs, kSw hs, kSl hs, rS0_0 hs, rS0_2 hs, rS0_4 hs, rS0_5 hs, rS3_0 hs, rS1 hs, rS2 hs, rSp hs, rSw hs, d2, hx5]
        refine c19 ht (by omega) (fun I1 g1 g2 => ?_)
        simp (disch := omega) only [n_cl, n_in_t, n_lt_t, n_lt_f, n_eq_t, n_eq_f, n_sub, nI_add, n_mul, n_01, ↓reduceIte, if_true, if_false, eq_self, true_or, or_true, and_self, and_true, true_and, Nat.reduceAdd, Nat.reduceMul, Nat.reduceLeDiff, Nat.zero_le, not_true_eq_false, not_false_eq_true, cat2_n, cat2_i, cat2_r, ws_0, ws_i, ws_r, ws_l, ws_d, aftr_n, aftr_s, bI_ok, bI_t, bI_f, up_s, up_n, n_bit, decide_true, decide_false, Bool.not_true, Bool.not_false, Bool.and_true, Bool.true_and, Bool.false_and, Bool.and_false, va_rf_s, n_nlt0, k_0, k_67, k_68, k_465, k_466, k_467, k_468, k_469, k_470, k_471, k_472, k_565, r_0_0, r_0_1, r_0_2, r_0_3, r_0_4, r_0_5, r_67_0, r_465_0, r_467_0, r_467_2, r_470_0, r_470_1, va_rf_s]
        exact word I1 g1 g2
theorem c15 (hs : isS s) (hp : isM p) (hi : i < 20) (hg : Good A) (ok : OkL A g) (hw : ∀ x ∈ g, A (53 + x) < A 7) (hz : SZ KL RL b I z) (hx : CX b I s p i A g) (ht : CT b I t) (hl : t.length + (wordsT A g).length ≤ 1660) (hQ : ∀ I', CT b I' (t ++ wordsT A g) → Ag pCz b I I' → Q (.inl none) (KAt KL b, I', RAt RL b q, L, sz, ex)) :
    X z 15 0 [some (.ref (ad b 467)), some (.ref (ad b s)), some (.ref (ad b (p + 6 + 2 * i))), none, none, none] [] (0, 0) (KAt KL b, I, RAt RL b q, L, sz, ex) Q := by
  have h6 := hg.1.1
  have h7 := hg.1.2.1
  have gl := ok.2.2.2.1
  have nl := nws_len (A := A) g []
  simp (disch := omega) only [v15_0, v15_1, v15_2, u15_3, n_cl, n_in_t, n_lt_t, n_lt_f, n_eq_t, n_eq_f, n_sub, nI_add, n_mul, n_01, ↓reduceIte, if_true, if_false, eq_self, true_or, or_true, and_self, and_true, true_and, Nat.reduceAdd, Nat.reduceMul, Nat.reduceLeDiff, Nat.zero_le, not_true_eq_false, not_false_eq_true, cat2_n, cat2_i, cat2_r, ws_0, ws_i, ws_r, ws_l, ws_d, aftr_n, aftr_s, bI_ok, bI_t, bI_f, up_s, up_n, n_bit, decide_true, decide_false, Bool.not_true, Bool.not_false, Bool.and_true, Bool.true_and, Bool.false_and, Bool.and_false, va_rf_s, n_nlt0, k_0, k_67, k_68, k_465, k_466, k_467, k_468, k_469, k_470, k_471, k_472, k_565, r_0_0, r_0_1, r_0_2, r_0_3, r_0_4, r_0_5, r_67_0, r_465_0, r_467_0, r_467_2, r_470_0, r_470_1, va_rf_s]
  refine c16 hs hp hi hg ok hw hx (fun I1 h1 g1 => ?_)
  simp (disch := omega) only [v15_6, v15_7, v15_8, n_cl, n_in_t, n_lt_t, n_lt_f, n_eq_t, n_eq_f, n_sub, nI_add, n_mul, n_01, ↓reduceIte, if_true, if_false, eq_self, true_or, or_true, and_self, and_true, true_and, Nat.reduceAdd, Nat.reduceMul, Nat.reduceLeDiff, Nat.zero_le, not_true_eq_false, not_false_eq_true, cat2_n, cat2_i, cat2_r, ws_0, ws_i, ws_r, ws_l, ws_d, aftr_n, aftr_s, bI_ok, bI_t, bI_f, up_s, up_n, n_bit, decide_true, decide_false, Bool.not_true, Bool.not_false, Bool.and_true, Bool.true_and, Bool.false_and, Bool.and_false, va_rf_s, n_nlt0, k_0, k_67, k_68, k_465, k_466, k_467, k_468, k_469, k_470, k_471, k_472, k_565, r_0_0, r_0_1, r_0_2, r_0_3, r_0_4, r_0_5, r_67_0, r_465_0, r_467_0, r_467_2, r_470_0, r_470_1, va_rf_s]
  refine l15 hs hp hi hg (fun w hw' => ?_) (by omega) (nws A [] g) 0 I1 t none rfl (by omega) (fun j _ => by rw [Nat.zero_add]) (hz.ag g1) (hx.ag h6 h7 hs hp g1 pCh_3) h1 ⟨(g1.at (fun x => by unfold pCh at x; omega)).trans ht.1, fun k hk => (g1.at (fun x => by unfold pCh at x; omega)).trans (ht.2 k hk)⟩ hl (fun I2 g2 g3 => hQ I2 g2 ((g1.mn pCh_z).tr (g3.mn pCx_z)))
  obtain ⟨x, hx1, rfl⟩ := nws_mem _ _ _ hw'
  exact hw x hx1
set_option maxHeartbeats 4000000 in
theorem c11 {c : Nat} (hs : isS s) (hp : isM p) (hi : i < 20) (hg : Good A) (ok : OkL A g) (hc : c = 99 ∨ c = 103 ∨ c = 110 ∨ c = 119) (hw : c = 119 → hasW A = true) (hz : SZ KL RL b I z) (hx : CX b I s p i A g) (ht : CT b I t) (hl : t.length + (fieldT A g c).length ≤ 1660) (hl3 : c = 103 → t.length + 3 ≤ 1660) (hQ : ∀ I', CT b I' (t ++ fieldT A g c) → Ag pCz b I I' → Q (.inl none) (KAt KL b, I', RAt RL b q, L, sz, ex)) :
    X z 11 0 [some (.ref (ad b 467)), some (.int (nI c)), some (.ref (ad b s)), some (.ref (ad b (p + 6 + 2 * i)))] [] (0, 0) (KAt KL b, I, RAt RL b q, L, sz, ex) Q := by
  have gl := ok.2.2.2.1
  have d1 := hx.2.1
  rcases hc with rfl | rfl | rfl | rfl
  · have hl' : t.length + 1 ≤ 1660 := hl
    simp (disch := omega) only [v11_0, v11_1, v11_3, v11_6, v11_7, v11_8, u11_9, v11_12, v11_15, v11_16, v11_18, v11_21, v11_22, v11_23, u11_24, v11_27, v11_30, v11_31, v11_33, v11_36, v11_37, v11_38, u11_39, v11_42, v11_45, v11_46, v11_48, v11_49, v11_52, u11_53, v11_56, n_cl, n_in_t, n_lt_t, n_lt_f, n_eq_t, n_eq_f, n_sub, nI_add, n_mul, n_01, ↓reduceIte, if_true, if_false, eq_self, true_or, or_true, and_self, and_true, true_and, Nat.reduceAdd, Nat.reduceMul, Nat.reduceLeDiff, Nat.zero_le, not_true_eq_false, not_false_eq_true, cat2_n, cat2_i, cat2_r, ws_0, ws_i, ws_r, ws_l, ws_d, aftr_n, aftr_s, bI_ok, bI_t, bI_f, up_s, up_n, n_bit, decide_true, decide_false, Bool.not_true, Bool.not_false, Bool.and_true, Bool.true_and, Bool.false_and, Bool.and_false, va_rf_s, n_nlt0, k_0, k_67, k_68, k_465, k_466, k_467, k_468, k_469, k_470, k_471, k_472, k_565, r_0_0, r_0_1, r_0_2, r_0_3, r_0_4, r_0_5, r_67_0, r_465_0, r_467_0, r_467_2, r_470_0, r_470_1, va_rf_s, kM0 hp, kM1 hp, kM2 hp, kM3 hp, kM4 hp, kM5 hp, kMd hp, kMa hp, rM0_0 hp, rM0_2 hp, rM0_3 hp, rM0_4 hp, rM0_5 hp, rM0_6 hp, rM0_7 hp, rM1 hp, rMd hp, d1]
    refine c19 ht (by omega) (fun I1 g1 g2 => ?_)
    simp (disch := omega) only [v11_56, n_cl, n_in_t, n_lt_t, n_lt_f, n_eq_t, n_eq_f, n_sub, nI_add, n_mul, n_01, ↓reduceIte, if_true, if_false, eq_self, true_or, or_true, and_self, and_true, true_and, Nat.reduceAdd, Nat.reduceMul, Nat.reduceLeDiff, Nat.zero_le, not_true_eq_false, not_false_eq_true, cat2_n, cat2_i, cat2_r, ws_0, ws_i, ws_r, ws_l, ws_d, aftr_n, aftr_s, bI_ok, bI_t, bI_f, up_s, up_n, n_bit, decide_true, decide_false, Bool.not_true, Bool.not_false, Bool.and_true, Bool.true_and, Bool.false_and, Bool.and_false, va_rf_s, n_nlt0, k_0, k_67, k_68, k_465, k_466, k_467, k_468, k_469, k_470, k_471, k_472, k_565, r_0_0, r_0_1, r_0_2, r_0_3, r_0_4, r_0_5, r_67_0, r_465_0, r_467_0, r_467_2, r_470_0, r_470_1, va_rf_s]
    exact hQ I1 g1 (g2.mn pCx_z)
  · simp (disch := omega) only [v11_0, v11_1, v11_3, v11_6, v11_7, v11_8, u11_9, v11_12, v11_15, v11_16, v11_18, v11_21, v11_22, v11_23, u11_24, v11_27, v11_30, v11_31, v11_33, v11_36, v11_37, v11_38, u11_39, v11_42, v11_45, v11_46, v11_48, v11_49, v11_52, u11_53, v11_56, n_cl, n_in_t, n_lt_t, n_lt_f, n_eq_t, n_eq_f, n_sub, nI_add, n_mul, n_01, ↓reduceIte, if_true, if_false, eq_self, true_or, or_true, and_self, and_true, true_and, Nat.reduceAdd, Nat.reduceMul, Nat.reduceLeDiff, Nat.zero_le, not_true_eq_false, not_false_eq_true, cat2_n, cat2_i, cat2_r, ws_0, ws_i, ws_r, ws_l, ws_d, aftr_n, aftr_s, bI_ok, bI_t, bI_f, up_s, up_n, n_bit, decide_true, decide_false, Bool.not_true, Bool.not_false, Bool.and_true, Bool.true_and, Bool.false_and, Bool.and_false, va_rf_s, n_nlt0, k_0, k_67, k_68, k_465, k_466, k_467, k_468, k_469, k_470, k_471, k_472, k_565, r_0_0, r_0_1, r_0_2, r_0_3, r_0_4, r_0_5, r_67_0, r_465_0, r_467_0, r_467_2, r_470_0, r_470_1, va_rf_s]
    refine c13 hs hp hi hg ok hz hx ht (hl3 rfl) (fun I1 g1 g2 => ?_)
    simp (disch := omega) only [v11_27, v11_30, v11_31, v11_33, v11_36, v11_37, v11_38, u11_39, v11_42, v11_45, v11_46, v11_48, v11_49, v11_52, u11_53, v11_56, n_cl, n_in_t, n_lt_t, n_lt_f, n_eq_t, n_eq_f, n_sub, nI_add, n_mul, n_01, ↓reduceIte, if_true, if_false, eq_self, true_or, or_true, and_self, and_true, true_and, Nat.reduceAdd, Nat.reduceMul, Nat.reduceLeDiff, Nat.zero_le, not_true_eq_false, not_false_eq_true, cat2_n, cat2_i, cat2_r, ws_0, ws_i, ws_r, ws_l, ws_d, aftr_n, aftr_s, bI_ok, bI_t, bI_f, up_s, up_n, n_bit, decide_true, decide_false, Bool.not_true, Bool.not_false, Bool.and_true, Bool.true_and, Bool.false_and, Bool.and_false, va_rf_s, n_nlt0, k_0, k_67, k_68, k_465, k_466, k_467, k_468, k_469, k_470, k_471, k_472, k_565, r_0_0, r_0_1, r_0_2, r_0_3, r_0_4, r_0_5, r_67_0, r_465_0, r_467_0, r_467_2, r_470_0, r_470_1, va_rf_s]
    exact hQ I1 g1 (g2.mn pCx_z)
  · simp (disch := omega) only [v11_0, v11_1, v11_3, v11_6, v11_7, v11_8, u11_9, v11_12, v11_15, v11_16, v11_18, v11_21, v11_22, v11_23, u11_24, v11_27, v11_30, v11_31, v11_33, v11_36, v11_37, v11_38, u11_39, v11_42, v11_45, v11_46, v11_48, v11_49, v11_52, u11_53, v11_56, n_cl, n_in_t, n_lt_t, n_lt_f, n_eq_t, n_eq_f, n_sub, nI_add, n_mul, n_01, ↓reduceIte, if_true, if_false, eq_self, true_or, or_true, and_self, and_true, true_and, Nat.reduceAdd, Nat.reduceMul, Nat.reduceLeDiff, Nat.zero_le, not_true_eq_false, not_false_eq_true, cat2_n, cat2_i, cat2_r, ws_0, ws_i, ws_r, ws_l, ws_d, aftr_n, aftr_s, bI_ok, bI_t, bI_f, up_s, up_n, n_bit, decide_true, decide_false, Bool.not_true, Bool.not_false, Bool.and_true, Bool.true_and, Bool.false_and, Bool.and_false, va_rf_s, n_nlt0, k_0, k_67, k_68, k_465, k_466, k_467, k_468, k_469, k_470, k_471, k_472, k_565, r_0_0, r_0_1, r_0_2, r_0_3, r_0_4, r_0_5, r_67_0, r_465_0, r_467_0, r_467_2, r_470_0, r_470_1, va_rf_s]
    refine c12 hs hp hi hg ok hx ht hl (fun I1 g1 g2 => ?_)
    simp (disch := omega) only [v11_12, v11_15, v11_16, v11_18, v11_21, v11_22, v11_23, u11_24, v11_27, v11_30, v11_31, v11_33, v11_36, v11_37, v11_38, u11_39, v11_42, v11_45, v11_46, v11_48, v11_49, v11_52, u11_53, v11_56, n_cl, n_in_t, n_lt_t, n_lt_f, n_eq_t, n_eq_f, n_sub, nI_add, n_mul, n_01, ↓reduceIte, if_true, if_false, eq_self, true_or, or_true, and_self, and_true, true_and, Nat.reduceAdd, Nat.reduceMul, Nat.reduceLeDiff, Nat.zero_le, not_true_eq_false, not_false_eq_true, cat2_n, cat2_i, cat2_r, ws_0, ws_i, ws_r, ws_l, ws_d, aftr_n, aftr_s, bI_ok, bI_t, bI_f, up_s, up_n, n_bit, decide_true, decide_false, Bool.not_true, Bool.not_false, Bool.and_true, Bool.true_and, Bool.false_and, Bool.and_false, va_rf_s, n_nlt0, k_0, k_67, k_68, k_465, k_466, k_467, k_468, k_469, k_470, k_471, k_472, k_565, r_0_0, r_0_1, r_0_2, r_0_3, r_0_4, r_0_5, r_67_0, r_465_0, r_467_0, r_467_2, r_470_0, r_470_1, va_rf_s]
    exact hQ I1 g1 (g2.mn pCx_z)
  · simp (disch := omega) only [v11_0, v11_1, v11_3, v11_6, v11_7, v11_8, u11_9, v11_12, v11_15, v11_16, v11_18, v11_21, v11_22, v11_23, u11_24, v11_27, v11_30, v11_31, v11_33, v11_36, v11_37, v11_38, u11_39, v11_42, v11_45, v11_46, v11_48, v11_49, v11_52, u11_53, v11_56, n_cl, n_in_t, n_lt_t, n_lt_f, n_eq_t, n_eq_f, n_sub, nI_add, n_mul, n_01, ↓reduceIte, if_true, if_false, eq_self, true_or, or_true, and_self, and_true, true_and, Nat.reduceAdd, Nat.reduceMul, Nat.reduceLeDiff, Nat.zero_le, not_true_eq_false, not_false_eq_true, cat2_n, cat2_i, cat2_r, ws_0, ws_i, ws_r, ws_l, ws_d, aftr_n, aftr_s, bI_ok, bI_t, bI_f, up_s, up_n, n_bit, decide_true, decide_false, Bool.not_true, Bool.not_false, Bool.and_true, Bool.true_and, Bool.false_and, Bool.and_false, va_rf_s, n_nlt0, k_0, k_67, k_68, k_465, k_466, k_467, k_468, k_469, k_470, k_471, k_472, k_565, r_0_0, r_0_1, r_0_2, r_0_3, r_0_4, r_0_5, r_67_0, r_465_0, r_467_0, r_467_2, r_470_0, r_470_1, va_rf_s]
    refine c15 hs hp hi hg ok (ok.2.2.2.2 (hw rfl)) hz hx ht hl (fun I1 g1 g2 => ?_)
    simp (disch := omega) only [v11_42, v11_45, v11_46, v11_48, v11_49, v11_52, u11_53, v11_56, n_cl, n_in_t, n_lt_t, n_lt_f, n_eq_t, n_eq_f, n_sub, nI_add, n_mul, n_01, ↓reduceIte, if_true, if_false, eq_self, true_or, or_true, and_self, and_true, true_and, Nat.reduceAdd, Nat.reduceMul, Nat.reduceLeDiff, Nat.zero_le, not_true_eq_false, not_false_eq_true, cat2_n, cat2_i, cat2_r, ws_0, ws_i, ws_r, ws_l, ws_d, aftr_n, aftr_s, bI_ok, bI_t, bI_f, up_s, up_n, n_bit, decide_true, decide_false, Bool.not_true, Bool.not_false, Bool.and_true, Bool.true_and, Bool.false_and, Bool.and_false, va_rf_s, n_nlt0, k_0, k_67, k_68, k_465, k_466, k_467, k_468, k_469, k_470, k_471, k_472, k_565, r_0_0, r_0_1, r_0_2, r_0_3, r_0_4, r_0_5, r_67_0, r_465_0, r_467_0, r_467_2, r_470_0, r_470_1, va_rf_s]
    exact hQ I1 g1 g2
theorem CT.ag {P : Nat → Nat → Prop} {I' : Nat → Nat → Int32} (h : CT b I t) (hg : Ag P b I I') (h1 : ¬ P 467 1) (h2 : ∀ j, ¬ P 468 j) : CT b I' t := ⟨(hg.at h1).trans h.1, fun k hk => (hg.at (h2 k)).trans (h.2 k hk)⟩
set_option maxHeartbeats 8000000 in
theorem l10 (hs : isS s) (hp : isM p) (hi : i < 20) (hg : Good A) (ok : OkL A g) : ∀ (T : List Nat) k (j : Bool) I t (x6 : Option Value), k + (T.flatMap exT).length = (raw A).length → (∀ m, m < (T.flatMap exT).length → (raw A).getD (k + m) 0 = (T.flatMap exT).getD m 0) → (∀ t ∈ T, okTok t ∧ (t = 375 → hasW A = true)) → SZ KL RL b I z → CX b I s p i A g → CT b I t → t.length * 3 + 83 * (T.flatMap exT).length ≤ 4980 →
    (∀ I', CT b I' (t ++ textF A g j T) → Ag pCz b I I' → Q (.inl none) (KAt KL b, I', RAt RL b q, L, sz, ex)) →
    X z 10 16 [some (.ref (ad b 467)), some (.ref (ad b s)), some (.ref (ad b (p + 6 + 2 * i))), some (.ref (ad b (s + 3))), some (.int (nI (if j = true ∧ g.length < 2 then 1 else 0))), some (.int (nI k)), x6] [] (0, 0) (KAt KL b, I, RAt RL b q, L, sz, ex) Q := by
  have h6 := hg.1.1
  have h7 := hg.1.2.1
  have gl := ok.2.2.2.1
  have sb := isS_b hs
  have pb := isM_b hp
  have r60 := hg.2.2.2.2.2
  intro T
  induction T with
  | nil =>
    intro k j I t x6 hk hr hT hz hx ht hl hQ
    have m1 := hx.1.2.2.2.1
    have hk' : k = (raw A).length := hk
    rw [v10_16]
    simp (disch := omega) only [v10_18, v10_19, v10_22, v10_25, v10_26, v10_29, v10_31, v10_32, v10_34, v10_36, v10_38, v10_41, v10_42, v10_45, v10_46, v10_49, v10_50, v10_53, v10_54, v10_56, v10_59, v10_61, v10_63, v10_66, v10_67, v10_69, v10_72, v10_74, v10_76, v10_79, v10_81, v10_84, v10_86, v10_87, v10_88, v10_89, v10_92, v10_95, v10_96, v10_97, v10_100, v10_102, v10_103, v10_104, v10_105, v10_106, u10_107, v10_110, v10_113, v10_116, v10_118, v10_121, v10_122, u10_124, v10_127, v10_130, v10_133, n_cl, n_in_t, n_lt_t, n_lt_f, n_eq_t, n_eq_f, n_sub, nI_add, n_mul, n_01, ↓reduceIte, if_true, if_false, eq_self, true_or, or_true, and_self, and_true, true_and, Nat.reduceAdd, Nat.reduceMul, Nat.reduceLeDiff, Nat.zero_le, not_true_eq_false, not_false_eq_true, cat2_n, cat2_i, cat2_r, ws_0, ws_i, ws_r, ws_l, ws_d, aftr_n, aftr_s, bI_ok, bI_t, bI_f, up_s, up_n, n_bit, decide_true, decide_false, Bool.not_true, Bool.not_false, Bool.and_true, Bool.true_and, Bool.false_and, Bool.and_false, va_rf_s, n_nlt0, k_0, k_67, k_68, k_465, k_466, k_467, k_468, k_469, k_470, k_471, k_472, k_565, r_0_0, r_0_1, r_0_2, r_0_3, r_0_4, r_0_5, r_67_0, r_465_0, r_467_0, r_467_2, r_470_0, r_470_1, va_rf_s, kS0 hs, kS1 hs, kS2 hs, kS3 hs, kS4 hs, kS5 hs, kSp hs, kSn hs, kSw hs, kSl hs, rS0_0 hs, rS0_2 hs, rS0_4 hs, rS0_5 hs, rS3_0 hs, rS1 hs, rS2 hs, rSp hs, rSw hs, m1]
    exact hQ I (by unfold textF; rwa [List.append_nil]) Ag.rf
  | cons tk T ih =>
    intro k j I t x6 hk hr hT hz hx ht hl hQ
    have m1 := hx.1.2.2.2.1
    have d1 := hx.2.1
    have okt := hT tk List.mem_cons_self
    have hT' := fun x hx => hT x (List.mem_cons_of_mem tk hx)
    rw [List.flatMap_cons] at hk hr hl
    rw [List.length_append] at hk hl
    have il := itemT_len hg ok okt.1 okt.2
    unfold textF at hQ
    rw [v10_16]
    by_cases h256 : tk < 256
    · have ex1 : exT tk = [tk] := by unfold exT; rw [if_pos h256]
      rw [ex1] at hk hr hl il
      rw [List.length_singleton] at hk hl il
      have hn60 : tk ≠ 60 := by have := okt.1; unfold okTok at this; omega
      have hc0 : (raw A).getD k 0 = tk := by have := hr 0 (by simp); rwa [Nat.add_zero] at this
      have d2 := hx.1.2.2.2.2 k (by omega)
      rw [hc0] at d2
      have hr' : ∀ m, m < (T.flatMap exT).length → (raw A).getD (k + 1 + m) 0 = (T.flatMap exT).getD m 0 := fun m hm => by
        have := hr (m + 1) (by rw [List.length_append, List.length_singleton]; omega)
        rw [show k + 1 + m = k + (m + 1) by omega, this]; rfl
      by_cases e1 : tk = 123
      · rw [if_pos e1] at hQ
        have := ih (k + 1) true I t (some (.int (nI tk))) (by omega) hr' hT' hz hx ht (by omega) hQ
        by_cases e2 : g.length < 2
        · rw [if_pos ⟨rfl, e2⟩] at this
          simp (disch := omega) only [v10_18, v10_19, v10_22, v10_25, v10_26, v10_29, v10_31, v10_32, v10_34, v10_36, v10_38, v10_41, v10_42, v10_45, v10_46, v10_49, v10_50, v10_53, v10_54, v10_56, v10_59, v10_61, v10_63, v10_66, v10_67, v10_69, v10_72, v10_74, v10_76, v10_79, v10_81, v10_84, v10_86, v10_87, v10_88, v10_89, v10_92, v10_95, v10_96, v10_97, v10_100, v10_102, v10_103, v10_104, v10_105, v10_106, u10_107, v10_110, v10_113, v10_116, v10_118, v10_121, v10_122, u10_124, v10_127, v10_130, n_cl, n_in_t, n_lt_t, n_lt_f, n_eq_t, n_eq_f, n_sub, nI_add, n_mul, n_01, ↓reduceIte, if_true, if_false, eq_self, true_or, or_true, and_self, and_true, true_and, Nat.reduceAdd, Nat.reduceMul, Nat.reduceLeDiff, Nat.zero_le, not_true_eq_false, not_false_eq_true, cat2_n, cat2_i, cat2_r, ws_0, ws_i, ws_r, ws_l, ws_d, aftr_n, aftr_s, bI_ok, bI_t, bI_f, up_s, up_n, n_bit, decide_true, decide_false, Bool.not_true, Bool.not_false, Bool.and_true, Bool.true_and, Bool.false_and, Bool.and_false, va_rf_s, n_nlt0, k_0, k_67, k_68, k_465, k_466, k_467, k_468, k_469, k_470, k_471, k_472, k_565, r_0_0, r_0_1, r_0_2, r_0_3, r_0_4, r_0_5, r_67_0, r_465_0, r_467_0, r_467_2, r_470_0, r_470_1, va_rf_s, kS0 hs, kS1 hs, kS2 hs, kS3 hs, kS4 hs, kS5 hs, kSp hs, kSn hs, kSw hs, kSl hs, rS0_0 hs, rS0_2 hs, rS0_4 hs, rS0_5 hs, rS3_0 hs, rS1 hs, rS2 hs, rSp hs, rSw hs, kM0 hp, kM1 hp, kM2 hp, kM3 hp, kM4 hp, kM5 hp, kMd hp, kMa hp, rM0_0 hp, rM0_2 hp, rM0_3 hp, rM0_4 hp, rM0_5 hp, rM0_6 hp, rM0_7 hp, rM1 hp, rMd hp, m1, d1, d2]
          exact this
        · rw [if_neg (fun x => e2 x.2)] at this
          simp (disch := omega) only [v10_18, v10_19, v10_22, v10_25, v10_26, v10_29, v10_31, v10_32, v10_34, v10_36, v10_38, v10_41, v10_42, v10_45, v10_46, v10_49, v10_50, v10_53, v10_54, v10_56, v10_59, v10_61, v10_63, v10_66, v10_67, v10_69, v10_72, v10_74, v10_76, v10_79, v10_81, v10_84, v10_86, v10_87, v10_88, v10_89, v10_92, v10_95, v10_96, v10_97, v10_100, v10_102, v10_103, v10_104, v10_105, v10_106, u10_107, v10_110, v10_113, v10_116, v10_118, v10_121, v10_122, u10_124, v10_127, v10_130, n_cl, n_in_t, n_lt_t, n_lt_f, n_eq_t, n_eq_f, n_sub, nI_add, n_mul, n_01, ↓reduceIte, if_true, if_false, eq_self, true_or, or_true, and_self, and_true, true_and, Nat.reduceAdd, Nat.reduceMul, Nat.reduceLeDiff, Nat.zero_le, not_true_eq_false, not_false_eq_true, cat2_n, cat2_i, cat2_r, ws_0, ws_i, ws_r, ws_l, ws_d, aftr_n, aftr_s, bI_ok, bI_t, bI_f, up_s, up_n, n_bit, decide_true, decide_false, Bool.not_true, Bool.not_false, Bool.and_true, Bool.true_and, Bool.false_and, Bool.and_false, va_rf_s, n_nlt0, k_0, k_67, k_68, k_465, k_466, k_467, k_468, k_469, k_470, k_471, k_472, k_565, r_0_0, r_0_1, r_0_2, r_0_3, r_0_4, r_0_5, r_67_0, r_465_0, r_467_0, r_467_2, r_470_0, r_470_1, va_rf_s, kS0 hs, kS1 hs, kS2 hs, kS3 hs, kS4 hs, kS5 hs, kSp hs, kSn hs, kSw hs, kSl hs, rS0_0 hs, rS0_2 hs, rS0_4 hs, rS0_5 hs, rS3_0 hs, rS1 hs, rS2 hs, rSp hs, rSw hs, kM0 hp, kM1 hp, kM2 hp, kM3 hp, kM4 hp, kM5 hp, kMd hp, kMa hp, rM0_0 hp, rM0_2 hp, rM0_3 hp, rM0_4 hp, rM0_5 hp, rM0_6 hp, rM0_7 hp, rM1 hp, rMd hp, m1, d1, d2]
          exact this
      · rw [if_neg e1] at hQ
        by_cases e2 : tk = 125
        · rw [if_pos e2] at hQ
          have := ih (k + 1) false I t (some (.int (nI tk))) (by omega) hr' hT' hz hx ht (by omega) hQ
          rw [if_neg (fun x => by cases x.1)] at this
          simp (disch := omega) only [v10_18, v10_19, v10_22, v10_25, v10_26, v10_29, v10_31, v10_32, v10_34, v10_36, v10_38, v10_41, v10_42, v10_45, v10_46, v10_49, v10_50, v10_53, v10_54, v10_56, v10_59, v10_61, v10_63, v10_66, v10_67, v10_69, v10_72, v10_74, v10_76, v10_79, v10_81, v10_84, v10_86, v10_87, v10_88, v10_89, v10_92, v10_95, v10_96, v10_97, v10_100, v10_102, v10_103, v10_104, v10_105, v10_106, u10_107, v10_110, v10_113, v10_116, v10_118, v10_121, v10_122, u10_124, v10_127, v10_130, n_cl, n_in_t, n_lt_t, n_lt_f, n_eq_t, n_eq_f, n_sub, nI_add, n_mul, n_01, ↓reduceIte, if_true, if_false, eq_self, true_or, or_true, and_self, and_true, true_and, Nat.reduceAdd, Nat.reduceMul, Nat.reduceLeDiff, Nat.zero_le, not_true_eq_false, not_false_eq_true, cat2_n, cat2_i, cat2_r, ws_0, ws_i, ws_r, ws_l, ws_d, aftr_n, aftr_s, bI_ok, bI_t, bI_f, up_s, up_n, n_bit, decide_true, decide_false, Bool.not_true, Bool.not_false, Bool.and_true, Bool.true_and, Bool.false_and, Bool.and_false, va_rf_s, n_nlt0, k_0, k_67, k_68, k_465, k_466, k_467, k_468, k_469, k_470, k_471, k_472, k_565, r_0_0, r_0_1, r_0_2, r_0_3, r_0_4, r_0_5, r_67_0, r_465_0, r_467_0, r_467_2, r_470_0, r_470_1, va_rf_s, kS0 hs, kS1 hs, kS2 hs, kS3 hs, kS4 hs, kS5 hs, kSp hs, kSn hs, kSw hs, kSl hs, rS0_0 hs, rS0_2 hs, rS0_4 hs, rS0_5 hs, rS3_0 hs, rS1 hs, rS2 hs, rSp hs, rSw hs, m1, d2]
          exact this
        · rw [if_neg e2, if_pos h256] at hQ
          by_cases e3 : j = true ∧ g.length < 2
          · rw [if_neg (fun x => x.elim (fun y => by rw [y] at e3; cases e3.1) (fun y => by omega)), List.nil_append] at hQ
            have := ih (k + 1) j I t (some (.int (nI tk))) (by omega) hr' hT' hz hx ht (by omega) hQ
            rw [if_pos e3] at this ⊢
            simp (disch := omega) only [v10_18, v10_19, v10_22, v10_25, v10_26, v10_29, v10_31, v10_32, v10_34, v10_36, v10_38, v10_41, v10_42, v10_45, v10_46, v10_49, v10_50, v10_53, v10_54, v10_56, v10_59, v10_61, v10_63, v10_66, v10_67, v10_69, v10_72, v10_74, v10_76, v10_79, v10_81, v10_84, v10_86, v10_87, v10_88, v10_89, v10_92, v10_95, v10_96, v10_97, v10_100, v10_102, v10_103, v10_104, v10_105, v10_106, u10_107, v10_110, v10_113, v10_116, v10_118, v10_121, v10_122, u10_124, v10_127, v10_130, n_cl, n_in_t, n_lt_t, n_lt_f, n_eq_t, n_eq_f, n_sub, nI_add, n_mul, n_01, ↓reduceIte, if_true, if_false, eq_self, true_or, or_true, and_self, and_true, true_and, Nat.reduceAdd, Nat.reduceMul, Nat.reduceLeDiff, Nat.zero_le, not_true_eq_false, not_false_eq_true, cat2_n, cat2_i, cat2_r, ws_0, ws_i, ws_r, ws_l, ws_d, aftr_n, aftr_s, bI_ok, bI_t, bI_f, up_s, up_n, n_bit, decide_true, decide_false, Bool.not_true, Bool.not_false, Bool.and_true, Bool.true_and, Bool.false_and, Bool.and_false, va_rf_s, n_nlt0, k_0, k_67, k_68, k_465, k_466, k_467, k_468, k_469, k_470, k_471, k_472, k_565, r_0_0, r_0_1, r_0_2, r_0_3, r_0_4, r_0_5, r_67_0, r_465_0, r_467_0, r_467_2, r_470_0, r_470_1, va_rf_s, kS0 hs, kS1 hs, kS2 hs, kS3 hs, kS4 hs, kS5 hs, kSp hs, kSn hs, kSw hs, kSl hs, rS0_0 hs, rS0_2 hs, rS0_4 hs, rS0_5 hs, rS3_0 hs, rS1 hs, rS2 hs, rSp hs, rSw hs, m1, d2]
            exact this
          · rw [if_pos (by cases j with | false => exact Or.inl rfl | true => exact Or.inr (by have : ¬ g.length < 2 := fun x => e3 ⟨rfl, x⟩; omega))] at hQ
            have ihj := ih (k + 1) j
            rw [if_neg e3] at ihj ⊢
            simp (disch := omega) only [v10_18, v10_19, v10_22, v10_25, v10_26, v10_29, v10_31, v10_32, v10_34, v10_36, v10_38, v10_41, v10_42, v10_45, v10_46, v10_49, v10_50, v10_53, v10_54, v10_56, v10_59, v10_61, v10_63, v10_66, v10_67, v10_69, v10_72, v10_74, v10_76, v10_79, v10_81, v10_84, v10_86, v10_87, v10_88, v10_89, v10_92, v10_95, v10_96, v10_97, v10_100, v10_102, v10_103, v10_104, v10_105, v10_106, u10_107, v10_110, v10_113, v10_116, v10_118, v10_121, v10_122, u10_124, n_cl, n_in_t, n_lt_t, n_lt_f, n_eq_t, n_eq_f, n_sub, nI_add, n_mul, n_01, ↓reduceIte, if_true, if_false, eq_self, true_or, or_true, and_self, and_true, true_and, Nat.reduceAdd, Nat.reduceMul, Nat.reduceLeDiff, Nat.zero_le, not_true_eq_false, not_false_eq_true, cat2_n, cat2_i, cat2_r, ws_0, ws_i, ws_r, ws_l, ws_d, aftr_n, aftr_s, bI_ok, bI_t, bI_f, up_s, up_n, n_bit, decide_true, decide_false, Bool.not_true, Bool.not_false, Bool.and_true, Bool.true_and, Bool.false_and, Bool.and_false, va_rf_s, n_nlt0, k_0, k_67, k_68, k_465, k_466, k_467, k_468, k_469, k_470, k_471, k_472, k_565, r_0_0, r_0_1, r_0_2, r_0_3, r_0_4, r_0_5, r_67_0, r_465_0, r_467_0, r_467_2, r_470_0, r_470_1, va_rf_s, kS0 hs, kS1 hs, kS2 hs, kS3 hs, kS4 hs, kS5 hs, kSp hs, kSn hs, kSw hs, kSl hs, rS0_0 hs, rS0_2 hs, rS0_4 hs, rS0_5 hs, rS3_0 hs, rS1 hs, rS2 hs, rSp hs, rSw hs, m1, d2]
            refine c19 ht (by omega) (fun I1 g1 g2 => ?_)
            simp (disch := omega) only [v10_127, v10_130, n_cl, n_in_t, n_lt_t, n_lt_f, n_eq_t, n_eq_f, n_sub, nI_add, n_mul, n_01, ↓reduceIte, if_true, if_false, eq_self, true_or, or_true, and_self, and_true, true_and, Nat.reduceAdd, Nat.reduceMul, Nat.reduceLeDiff, Nat.zero_le, not_true_eq_false, not_false_eq_true, cat2_n, cat2_i, cat2_r, ws_0, ws_i, ws_r, ws_l, ws_d, aftr_n, aftr_s, bI_ok, bI_t, bI_f, up_s, up_n, n_bit, decide_true, decide_false, Bool.not_true, Bool.not_false, Bool.and_true, Bool.true_and, Bool.false_and, Bool.and_false, va_rf_s, n_nlt0, k_0, k_67, k_68, k_465, k_466, k_467, k_468, k_469, k_470, k_471, k_472, k_565, r_0_0, r_0_1, r_0_2, r_0_3, r_0_4, r_0_5, r_67_0, r_465_0, r_467_0, r_467_2, r_470_0, r_470_1, va_rf_s]
            refine ihj I1 _ _ (by omega) hr' hT' (hz.ag g2) (hx.ag h6 h7 hs hp g2 pCx_3) g1 (by rw [List.length_append, List.length_singleton]; omega) (fun I2 g3 g4 => hQ I2 ?_ ((g2.mn pCx_z).tr g4))
            rwa [List.append_assoc] at g3
    · obtain ⟨c, rfl⟩ : ∃ c, tk = 256 + c := ⟨tk - 256, by omega⟩
      have hc : c = 99 ∨ c = 103 ∨ c = 110 ∨ c = 119 := by have := okt.1; unfold okTok at this; omega
      have ex1 : exT (256 + c) = [60, c, 62] := by unfold exT; rw [if_neg h256, show 256 + c - 256 = c by omega]
      rw [ex1] at hk hr hl il
      have l3 : ([60, c, 62] : List Nat).length = 3 := rfl
      rw [l3] at hk hl il
      have it : itemT A g (256 + c) = fieldT A g c := by unfold itemT; rw [if_neg h256, show 256 + c - 256 = c by omega]
      rw [it] at il
      rw [if_neg (by omega), if_neg (by omega), if_neg h256, show 256 + c - 256 = c by omega] at hQ
      have hc0 : (raw A).getD k 0 = 60 := by have := hr 0 (by simp); rwa [Nat.add_zero] at this
      have hc1 : (raw A).getD (k + 1) 0 = c := hr 1 (by simp)
      have d2 := hx.1.2.2.2.2 k (by omega)
      have d3 := hx.1.2.2.2.2 (k + 1) (by omega)
      rw [hc0] at d2
      rw [hc1] at d3
      have hr' : ∀ m, m < (T.flatMap exT).length → (raw A).getD (k + 2 + 1 + m) 0 = (T.flatMap exT).getD m 0 := fun m hm => by
        have := hr (m + 3) (by rw [List.length_append, l3]; omega)
        rw [show k + 2 + 1 + m = k + (m + 3) by omega, this]; rfl
      by_cases e3 : j = true ∧ g.length < 2
      · rw [if_neg (fun x => x.elim (fun y => by rw [y] at e3; cases e3.1) (fun y => by omega)), List.nil_append] at hQ
        have := ih (k + 2 + 1) j I t (some (.int (nI 60))) (by omega) hr' hT' hz hx ht (by omega) hQ
        rw [if_pos e3] at this ⊢
        simp (disch := omega) only [v10_18, v10_19, v10_22, v10_25, v10_26, v10_29, v10_31, v10_32, v10_34, v10_36, v10_38, v10_41, v10_42, v10_45, v10_46, v10_49, v10_50, v10_53, v10_54, v10_56, v10_59, v10_61, v10_63, v10_66, v10_67, v10_69, v10_72, v10_74, v10_76, v10_79, v10_81, v10_84, v10_86, v10_87, v10_88, v10_89, v10_92, v10_95, v10_96, v10_97, v10_100, v10_102, v10_103, v10_104, v10_105, v10_106, u10_107, v10_110, v10_113, v10_116, v10_118, v10_121, v10_122, u10_124, v10_127, v10_130, n_cl, n_in_t, n_lt_t, n_lt_f, n_eq_t, n_eq_f, n_sub, nI_add, n_mul, n_01, ↓reduceIte, if_true, if_false, eq_self, true_or, or_true, and_self, and_true, true_and, Nat.reduceAdd, Nat.reduceMul, Nat.reduceLeDiff, Nat.zero_le, not_true_eq_false, not_false_eq_true, cat2_n, cat2_i, cat2_r, ws_0, ws_i, ws_r, ws_l, ws_d, aftr_n, aftr_s, bI_ok, bI_t, bI_f, up_s, up_n, n_bit, decide_true, decide_false, Bool.not_true, Bool.not_false, Bool.and_true, Bool.true_and, Bool.false_and, Bool.and_false, va_rf_s, n_nlt0, k_0, k_67, k_68, k_465, k_466, k_467, k_468, k_469, k_470, k_471, k_472, k_565, r_0_0, r_0_1, r_0_2, r_0_3, r_0_4, r_0_5, r_67_0, r_465_0, r_467_0, r_467_2, r_470_0, r_470_1, va_rf_s, kS0 hs, kS1 hs, kS2 hs, kS3 hs, kS4 hs, kS5 hs, kSp hs, kSn hs, kSw hs, kSl hs, rS0_0 hs, rS0_2 hs, rS0_4 hs, rS0_5 hs, rS3_0 hs, rS1 hs, rS2 hs, rSp hs, rSw hs, m1, d2]
        exact this
      · rw [if_pos (by cases j with | false => exact Or.inl rfl | true => exact Or.inr (by have : ¬ g.length < 2 := fun x => e3 ⟨rfl, x⟩; omega))] at hQ
        have ihj := ih (k + 2 + 1) j
        rw [if_neg e3] at ihj ⊢
        simp (disch := omega) only [v10_18, v10_19, v10_22, v10_25, v10_26, v10_29, v10_31, v10_32, v10_34, v10_36, v10_38, v10_41, v10_42, v10_45, v10_46, v10_49, v10_50, v10_53, v10_54, v10_56, v10_59, v10_61, v10_63, v10_66, v10_67, v10_69, v10_72, v10_74, v10_76, v10_79, v10_81, v10_84, v10_86, v10_87, v10_88, v10_89, v10_92, v10_95, v10_96, v10_97, v10_100, v10_102, v10_103, v10_104, v10_105, v10_106, u10_107, n_cl, n_in_t, n_lt_t, n_lt_f, n_eq_t, n_eq_f, n_sub, nI_add, n_mul, n_01, ↓reduceIte, if_true, if_false, eq_self, true_or, or_true, and_self, and_true, true_and, Nat.reduceAdd, Nat.reduceMul, Nat.reduceLeDiff, Nat.zero_le, not_true_eq_false, not_false_eq_true, cat2_n, cat2_i, cat2_r, ws_0, ws_i, ws_r, ws_l, ws_d, aftr_n, aftr_s, bI_ok, bI_t, bI_f, up_s, up_n, n_bit, decide_true, decide_false, Bool.not_true, Bool.not_false, Bool.and_true, Bool.true_and, Bool.false_and, Bool.and_false, va_rf_s, n_nlt0, k_0, k_67, k_68, k_465, k_466, k_467, k_468, k_469, k_470, k_471, k_472, k_565, r_0_0, r_0_1, r_0_2, r_0_3, r_0_4, r_0_5, r_67_0, r_465_0, r_467_0, r_467_2, r_470_0, r_470_1, va_rf_s, kS0 hs, kS1 hs, kS2 hs, kS3 hs, kS4 hs, kS5 hs, kSp hs, kSn hs, kSw hs, kSl hs, rS0_0 hs, rS0_2 hs, rS0_4 hs, rS0_5 hs, rS3_0 hs, rS1 hs, rS2 hs, rSp hs, rSw hs, m1, d2, d3]
        refine c11 hs hp hi hg ok hc (fun e => okt.2 (by omega)) hz hx ht (by omega) (fun _ => by omega) (fun I1 g1 g2 => ?_)
        simp (disch := omega) only [v10_110, v10_113, v10_116, v10_118, v10_121, v10_122, u10_124, v10_127, v10_130, n_cl, n_in_t, n_lt_t, n_lt_f, n_eq_t, n_eq_f, n_sub, nI_add, n_mul, n_01, ↓reduceIte, if_true, if_false, eq_self, true_or, or_true, and_self, and_true, true_and, Nat.reduceAdd, Nat.reduceMul, Nat.reduceLeDiff, Nat.zero_le, not_true_eq_false, not_false_eq_true, cat2_n, cat2_i, cat2_r, ws_0, ws_i, ws_r, ws_l, ws_d, aftr_n, aftr_s, bI_ok, bI_t, bI_f, up_s, up_n, n_bit, decide_true, decide_false, Bool.not_true, Bool.not_false, Bool.and_true, Bool.true_and, Bool.false_and, Bool.and_false, va_rf_s, n_nlt0, k_0, k_67, k_68, k_465, k_466, k_467, k_468, k_469, k_470, k_471, k_472, k_565, r_0_0, r_0_1, r_0_2, r_0_3, r_0_4, r_0_5, r_67_0, r_465_0, r_467_0, r_467_2, r_470_0, r_470_1, va_rf_s]
        refine ihj I1 _ _ (by omega) hr' hT' (hz.ag g2) (hx.ag h6 h7 hs hp g2 pCz_3) g1 (by rw [List.length_append]; omega) (fun I2 g3 g4 => hQ I2 ?_ (g2.tr g4))
        rwa [List.append_assoc] at g3
theorem c10 (hs : isS s) (hp : isM p) (hi : i < 20) (hg : Good A) (ok : OkL A g) (hz : SZ KL RL b I z) (hx : CX b I s p i A g) (hQ : ∀ I', CT b I' (textT A g) → Ag pCz b I I' → Q (.inl none) (KAt KL b, I', RAt RL b q, L, sz, ex)) :
    X z 10 0 [some (.ref (ad b 467)), some (.ref (ad b s)), some (.ref (ad b (p + 6 + 2 * i))), none, none, none, none] [] (0, 0) (KAt KL b, I, RAt RL b q, L, sz, ex) Q := by
  have h6 := hg.1.1
  have h7 := hg.1.2.1
  have r60 := hg.2.2.2.2.2
  have a1 : Ag pCx b I (up2 I (ad b 467) 1 (nI 0)) := Ag.rf.up (Or.inr ⟨rfl, rfl⟩)
  simp (disch := omega) only [v10_0, v10_1, v10_2, v10_5, v10_6, v10_9, v10_10, v10_11, v10_13, v10_14, n_cl, n_in_t, n_lt_t, n_lt_f, n_eq_t, n_eq_f, n_sub, nI_add, n_mul, n_01, ↓reduceIte, if_true, if_false, eq_self, true_or, or_true, and_self, and_true, true_and, Nat.reduceAdd, Nat.reduceMul, Nat.reduceLeDiff, Nat.zero_le, not_true_eq_false, not_false_eq_true, cat2_n, cat2_i, cat2_r, ws_0, ws_i, ws_r, ws_l, ws_d, aftr_n, aftr_s, bI_ok, bI_t, bI_f, up_s, up_n, n_bit, decide_true, decide_false, Bool.not_true, Bool.not_false, Bool.and_true, Bool.true_and, Bool.false_and, Bool.and_false, va_rf_s, n_nlt0, k_0, k_67, k_68, k_465, k_466, k_467, k_468, k_469, k_470, k_471, k_472, k_565, r_0_0, r_0_1, r_0_2, r_0_3, r_0_4, r_0_5, r_67_0, r_465_0, r_467_0, r_467_2, r_470_0, r_470_1, va_rf_s, kS0 hs, kS1 hs, kS2 hs, kS3 hs, kS4 hs, kS5 hs, kSp hs, kSn hs, kSw hs, kSl hs, rS0_0 hs, rS0_2 hs, rS0_4 hs, rS0_5 hs, rS3_0 hs, rS1 hs, rS2 hs, rSp hs, rSw hs]
  have := l10 (z := z) (KL := KL) (RL := RL) (q := q) (L := L) (sz := sz) (ex := ex) (Q := Q) hs hp hi hg ok (toks A) 0 false (up2 I (ad b 467) 1 (nI 0)) [] none (by unfold raw; omega) (fun m _ => by rw [Nat.zero_add]; rfl) (toks_ok hg) (hz.ag a1) (hx.ag h6 h7 hs hp a1 pCx_3) ⟨up_s, fun k hk => absurd hk (Nat.not_lt_zero _)⟩ (by unfold raw at r60; rw [List.length_nil]; omega) (fun I' g1 g2 => hQ I' (by rwa [List.nil_append] at g1) ((a1.mn pCx_z).tr g2))
  rw [if_neg (fun x => by cases x.1)] at this
  exact this
end CH
