/-! THE REFERENCE: the digest -/
section PC
variable {z : P0} {KL : Nat → Nat × Nat} {RL : Nat → Nat → Option Nat} {q : Nat → Nat} {b : Nat} {I : Nat → Nat → Int32} {L : Nat → Nat → Int64} {sz : Nat} {ex : Bool} {Q : Res → Mem → Prop} {A : Row}
variable {n : Nat} {H : Nat → Row} {B : List Nat} {h : Int64} {t : List Nat}
theorem l180a {l : Nat} (hg : Good A) (hl' : l < (grps A).1) (hz : RZ b I A) (hl : LZ b I A) : ∀ d k h, k + d = 8 → X z 180 12 [some (.ref (ad b 566)), some (.int (nI l)), some (.int (nI k))] [] (0, 0) (KAt KL b, I, RAt RL b q, up2 L (ad b 566) 22 (h), sz, ex) Q = X z 180 35 [some (.ref (ad b 566)), some (.int (nI l)), some (.int (nI 8))] [] (0, 0) (KAt KL b, I, RAt RL b q, up2 L (ad b 566) 22 (mxN h (segF (letV A l) k d)), sz, ex) Q := by
  have h6 := hg.1.1
  have hn := grps_le hg
  intro d
  induction d with
  | zero =>
    intro k h hk
    have e : k = 8 := by omega
    subst e
    rw [v180_12]
    simp (disch := omega) only [v180_13, v180_15, v180_18, v180_19, v180_20, v180_21, u180_22, v180_25, u180_26, v180_29, v180_32, k_566, k_567, k_568, k_569, k_570, k_571, k_572, k_573, k_574, k_575, k_576, r_566_0, r_566_2, r_566_4, r_566_6, r_566_7, r_566_8, r_566_9, r_566_10, r_566_11, r_566_13, va_rf_s, n_cl, n_in_t, n_lt_t, n_lt_f, n_eq_t, n_eq_f, n_sub, nI_add, n_mul, ↓reduceIte, if_true, if_false, eq_self, true_or, or_true, and_self, and_true, true_and, Nat.reduceAdd, Nat.reduceMul, Nat.reduceLeDiff, Nat.zero_le, not_true_eq_false, not_false_eq_true, cat2_n, cat2_i, cat2_r, ws_0, ws_i, ws_r, ws_l, ws_d, aftr_n, aftr_s, bI_ok, bI_t, bI_f, up_s, up_n, n_bit, decide_true, decide_false, Bool.not_true, Bool.not_false, Bool.and_true, Bool.true_and, Bool.false_and, Bool.and_false]
    rfl
  | succ d ih =>
    intro k h hk
    rw [v180_12]
    simp (disch := omega) only [v180_13, v180_15, v180_18, v180_19, v180_20, v180_21, u180_22, v180_25, u180_26, v180_29, v180_32, k_566, k_567, k_568, k_569, k_570, k_571, k_572, k_573, k_574, k_575, k_576, r_566_0, r_566_2, r_566_4, r_566_6, r_566_7, r_566_8, r_566_9, r_566_10, r_566_11, r_566_13, va_rf_s, n_cl, n_in_t, n_lt_t, n_lt_f, n_eq_t, n_eq_f, n_sub, nI_add, n_mul, ↓reduceIte, if_true, if_false, eq_self, true_or, or_true, and_self, and_true, true_and, Nat.reduceAdd, Nat.reduceMul, Nat.reduceLeDiff, Nat.zero_le, not_true_eq_false, not_false_eq_true, cat2_n, cat2_i, cat2_r, ws_0, ws_i, ws_r, ws_l, ws_d, aftr_n, aftr_s, bI_ok, bI_t, bI_f, up_s, up_n, n_bit, decide_true, decide_false, Bool.not_true, Bool.not_false, Bool.and_true, Bool.true_and, Bool.false_and, Bool.and_false, c161 hg hl' (show k ≤ 7 by omega) hz hl, c178, ih (k + 1)]
    rfl
theorem l180b {l : Nat} (htl : t.length ≤ 2400) (ho : OT b I t) : ∀ (r : List Nat) k h, k + r.length = t.length → (∀ j, j < r.length → t.getD (k + j) 0 = r.getD j 0) → X z 180 53 [some (.ref (ad b 566)), some (.int (nI l)), some (.int (nI k))] [] (0, 0) (KAt KL b, I, RAt RL b q, up2 L (ad b 566) 22 (h), sz, ex) Q = X z 180 78 [some (.ref (ad b 566)), some (.int (nI l)), some (.int (nI t.length))] [] (0, 0) (KAt KL b, I, RAt RL b q, up2 L (ad b 566) 22 (mxN h r), sz, ex) Q := by
  intro r
  induction r with
  | nil =>
    intro k h hk _
    rw [List.length_nil, Nat.add_zero] at hk
    rw [v180_53, hk]
    simp (disch := omega) only [v180_54, v180_55, v180_58, v180_61, v180_62, v180_63, v180_66, v180_67, v180_68, u180_69, v180_72, v180_75, k_566, k_567, k_568, k_569, k_570, k_571, k_572, k_573, k_574, k_575, k_576, r_566_0, r_566_2, r_566_4, r_566_6, r_566_7, r_566_8, r_566_9, r_566_10, r_566_11, r_566_13, va_rf_s, n_cl, n_in_t, n_lt_t, n_lt_f, n_eq_t, n_eq_f, n_sub, nI_add, n_mul, ↓reduceIte, if_true, if_false, eq_self, true_or, or_true, and_self, and_true, true_and, Nat.reduceAdd, Nat.reduceMul, Nat.reduceLeDiff, Nat.zero_le, not_true_eq_false, not_false_eq_true, cat2_n, cat2_i, cat2_r, ws_0, ws_i, ws_r, ws_l, ws_d, aftr_n, aftr_s, bI_ok, bI_t, bI_f, up_s, up_n, n_bit, decide_true, decide_false, Bool.not_true, Bool.not_false, Bool.and_true, Bool.true_and, Bool.false_and, Bool.and_false, ho.1]
    rfl
  | cons c r ih =>
    intro k h hk hB
    obtain ⟨hB1, hB2⟩ := getD_tail hB
    rw [List.length_cons] at hk
    have hc := ho.2 k (by omega)
    rw [hB1] at hc
    rw [v180_53]
    simp (disch := omega) only [v180_54, v180_55, v180_58, v180_61, v180_62, v180_63, v180_66, v180_67, v180_68, u180_69, v180_72, v180_75, k_566, k_567, k_568, k_569, k_570, k_571, k_572, k_573, k_574, k_575, k_576, r_566_0, r_566_2, r_566_4, r_566_6, r_566_7, r_566_8, r_566_9, r_566_10, r_566_11, r_566_13, va_rf_s, n_cl, n_in_t, n_lt_t, n_lt_f, n_eq_t, n_eq_f, n_sub, nI_add, n_mul, ↓reduceIte, if_true, if_false, eq_self, true_or, or_true, and_self, and_true, true_and, Nat.reduceAdd, Nat.reduceMul, Nat.reduceLeDiff, Nat.zero_le, not_true_eq_false, not_false_eq_true, cat2_n, cat2_i, cat2_r, ws_0, ws_i, ws_r, ws_l, ws_d, aftr_n, aftr_s, bI_ok, bI_t, bI_f, up_s, up_n, n_bit, decide_true, decide_false, Bool.not_true, Bool.not_false, Bool.and_true, Bool.true_and, Bool.false_and, Bool.and_false, ho.1, hc, c178]
    rw [ih (k + 1) _ (by omega) hB2]
    rfl
theorem l180 (hg : Good A) : ∀ d l h I (x2 : Option Value), l + d = (grps A).1 → RS b I (A, n, H, B) → LZ b I A → (∀ I', RS b I' (A, n, H, B) → Ag pScr b I I' → Q (.inl none) (KAt KL b, I', RAt RL b q, up2 L (ad b 566) 22 (mxN h (flatF (letL A) l d)), sz, ex)) → X z 180 2 [some (.ref (ad b 566)), some (.int (nI l)), x2] [] (0, 0) (KAt KL b, I, RAt RL b q, up2 L (ad b 566) 22 (h), sz, ex) Q := by
  have h6 := hg.1.1
  have hn := grps_le hg
  intro d
  induction d with
  | zero =>
    intro l h I x2 hl' hs hl hQ
    have m12 := hl.1.1
    rw [v180_2]
    simp (disch := omega) only [v180_3, v180_4, v180_7, v180_10, v180_11, v180_84, k_566, k_567, k_568, k_569, k_570, k_571, k_572, k_573, k_574, k_575, k_576, r_566_0, r_566_2, r_566_4, r_566_6, r_566_7, r_566_8, r_566_9, r_566_10, r_566_11, r_566_13, va_rf_s, n_cl, n_in_t, n_lt_t, n_lt_f, n_eq_t, n_eq_f, n_sub, nI_add, n_mul, ↓reduceIte, if_true, if_false, eq_self, true_or, or_true, and_self, and_true, true_and, Nat.reduceAdd, Nat.reduceMul, Nat.reduceLeDiff, Nat.zero_le, not_true_eq_false, not_false_eq_true, cat2_n, cat2_i, cat2_r, ws_0, ws_i, ws_r, ws_l, ws_d, aftr_n, aftr_s, bI_ok, bI_t, bI_f, up_s, up_n, n_bit, decide_true, decide_false, Bool.not_true, Bool.not_false, Bool.and_true, Bool.true_and, Bool.false_and, Bool.and_false, m12]
    exact hQ I hs Ag.rf
  | succ d ih =>
    intro l h I x2 hl' hs hl hQ
    have m12 := hl.1.1
    have ok := grps_ok hg (k := l) (by omega)
    have mm := hl.1.2 l (by omega)
    rw [v180_2]
    simp (disch := omega) only [v180_3, v180_4, v180_7, v180_10, v180_11, k_566, k_567, k_568, k_569, k_570, k_571, k_572, k_573, k_574, k_575, k_576, r_566_0, r_566_2, r_566_4, r_566_6, r_566_7, r_566_8, r_566_9, r_566_10, r_566_11, r_566_13, va_rf_s, n_cl, n_in_t, n_lt_t, n_lt_f, n_eq_t, n_eq_f, n_sub, nI_add, n_mul, ↓reduceIte, if_true, if_false, eq_self, true_or, or_true, and_self, and_true, true_and, Nat.reduceAdd, Nat.reduceMul, Nat.reduceLeDiff, Nat.zero_le, not_true_eq_false, not_false_eq_true, cat2_n, cat2_i, cat2_r, ws_0, ws_i, ws_r, ws_l, ws_d, aftr_n, aftr_s, bI_ok, bI_t, bI_f, up_s, up_n, n_bit, decide_true, decide_false, Bool.not_true, Bool.not_false, Bool.and_true, Bool.true_and, Bool.false_and, Bool.and_false, m12, l180a hg (show l < (grps A).1 by omega) hs.rz hl 8 0, v180_35, v180_36, v180_37, v180_40, v180_41, v180_42, u180_43, v180_46, v180_47, u180_48, mm.1, c178]
    refine c124 hg (by omega) ok hs.rz mm.1 mm.2 (fun I2 g2 g3 => ?_)
    have tl := textT_len hg ok
    simp (disch := omega) only [v180_51, v180_52, k_566, k_567, k_568, k_569, k_570, k_571, k_572, k_573, k_574, k_575, k_576, r_566_0, r_566_2, r_566_4, r_566_6, r_566_7, r_566_8, r_566_9, r_566_10, r_566_11, r_566_13, va_rf_s, n_cl, n_in_t, n_lt_t, n_lt_f, n_eq_t, n_eq_f, n_sub, nI_add, n_mul, ↓reduceIte, if_true, if_false, eq_self, true_or, or_true, and_self, and_true, true_and, Nat.reduceAdd, Nat.reduceMul, Nat.reduceLeDiff, Nat.zero_le, not_true_eq_false, not_false_eq_true, cat2_n, cat2_i, cat2_r, ws_0, ws_i, ws_r, ws_l, ws_d, aftr_n, aftr_s, bI_ok, bI_t, bI_f, up_s, up_n, n_bit, decide_true, decide_false, Bool.not_true, Bool.not_false, Bool.and_true, Bool.true_and, Bool.false_and, Bool.and_false, l180b (l := l) (show (textT A ((grps A).2 l)).length ≤ 2400 by omega) g2 (textT A ((grps A).2 l)) 0 _ (by omega) (fun j _ => by rw [Nat.zero_add]), v180_78, v180_81]
    have l2 : LZ b I2 A := by
      refine ⟨hl.1.ag g3 (fun x => by unfold pTx at x; omega) (fun j x => by unfold pTx at x; omega) (fun j x => by unfold pTx at x; omega), fun j hj => (g3.at (fun x => by unfold pTx at x; omega)).trans (hl.2.1 j hj), fun k hk => ?_⟩
      have := hl.2.2 k hk
      exact ⟨(g3.at (fun x => by unfold pTx at x; omega)).trans this.1, (g3.at (fun x => by unfold pTx at x; omega)).trans this.2.1, (g3.at (fun x => by unfold pTx at x; omega)).trans this.2.2⟩
    refine ih (l + 1) _ I2 _ (by omega) (hs.scr (g3.mn pTx_s)) l2 (fun I3 q1 q2 => ?_)
    have := hQ I3 q1 ((g3.mn pTx_s).tr q2)
    unfold flatF letL at this
    rw [mxN_a, mxN_a, mxN_c] at this
    exact this
theorem c180 (hg : Good A) (hs : RS b I (A, n, H, B)) (hl : LZ b I A) (hQ : ∀ I', RS b I' (A, n, H, B) → Ag pScr b I I' → Q (.inl none) (KAt KL b, I', RAt RL b q, up2 L (ad b 566) 22 (mxN h (flatF (letL A) 0 (grps A).1)), sz, ex)) : X z 180 0 [some (.ref (ad b 566)), none, none] [] (0, 0) (KAt KL b, I, RAt RL b q, up2 L (ad b 566) 22 (h), sz, ex) Q := by
  simp (disch := omega) only [v180_0, v180_1, k_566, k_567, k_568, k_569, k_570, k_571, k_572, k_573, k_574, k_575, k_576, r_566_0, r_566_2, r_566_4, r_566_6, r_566_7, r_566_8, r_566_9, r_566_10, r_566_11, r_566_13, va_rf_s, n_cl, n_in_t, n_lt_t, n_lt_f, n_eq_t, n_eq_f, n_sub, nI_add, n_mul, ↓reduceIte, if_true, if_false, eq_self, true_or, or_true, and_self, and_true, true_and, Nat.reduceAdd, Nat.reduceMul, Nat.reduceLeDiff, Nat.zero_le, not_true_eq_false, not_false_eq_true, cat2_n, cat2_i, cat2_r, ws_0, ws_i, ws_r, ws_l, ws_d, aftr_n, aftr_s, bI_ok, bI_t, bI_f, up_s, up_n, n_bit, decide_true, decide_false, Bool.not_true, Bool.not_false, Bool.and_true, Bool.true_and, Bool.false_and, Bool.and_false]
  exact l180 hg (grps A).1 0 _ I _ (by omega) hs hl hQ
theorem l181a (hs : RS b I (A, n, H, B)) (hg : Good A) (hl : LZ b I A) : ∀ d k h, k + d = 15 → X z 181 18 [some (.ref (ad b 566)), some (.int (nI k))] [] (0, 0) (KAt KL b, I, RAt RL b q, up2 L (ad b 566) 22 (h), sz, ex) Q = X z 181 40 [some (.ref (ad b 566)), some (.int (nI 15))] [] (0, 0) (KAt KL b, I, RAt RL b q, up2 L (ad b 566) 22 (mxN h (segF (cntV A n) k d)), sz, ex) Q := by
  intro d
  induction d with
  | zero =>
    intro k h hk
    have e : k = 15 := by omega
    subst e
    rw [v181_18]
    simp (disch := omega) only [v181_19, v181_21, v181_24, v181_25, v181_26, u181_27, v181_30, u181_31, v181_34, v181_37, k_566, k_567, k_568, k_569, k_570, k_571, k_572, k_573, k_574, k_575, k_576, r_566_0, r_566_2, r_566_4, r_566_6, r_566_7, r_566_8, r_566_9, r_566_10, r_566_11, r_566_13, va_rf_s, n_cl, n_in_t, n_lt_t, n_lt_f, n_eq_t, n_eq_f, n_sub, nI_add, n_mul, ↓reduceIte, if_true, if_false, eq_self, true_or, or_true, and_self, and_true, true_and, Nat.reduceAdd, Nat.reduceMul, Nat.reduceLeDiff, Nat.zero_le, not_true_eq_false, not_false_eq_true, cat2_n, cat2_i, cat2_r, ws_0, ws_i, ws_r, ws_l, ws_d, aftr_n, aftr_s, bI_ok, bI_t, bI_f, up_s, up_n, n_bit, decide_true, decide_false, Bool.not_true, Bool.not_false, Bool.and_true, Bool.true_and, Bool.false_and, Bool.and_false]
    rfl
  | succ d ih =>
    intro k h hk
    rw [v181_18]
    simp (disch := omega) only [v181_19, v181_21, v181_24, v181_25, v181_26, u181_27, v181_30, u181_31, v181_34, v181_37, k_566, k_567, k_568, k_569, k_570, k_571, k_572, k_573, k_574, k_575, k_576, r_566_0, r_566_2, r_566_4, r_566_6, r_566_7, r_566_8, r_566_9, r_566_10, r_566_11, r_566_13, va_rf_s, n_cl, n_in_t, n_lt_t, n_lt_f, n_eq_t, n_eq_f, n_sub, nI_add, n_mul, ↓reduceIte, if_true, if_false, eq_self, true_or, or_true, and_self, and_true, true_and, Nat.reduceAdd, Nat.reduceMul, Nat.reduceLeDiff, Nat.zero_le, not_true_eq_false, not_false_eq_true, cat2_n, cat2_i, cat2_r, ws_0, ws_i, ws_r, ws_l, ws_d, aftr_n, aftr_s, bI_ok, bI_t, bI_f, up_s, up_n, n_bit, decide_true, decide_false, Bool.not_true, Bool.not_false, Bool.and_true, Bool.true_and, Bool.false_and, Bool.and_false, c165 (show k ≤ 14 by omega) hs hg hl, c178, ih (k + 1)]
    rfl
theorem l181b (hz : RZ b I A) : ∀ d k h, k + d = 6 → X z 181 42 [some (.ref (ad b 566)), some (.int (nI k))] [] (0, 0) (KAt KL b, I, RAt RL b q, up2 L (ad b 566) 22 (h), sz, ex) Q = X z 181 67 [some (.ref (ad b 566)), some (.int (nI 6))] [] (0, 0) (KAt KL b, I, RAt RL b q, up2 L (ad b 566) 22 (mxN h (segF A k d)), sz, ex) Q := by
  intro d
  induction d with
  | zero =>
    intro k h hk
    have e : k = 6 := by omega
    subst e
    rw [v181_42]
    simp (disch := omega) only [v181_43, v181_45, v181_48, v181_49, v181_50, v181_53, v181_54, v181_55, v181_56, v181_57, u181_58, v181_61, v181_64, k_566, k_567, k_568, k_569, k_570, k_571, k_572, k_573, k_574, k_575, k_576, r_566_0, r_566_2, r_566_4, r_566_6, r_566_7, r_566_8, r_566_9, r_566_10, r_566_11, r_566_13, va_rf_s, n_cl, n_in_t, n_lt_t, n_lt_f, n_eq_t, n_eq_f, n_sub, nI_add, n_mul, ↓reduceIte, if_true, if_false, eq_self, true_or, or_true, and_self, and_true, true_and, Nat.reduceAdd, Nat.reduceMul, Nat.reduceLeDiff, Nat.zero_le, not_true_eq_false, not_false_eq_true, cat2_n, cat2_i, cat2_r, ws_0, ws_i, ws_r, ws_l, ws_d, aftr_n, aftr_s, bI_ok, bI_t, bI_f, up_s, up_n, n_bit, decide_true, decide_false, Bool.not_true, Bool.not_false, Bool.and_true, Bool.true_and, Bool.false_and, Bool.and_false]
    rfl
  | succ d ih =>
    intro k h hk
    rw [v181_42]
    simp (disch := omega) only [v181_43, v181_45, v181_48, v181_49, v181_50, v181_53, v181_54, v181_55, v181_56, v181_57, u181_58, v181_61, v181_64, k_566, k_567, k_568, k_569, k_570, k_571, k_572, k_573, k_574, k_575, k_576, r_566_0, r_566_2, r_566_4, r_566_6, r_566_7, r_566_8, r_566_9, r_566_10, r_566_11, r_566_13, va_rf_s, n_cl, n_in_t, n_lt_t, n_lt_f, n_eq_t, n_eq_f, n_sub, nI_add, n_mul, ↓reduceIte, if_true, if_false, eq_self, true_or, or_true, and_self, and_true, true_and, Nat.reduceAdd, Nat.reduceMul, Nat.reduceLeDiff, Nat.zero_le, not_true_eq_false, not_false_eq_true, cat2_n, cat2_i, cat2_r, ws_0, ws_i, ws_r, ws_l, ws_d, aftr_n, aftr_s, bI_ok, bI_t, bI_f, up_s, up_n, n_bit, decide_true, decide_false, Bool.not_true, Bool.not_false, Bool.and_true, Bool.true_and, Bool.false_and, Bool.and_false, hz.at, Nat.zero_add, c178, ih (k + 1)]
    rfl
theorem l181c (hs : RS b I (A, n, H, B)) : ∀ (r : List Nat) k h, k + r.length = B.length → (∀ j, j < r.length → B.getD (k + j) 0 = r.getD j 0) → X z 181 119 [some (.ref (ad b 566)), some (.int (nI k))] [] (0, 0) (KAt KL b, I, RAt RL b q, up2 L (ad b 566) 22 (h), sz, ex) Q = Q (.inl (some (.long (mxN h r)))) (KAt KL b, I, RAt RL b q, up2 L (ad b 566) 22 (mxN h r), sz, ex) := by
  have hb := hs.len
  have hl1 := hb.1
  intro r
  induction r with
  | nil =>
    intro k h hk _
    rw [List.length_nil, Nat.add_zero] at hk
    rw [v181_119, hk]
    simp (disch := omega) only [v181_120, v181_121, v181_124, v181_127, v181_128, v181_129, v181_132, v181_133, v181_134, u181_135, v181_138, v181_141, v181_144, v181_145, v181_148, k_566, k_567, k_568, k_569, k_570, k_571, k_572, k_573, k_574, k_575, k_576, r_566_0, r_566_2, r_566_4, r_566_6, r_566_7, r_566_8, r_566_9, r_566_10, r_566_11, r_566_13, va_rf_s, n_cl, n_in_t, n_lt_t, n_lt_f, n_eq_t, n_eq_f, n_sub, nI_add, n_mul, ↓reduceIte, if_true, if_false, eq_self, true_or, or_true, and_self, and_true, true_and, Nat.reduceAdd, Nat.reduceMul, Nat.reduceLeDiff, Nat.zero_le, not_true_eq_false, not_false_eq_true, cat2_n, cat2_i, cat2_r, ws_0, ws_i, ws_r, ws_l, ws_d, aftr_n, aftr_s, bI_ok, bI_t, bI_f, up_s, up_n, n_bit, decide_true, decide_false, Bool.not_true, Bool.not_false, Bool.and_true, Bool.true_and, Bool.false_and, Bool.and_false, hl1]
    rfl
  | cons c r ih =>
    intro k h hk hB
    obtain ⟨hB1, hB2⟩ := getD_tail hB
    rw [List.length_cons] at hk
    have hc := hs.buf (k := k) (by omega)
    rw [hB1] at hc
    rw [v181_119]
    simp (disch := omega) only [v181_120, v181_121, v181_124, v181_127, v181_128, v181_129, v181_132, v181_133, v181_134, u181_135, v181_138, v181_141, k_566, k_567, k_568, k_569, k_570, k_571, k_572, k_573, k_574, k_575, k_576, r_566_0, r_566_2, r_566_4, r_566_6, r_566_7, r_566_8, r_566_9, r_566_10, r_566_11, r_566_13, va_rf_s, n_cl, n_in_t, n_lt_t, n_lt_f, n_eq_t, n_eq_f, n_sub, nI_add, n_mul, ↓reduceIte, if_true, if_false, eq_self, true_or, or_true, and_self, and_true, true_and, Nat.reduceAdd, Nat.reduceMul, Nat.reduceLeDiff, Nat.zero_le, not_true_eq_false, not_false_eq_true, cat2_n, cat2_i, cat2_r, ws_0, ws_i, ws_r, ws_l, ws_d, aftr_n, aftr_s, bI_ok, bI_t, bI_f, up_s, up_n, n_bit, decide_true, decide_false, Bool.not_true, Bool.not_false, Bool.and_true, Bool.true_and, Bool.false_and, Bool.and_false, hl1, hc, c178]
    rw [ih (k + 1) _ (by omega) hB2]
    rfl
theorem c182 {d : UInt64} {σ : Mem} (hd : okD d = true) : X z 182 0 [some (.double d), none] [] (0, 0) σ Q = Q (.inl (some (.int (nI 0)))) σ := by
  have h := (okD_n hd).2
  simp (disch := omega) only [v182_0, v182_1, v182_2, v182_3, v182_6, v182_7, v182_10, v182_11, k_566, k_567, k_568, k_569, k_570, k_571, k_572, k_573, k_574, k_575, k_576, r_566_0, r_566_2, r_566_4, r_566_6, r_566_7, r_566_8, r_566_9, r_566_10, r_566_11, r_566_13, va_rf_s, n_cl, n_in_t, n_lt_t, n_lt_f, n_eq_t, n_eq_f, n_sub, nI_add, n_mul, ↓reduceIte, if_true, if_false, eq_self, true_or, or_true, and_self, and_true, true_and, Nat.reduceAdd, Nat.reduceMul, Nat.reduceLeDiff, Nat.zero_le, not_true_eq_false, not_false_eq_true, cat2_n, cat2_i, cat2_r, ws_0, ws_i, ws_r, ws_l, ws_d, aftr_n, aftr_s, bI_ok, bI_t, bI_f, up_s, up_n, n_bit, decide_true, decide_false, Bool.not_true, Bool.not_false, Bool.and_true, Bool.true_and, Bool.false_and, Bool.and_false, h]
theorem c183 {d : UInt64} (hd : okD d = true) : X z 183 0 [some (.double d), none] [] (0, 0) (KAt KL b, I, RAt RL b q, L, sz, ex) Q = Q (.inl (some (.long d.toInt64))) (KAt KL b, I, RAt RL b q, L, sz, ex) := by
  simp (disch := omega) only [v183_0, u183_1, v183_4, v183_7, v183_8, v183_11, v183_12, v183_15, k_566, k_567, k_568, k_569, k_570, k_571, k_572, k_573, k_574, k_575, k_576, r_566_0, r_566_2, r_566_4, r_566_6, r_566_7, r_566_8, r_566_9, r_566_10, r_566_11, r_566_13, va_rf_s, n_cl, n_in_t, n_lt_t, n_lt_f, n_eq_t, n_eq_f, n_sub, nI_add, n_mul, ↓reduceIte, if_true, if_false, eq_self, true_or, or_true, and_self, and_true, true_and, Nat.reduceAdd, Nat.reduceMul, Nat.reduceLeDiff, Nat.zero_le, not_true_eq_false, not_false_eq_true, cat2_n, cat2_i, cat2_r, ws_0, ws_i, ws_r, ws_l, ws_d, aftr_n, aftr_s, bI_ok, bI_t, bI_f, up_s, up_n, n_bit, decide_true, decide_false, Bool.not_true, Bool.not_false, Bool.and_true, Bool.true_and, Bool.false_and, Bool.and_false, c182 hd]
theorem c177 (hs : RS b I (A, n, H, B)) (hg : Good A) (hQ : ∀ I', RS b I' (A, n, H, B) → Ag pRef b I I' → Q (.inl (some (.double (shrV A)))) (KAt KL b, I', RAt RL b q, L, sz, ex)) : X z 177 0 [some (.ref (ad b 566))] [] (0, 0) (KAt KL b, I, RAt RL b q, L, sz, ex) Q := by
  simp (disch := omega) only [v177_0, v177_1, v177_2, v177_5, u177_6, k_566, k_567, k_568, k_569, k_570, k_571, k_572, k_573, k_574, k_575, k_576, r_566_0, r_566_2, r_566_4, r_566_6, r_566_7, r_566_8, r_566_9, r_566_10, r_566_11, r_566_13, va_rf_s, n_cl, n_in_t, n_lt_t, n_lt_f, n_eq_t, n_eq_f, n_sub, nI_add, n_mul, ↓reduceIte, if_true, if_false, eq_self, true_or, or_true, and_self, and_true, true_and, Nat.reduceAdd, Nat.reduceMul, Nat.reduceLeDiff, Nat.zero_le, not_true_eq_false, not_false_eq_true, cat2_n, cat2_i, cat2_r, ws_0, ws_i, ws_r, ws_l, ws_d, aftr_n, aftr_s, bI_ok, bI_t, bI_f, up_s, up_n, n_bit, decide_true, decide_false, Bool.not_true, Bool.not_false, Bool.and_true, Bool.true_and, Bool.false_and, Bool.and_false]
  refine c130 hg hs.thr.rz (fun I1 l1 g1 => ?_)
  have hs1 := hs.thr.scr g1
  simp (disch := omega) only [v177_9, u177_10, v177_13, k_566, k_567, k_568, k_569, k_570, k_571, k_572, k_573, k_574, k_575, k_576, r_566_0, r_566_2, r_566_4, r_566_6, r_566_7, r_566_8, r_566_9, r_566_10, r_566_11, r_566_13, va_rf_s, n_cl, n_in_t, n_lt_t, n_lt_f, n_eq_t, n_eq_f, n_sub, nI_add, n_mul, ↓reduceIte, if_true, if_false, eq_self, true_or, or_true, and_self, and_true, true_and, Nat.reduceAdd, Nat.reduceMul, Nat.reduceLeDiff, Nat.zero_le, not_true_eq_false, not_false_eq_true, cat2_n, cat2_i, cat2_r, ws_0, ws_i, ws_r, ws_l, ws_d, aftr_n, aftr_s, bI_ok, bI_t, bI_f, up_s, up_n, n_bit, decide_true, decide_false, Bool.not_true, Bool.not_false, Bool.and_true, Bool.true_and, Bool.false_and, Bool.and_false, c176 hg hs1.rz l1]
  exact hQ I1 hs1 ((agThr.mn pThr_r).tr (g1.mn pScr_r))
set_option maxHeartbeats 4000000 in
theorem c181 (hs : RS b I (A, n, H, B)) (hg : Good A) (hQ : ∀ I' h, RS b I' (A, n, H, B) → Ag pRef b I I' → Q (.inl (some (.long (digV (A, n, H, B))))) (KAt KL b, I', RAt RL b q, up2 L (ad b 566) 22 (h), sz, ex)) : X z 181 0 [some (.ref (ad b 566)), none] [] (0, 0) (KAt KL b, I, RAt RL b q, L, sz, ex) Q := by
  have hb := hs.len.2
  simp (disch := omega) only [v181_0, v181_1, v181_2, v181_5, u181_6, k_566, k_567, k_568, k_569, k_570, k_571, k_572, k_573, k_574, k_575, k_576, r_566_0, r_566_2, r_566_4, r_566_6, r_566_7, r_566_8, r_566_9, r_566_10, r_566_11, r_566_13, va_rf_s, n_cl, n_in_t, n_lt_t, n_lt_f, n_eq_t, n_eq_f, n_sub, nI_add, n_mul, ↓reduceIte, if_true, if_false, eq_self, true_or, or_true, and_self, and_true, true_and, Nat.reduceAdd, Nat.reduceMul, Nat.reduceLeDiff, Nat.zero_le, not_true_eq_false, not_false_eq_true, cat2_n, cat2_i, cat2_r, ws_0, ws_i, ws_r, ws_l, ws_d, aftr_n, aftr_s, bI_ok, bI_t, bI_f, up_s, up_n, n_bit, decide_true, decide_false, Bool.not_true, Bool.not_false, Bool.and_true, Bool.true_and, Bool.false_and, Bool.and_false]
  refine c130 hg hs.thr.rz (fun I1 l1 g1 => ?_)
  have hs1 := hs.thr.scr g1
  simp (disch := omega) only [v181_9, v181_10, v181_13, v181_16, v181_17, k_566, k_567, k_568, k_569, k_570, k_571, k_572, k_573, k_574, k_575, k_576, r_566_0, r_566_2, r_566_4, r_566_6, r_566_7, r_566_8, r_566_9, r_566_10, r_566_11, r_566_13, va_rf_s, n_cl, n_in_t, n_lt_t, n_lt_f, n_eq_t, n_eq_f, n_sub, nI_add, n_mul, ↓reduceIte, if_true, if_false, eq_self, true_or, or_true, and_self, and_true, true_and, Nat.reduceAdd, Nat.reduceMul, Nat.reduceLeDiff, Nat.zero_le, not_true_eq_false, not_false_eq_true, cat2_n, cat2_i, cat2_r, ws_0, ws_i, ws_r, ws_l, ws_d, aftr_n, aftr_s, bI_ok, bI_t, bI_f, up_s, up_n, n_bit, decide_true, decide_false, Bool.not_true, Bool.not_false, Bool.and_true, Bool.true_and, Bool.false_and, Bool.and_false, l181a hs1 hg l1 15 0, v181_40, v181_41, l181b hs1.rz 6 0, v181_67, u181_68]
  refine c179 hg hs1.rz l1 ?_
  simp (disch := omega) only [v181_71, u181_72, k_566, k_567, k_568, k_569, k_570, k_571, k_572, k_573, k_574, k_575, k_576, r_566_0, r_566_2, r_566_4, r_566_6, r_566_7, r_566_8, r_566_9, r_566_10, r_566_11, r_566_13, va_rf_s, n_cl, n_in_t, n_lt_t, n_lt_f, n_eq_t, n_eq_f, n_sub, nI_add, n_mul, ↓reduceIte, if_true, if_false, eq_self, true_or, or_true, and_self, and_true, true_and, Nat.reduceAdd, Nat.reduceMul, Nat.reduceLeDiff, Nat.zero_le, not_true_eq_false, not_false_eq_true, cat2_n, cat2_i, cat2_r, ws_0, ws_i, ws_r, ws_l, ws_d, aftr_n, aftr_s, bI_ok, bI_t, bI_f, up_s, up_n, n_bit, decide_true, decide_false, Bool.not_true, Bool.not_false, Bool.and_true, Bool.true_and, Bool.false_and, Bool.and_false]
  refine c180 hg hs1 l1 (fun I2 s2 g2 => ?_)
  simp (disch := omega) only [v181_75, v181_76, u181_77, k_566, k_567, k_568, k_569, k_570, k_571, k_572, k_573, k_574, k_575, k_576, r_566_0, r_566_2, r_566_4, r_566_6, r_566_7, r_566_8, r_566_9, r_566_10, r_566_11, r_566_13, va_rf_s, n_cl, n_in_t, n_lt_t, n_lt_f, n_eq_t, n_eq_f, n_sub, nI_add, n_mul, ↓reduceIte, if_true, if_false, eq_self, true_or, or_true, and_self, and_true, true_and, Nat.reduceAdd, Nat.reduceMul, Nat.reduceLeDiff, Nat.zero_le, not_true_eq_false, not_false_eq_true, cat2_n, cat2_i, cat2_r, ws_0, ws_i, ws_r, ws_l, ws_d, aftr_n, aftr_s, bI_ok, bI_t, bI_f, up_s, up_n, n_bit, decide_true, decide_false, Bool.not_true, Bool.not_false, Bool.and_true, Bool.true_and, Bool.false_and, Bool.and_false]
  refine c170 s2 hg (fun I3 s3 g3 => ?_)
  simp (disch := omega) only [v181_80, u181_81, v181_84, v181_85, u181_86, k_566, k_567, k_568, k_569, k_570, k_571, k_572, k_573, k_574, k_575, k_576, r_566_0, r_566_2, r_566_4, r_566_6, r_566_7, r_566_8, r_566_9, r_566_10, r_566_11, r_566_13, va_rf_s, n_cl, n_in_t, n_lt_t, n_lt_f, n_eq_t, n_eq_f, n_sub, nI_add, n_mul, ↓reduceIte, if_true, if_false, eq_self, true_or, or_true, and_self, and_true, true_and, Nat.reduceAdd, Nat.reduceMul, Nat.reduceLeDiff, Nat.zero_le, not_true_eq_false, not_false_eq_true, cat2_n, cat2_i, cat2_r, ws_0, ws_i, ws_r, ws_l, ws_d, aftr_n, aftr_s, bI_ok, bI_t, bI_f, up_s, up_n, n_bit, decide_true, decide_false, Bool.not_true, Bool.not_false, Bool.and_true, Bool.true_and, Bool.false_and, Bool.and_false, c178]
  refine c172 s3 hg (fun I4 s4 g4 => ?_)
  simp (disch := omega) only [v181_89, u181_90, v181_93, u181_94, k_566, k_567, k_568, k_569, k_570, k_571, k_572, k_573, k_574, k_575, k_576, r_566_0, r_566_2, r_566_4, r_566_6, r_566_7, r_566_8, r_566_9, r_566_10, r_566_11, r_566_13, va_rf_s, n_cl, n_in_t, n_lt_t, n_lt_f, n_eq_t, n_eq_f, n_sub, nI_add, n_mul, ↓reduceIte, if_true, if_false, eq_self, true_or, or_true, and_self, and_true, true_and, Nat.reduceAdd, Nat.reduceMul, Nat.reduceLeDiff, Nat.zero_le, not_true_eq_false, not_false_eq_true, cat2_n, cat2_i, cat2_r, ws_0, ws_i, ws_r, ws_l, ws_d, aftr_n, aftr_s, bI_ok, bI_t, bI_f, up_s, up_n, n_bit, decide_true, decide_false, Bool.not_true, Bool.not_false, Bool.and_true, Bool.true_and, Bool.false_and, Bool.and_false, c178]
  refine c130 hg s4.rz (fun I5 l5 g5 => ?_)
  have s5 := s4.scr g5
  have hl5 := s5.len.1
  simp (disch := omega) only [v181_97, v181_98, u181_99, u181_102, u181_105, v181_108, v181_109, v181_110, v181_113, u181_114, v181_117, v181_118, k_566, k_567, k_568, k_569, k_570, k_571, k_572, k_573, k_574, k_575, k_576, r_566_0, r_566_2, r_566_4, r_566_6, r_566_7, r_566_8, r_566_9, r_566_10, r_566_11, r_566_13, va_rf_s, n_cl, n_in_t, n_lt_t, n_lt_f, n_eq_t, n_eq_f, n_sub, nI_add, n_mul, ↓reduceIte, if_true, if_false, eq_self, true_or, or_true, and_self, and_true, true_and, Nat.reduceAdd, Nat.reduceMul, Nat.reduceLeDiff, Nat.zero_le, not_true_eq_false, not_false_eq_true, cat2_n, cat2_i, cat2_r, ws_0, ws_i, ws_r, ws_l, ws_d, aftr_n, aftr_s, bI_ok, bI_t, bI_f, up_s, up_n, n_bit, decide_true, decide_false, Bool.not_true, Bool.not_false, Bool.and_true, Bool.true_and, Bool.false_and, Bool.and_false, c176 hg s5.rz l5, c183 (shr_ok hg), c178, hl5, l181c s5 B 0 _ (by omega) (fun j _ => by rw [Nat.zero_add])]
  have fr := ((((agThr (b := b) (I := I) (v := nI 0)).mn pThr_r).tr (g1.mn pScr_r)).tr (g2.mn pScr_r)).tr (((g3.mn pSt_r).tr (g4.mn pSt_r)).tr (g5.mn pScr_r))
  have := hQ I5 (digV (A, n, H, B)) s5 fr
  unfold digV at this
  dsimp only at this
  rw [mxN_c, mxN_a, mxN_a, mxN_a, mxN_a, mxN_a, mxN_c, mxN_c, mxN_nil] at this
  rw [mxN_a]
  exact this
end PC
