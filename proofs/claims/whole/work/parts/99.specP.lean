/-! THE REFERENCE: days, the buffer, undo, sending -/
section OS
variable {z : P0} {KL : Nat → Nat × Nat} {RL : Nat → Nat → Option Nat} {q : Nat → Nat} {b : Nat} {I : Nat → Nat → Int32} {L : Nat → Nat → Int64} {sz : Nat} {ex : Bool} {Q : Res → Mem → Prop} {A : Row}
variable {n : Nat} {H : Nat → Row} {B : List Nat}
theorem c144 {d : Nat} (hd : d < 4294967296) (hs : RS b I (A, n, H, B)) (hg : Good A) (hQ : RQ b I (opPass (A, n, H, B) d) fun v I' => Q (.inl (some (.int (nI v)))) (KAt KL b, I', RAt RL b q, L, sz, ex)) : X z 144 0 [some (.ref (ad b 566)), some (.int (nI d))] [] (0, 0) (KAt KL b, I, RAt RL b q, L, sz, ex) Q := by
  have h8 := hg.1.2.2.2
  have hz : RZ b I A := hs.rz
  unfold opPass at hQ
  dsimp only at hQ
  by_cases e1 : 1 ≤ d ∧ d ≤ 100
  · rw [if_pos e1] at hQ
    by_cases e2 : A 8 + d ≤ 10000
    · rw [if_pos e2] at hQ
      simp (disch := omega) only [v144_0, v144_1, v144_2, v144_3, u144_5, v144_8, v144_11, v144_12, v144_15, v144_16, v144_19, v144_21, v144_22, v144_23, v144_24, v144_27, v144_30, v144_31, v144_34, v144_35, v144_38, v144_39, v144_42, v144_45, v144_46, v144_47, u144_48, k_566, k_567, k_568, k_569, k_570, k_571, k_572, k_573, k_574, k_575, k_576, r_566_0, r_566_2, r_566_4, r_566_6, r_566_7, r_566_8, r_566_9, r_566_10, r_566_11, r_566_13, va_rf_s, n_cl, n_in_t, n_lt_t, n_lt_f, n_eq_t, n_eq_f, n_sub, nI_add, n_mul, ↓reduceIte, if_true, if_false, eq_self, true_or, or_true, and_self, and_true, true_and, Nat.reduceAdd, Nat.reduceMul, Nat.reduceLeDiff, Nat.zero_le, not_true_eq_false, not_false_eq_true, cat2_n, cat2_i, cat2_r, ws_0, ws_i, ws_r, ws_l, ws_d, aftr_n, aftr_s, bI_ok, bI_t, bI_f, up_s, up_n, n_bit, decide_true, decide_false, Bool.not_true, Bool.not_false, Bool.and_true, Bool.true_and, Bool.false_and, Bool.and_false, c106, n_wi, hz.at, decide_eq_true e1]
      refine c107 hs.thr (fun I1 g1 g2 => ?_)
      have hz1 : RZ b I1 A := g1.rz
      simp (disch := omega) only [v144_51, v144_52, v144_55, v144_57, v144_58, v144_59, v144_60, v144_61, v144_62, v144_63, v144_66, v144_68, v144_69, k_566, k_567, k_568, k_569, k_570, k_571, k_572, k_573, k_574, k_575, k_576, r_566_0, r_566_2, r_566_4, r_566_6, r_566_7, r_566_8, r_566_9, r_566_10, r_566_11, r_566_13, va_rf_s, n_cl, n_in_t, n_lt_t, n_lt_f, n_eq_t, n_eq_f, n_sub, nI_add, n_mul, ↓reduceIte, if_true, if_false, eq_self, true_or, or_true, and_self, and_true, true_and, Nat.reduceAdd, Nat.reduceMul, Nat.reduceLeDiff, Nat.zero_le, not_true_eq_false, not_false_eq_true, cat2_n, cat2_i, cat2_r, ws_0, ws_i, ws_r, ws_l, ws_d, aftr_n, aftr_s, bI_ok, bI_t, bI_f, up_s, up_n, n_bit, decide_true, decide_false, Bool.not_true, Bool.not_false, Bool.and_true, Bool.true_and, Bool.false_and, Bool.and_false, hz1.at]
      refine hQ _ _ (g1.setz (by omega) (by omega)) ?_ (((agThr.mn pThr_r).tr (g2.mn pSv_r)).up (by unfold pRef; omega)) (fun _ => rfl)
      rw [up_n (by omega), g2.at (fun x => by unfold pSv at x; omega), up_s]
    · rw [if_neg e2] at hQ
      simp (disch := omega) only [v144_0, v144_1, v144_2, v144_3, u144_5, v144_8, v144_11, v144_12, v144_15, v144_16, v144_19, v144_21, v144_22, v144_23, v144_24, v144_27, v144_30, v144_31, v144_34, v144_35, v144_38, v144_39, v144_42, v144_45, v144_46, v144_47, u144_48, v144_51, v144_52, v144_55, v144_57, v144_58, v144_59, v144_60, v144_61, v144_62, v144_63, v144_66, v144_68, v144_69, k_566, k_567, k_568, k_569, k_570, k_571, k_572, k_573, k_574, k_575, k_576, r_566_0, r_566_2, r_566_4, r_566_6, r_566_7, r_566_8, r_566_9, r_566_10, r_566_11, r_566_13, va_rf_s, n_cl, n_in_t, n_lt_t, n_lt_f, n_eq_t, n_eq_f, n_sub, nI_add, n_mul, ↓reduceIte, if_true, if_false, eq_self, true_or, or_true, and_self, and_true, true_and, Nat.reduceAdd, Nat.reduceMul, Nat.reduceLeDiff, Nat.zero_le, not_true_eq_false, not_false_eq_true, cat2_n, cat2_i, cat2_r, ws_0, ws_i, ws_r, ws_l, ws_d, aftr_n, aftr_s, bI_ok, bI_t, bI_f, up_s, up_n, n_bit, decide_true, decide_false, Bool.not_true, Bool.not_false, Bool.and_true, Bool.true_and, Bool.false_and, Bool.and_false, c106, n_wi, hz.at, decide_eq_true e1]
      exact hQ _ 0 hs.thr up_s (agThr.mn pThr_r) (fun x => ne_s x)
  · rw [if_neg e1] at hQ
    simp (disch := omega) only [v144_0, v144_1, v144_2, v144_3, u144_5, v144_8, v144_11, v144_12, v144_15, v144_16, v144_19, v144_21, v144_22, v144_23, v144_24, v144_27, v144_30, v144_31, v144_34, v144_35, v144_38, v144_39, v144_42, v144_45, v144_46, v144_47, u144_48, v144_51, v144_52, v144_55, v144_57, v144_58, v144_59, v144_60, v144_61, v144_62, v144_63, v144_66, v144_68, v144_69, k_566, k_567, k_568, k_569, k_570, k_571, k_572, k_573, k_574, k_575, k_576, r_566_0, r_566_2, r_566_4, r_566_6, r_566_7, r_566_8, r_566_9, r_566_10, r_566_11, r_566_13, va_rf_s, n_cl, n_in_t, n_lt_t, n_lt_f, n_eq_t, n_eq_f, n_sub, nI_add, n_mul, ↓reduceIte, if_true, if_false, eq_self, true_or, or_true, and_self, and_true, true_and, Nat.reduceAdd, Nat.reduceMul, Nat.reduceLeDiff, Nat.zero_le, not_true_eq_false, not_false_eq_true, cat2_n, cat2_i, cat2_r, ws_0, ws_i, ws_r, ws_l, ws_d, aftr_n, aftr_s, bI_ok, bI_t, bI_f, up_s, up_n, n_bit, decide_true, decide_false, Bool.not_true, Bool.not_false, Bool.and_true, Bool.true_and, Bool.false_and, Bool.and_false, c106, n_wi, decide_eq_false e1]
    exact hQ _ 0 hs.thr up_s (agThr.mn pThr_r) (fun x => ne_s x)
theorem RS.snoc {c : Nat} (h : RS b I (A, n, H, B)) (hB : B.length < 60) (hc : 33 ≤ c ∧ c ≤ 126) : RS b (up2 (up2 I (ad b 569) B.length (nI c)) (ad b 566) 3 (nI (B.length + 1))) (A, n, H, B ++ [c]) := by
  obtain ⟨h1, ⟨h2, h3⟩, h4, h5, h6, h7, h8⟩ := h
  refine ⟨fun j hj => by rw [up_n (by omega), up_n (by omega)]; exact h1 j hj, ⟨by rw [up_n (by omega), up_n (by omega)]; exact h2, h3⟩, fun j hj i hi => ⟨by rw [up_n (by omega), up_n (by omega)]; exact (h4 j hj i hi).1, (h4 j hj i hi).2⟩, ?_, ?_, fun k hk => ?_, fun x hx => ?_⟩
  · rw [up_s]; simp
  · show (B ++ [c]).length ≤ 60
    rw [List.length_append, List.length_singleton]; omega
  · dsimp only at hk ⊢
    rw [List.length_append, List.length_singleton] at hk
    rw [up_n (by omega), getD_snoc]
    by_cases e : k = B.length
    · rw [e, up_s, if_neg (by omega), if_pos rfl]
    · rw [if_pos (by omega), up_n (by omega)]
      exact h7 k (by dsimp only; omega)
  · rcases List.mem_append.mp hx with hx | hx
    · exact h8 x hx
    · rw [List.mem_singleton] at hx; rw [hx]; exact hc
theorem c145 {c : Nat} (hc : c < 4294967296) (hs : RS b I (A, n, H, B)) (hQ : RQ b I (opApp (A, n, H, B) c) fun v I' => Q (.inl (some (.int (nI v)))) (KAt KL b, I', RAt RL b q, L, sz, ex)) : X z 145 0 [some (.ref (ad b 566)), some (.int (nI c))] [] (0, 0) (KAt KL b, I, RAt RL b q, L, sz, ex) Q := by
  have hl : I (ad b 566) 3 = nI B.length := hs.2.2.2.1
  have hb : B.length ≤ 60 := hs.2.2.2.2.1
  unfold opApp at hQ
  dsimp only at hQ
  by_cases e1 : 33 ≤ c ∧ c ≤ 126
  · rw [if_pos e1] at hQ
    by_cases e2 : B.length < 60
    · rw [if_pos e2] at hQ
      simp (disch := omega) only [v145_0, v145_1, v145_2, v145_4, u145_6, v145_9, v145_12, v145_13, v145_16, v145_17, v145_20, v145_22, v145_25, v145_26, v145_29, v145_30, v145_33, v145_34, v145_37, v145_40, v145_41, v145_42, v145_43, v145_46, v145_47, v145_50, v145_51, v145_52, v145_53, v145_53i, v145_54, v145_57, v145_58, v145_59, v145_62, v145_63, v145_66, k_566, k_567, k_568, k_569, k_570, k_571, k_572, k_573, k_574, k_575, k_576, r_566_0, r_566_2, r_566_4, r_566_6, r_566_7, r_566_8, r_566_9, r_566_10, r_566_11, r_566_13, va_rf_s, n_cl, n_in_t, n_lt_t, n_lt_f, n_eq_t, n_eq_f, n_sub, nI_add, n_mul, ↓reduceIte, if_true, if_false, eq_self, true_or, or_true, and_self, and_true, true_and, Nat.reduceAdd, Nat.reduceMul, Nat.reduceLeDiff, Nat.zero_le, not_true_eq_false, not_false_eq_true, cat2_n, cat2_i, cat2_r, ws_0, ws_i, ws_r, ws_l, ws_d, aftr_n, aftr_s, bI_ok, bI_t, bI_f, up_s, up_n, n_bit, decide_true, decide_false, Bool.not_true, Bool.not_false, Bool.and_true, Bool.true_and, Bool.false_and, Bool.and_false, c106, n_wi, hl, decide_eq_true e1]
      exact hQ _ _ (hs.thr.snoc e2 e1) (by rw [up_n (by omega), up_n (by omega), up_s]) (((agThr.mn pThr_r).up (by unfold pRef; omega)).up (by unfold pRef; omega)) (fun _ => rfl)
    · rw [if_neg e2] at hQ
      simp (disch := omega) only [v145_0, v145_1, v145_2, v145_4, u145_6, v145_9, v145_12, v145_13, v145_16, v145_17, v145_20, v145_22, v145_25, v145_26, v145_29, v145_30, v145_33, v145_34, v145_37, v145_40, v145_41, v145_42, v145_43, v145_46, v145_47, v145_50, v145_51, v145_52, v145_53, v145_53i, v145_54, v145_57, v145_58, v145_59, v145_62, v145_63, v145_66, k_566, k_567, k_568, k_569, k_570, k_571, k_572, k_573, k_574, k_575, k_576, r_566_0, r_566_2, r_566_4, r_566_6, r_566_7, r_566_8, r_566_9, r_566_10, r_566_11, r_566_13, va_rf_s, n_cl, n_in_t, n_lt_t, n_lt_f, n_eq_t, n_eq_f, n_sub, nI_add, n_mul, ↓reduceIte, if_true, if_false, eq_self, true_or, or_true, and_self, and_true, true_and, Nat.reduceAdd, Nat.reduceMul, Nat.reduceLeDiff, Nat.zero_le, not_true_eq_false, not_false_eq_true, cat2_n, cat2_i, cat2_r, ws_0, ws_i, ws_r, ws_l, ws_d, aftr_n, aftr_s, bI_ok, bI_t, bI_f, up_s, up_n, n_bit, decide_true, decide_false, Bool.not_true, Bool.not_false, Bool.and_true, Bool.true_and, Bool.false_and, Bool.and_false, c106, n_wi, hl, decide_eq_true e1]
      exact hQ _ 0 hs.thr up_s (agThr.mn pThr_r) (fun x => ne_s x)
  · rw [if_neg e1] at hQ
    simp (disch := omega) only [v145_0, v145_1, v145_2, v145_4, u145_6, v145_9, v145_12, v145_13, v145_16, v145_17, v145_20, v145_22, v145_25, v145_26, v145_29, v145_30, v145_33, v145_34, v145_37, v145_40, v145_41, v145_42, v145_43, v145_46, v145_47, v145_50, v145_51, v145_52, v145_53, v145_53i, v145_54, v145_57, v145_58, v145_59, v145_62, v145_63, v145_66, k_566, k_567, k_568, k_569, k_570, k_571, k_572, k_573, k_574, k_575, k_576, r_566_0, r_566_2, r_566_4, r_566_6, r_566_7, r_566_8, r_566_9, r_566_10, r_566_11, r_566_13, va_rf_s, n_cl, n_in_t, n_lt_t, n_lt_f, n_eq_t, n_eq_f, n_sub, nI_add, n_mul, ↓reduceIte, if_true, if_false, eq_self, true_or, or_true, and_self, and_true, true_and, Nat.reduceAdd, Nat.reduceMul, Nat.reduceLeDiff, Nat.zero_le, not_true_eq_false, not_false_eq_true, cat2_n, cat2_i, cat2_r, ws_0, ws_i, ws_r, ws_l, ws_d, aftr_n, aftr_s, bI_ok, bI_t, bI_f, up_s, up_n, n_bit, decide_true, decide_false, Bool.not_true, Bool.not_false, Bool.and_true, Bool.true_and, Bool.false_and, Bool.and_false, c106, n_wi, decide_eq_false e1]
    exact hQ _ 0 hs.thr up_s (agThr.mn pThr_r) (fun x => ne_s x)
theorem c146 (hs : RS b I (A, n, H, B)) (hQ : RQ b I (opClr (A, n, H, B)) fun v I' => Q (.inl (some (.int (nI v)))) (KAt KL b, I', RAt RL b q, L, sz, ex)) : X z 146 0 [some (.ref (ad b 566)), none] [] (0, 0) (KAt KL b, I, RAt RL b q, L, sz, ex) Q := by
  have hl : I (ad b 566) 3 = nI B.length := hs.2.2.2.1
  simp (disch := omega) only [v146_0, v146_1, v146_2, v146_5, v146_6, v146_9, v146_10, v146_11, v146_12, v146_15, v146_16, k_566, k_567, k_568, k_569, k_570, k_571, k_572, k_573, k_574, k_575, k_576, r_566_0, r_566_2, r_566_4, r_566_6, r_566_7, r_566_8, r_566_9, r_566_10, r_566_11, r_566_13, va_rf_s, n_cl, n_in_t, n_lt_t, n_lt_f, n_eq_t, n_eq_f, n_sub, nI_add, n_mul, ↓reduceIte, if_true, if_false, eq_self, true_or, or_true, and_self, and_true, true_and, Nat.reduceAdd, Nat.reduceMul, Nat.reduceLeDiff, Nat.zero_le, not_true_eq_false, not_false_eq_true, cat2_n, cat2_i, cat2_r, ws_0, ws_i, ws_r, ws_l, ws_d, aftr_n, aftr_s, bI_ok, bI_t, bI_f, up_s, up_n, n_bit, decide_true, decide_false, Bool.not_true, Bool.not_false, Bool.and_true, Bool.true_and, Bool.false_and, Bool.and_false, hl]
  exact hQ _ _ hs.thr.clr (by rw [up_n (by omega), up_s]; rfl) ((agThr.mn pThr_r).up (by unfold pRef; omega)) (fun _ => rfl)
def pUz (o _j : Nat) : Prop := o = 567
def pUn (o j : Nat) : Prop := o = 567 ∨ (o = 566 ∧ j = 1)
theorem l153 {n : Nat} (hn : n < 6) : ∀ d k I, k + d = 473 → I (ad b 566) 1 = nI n → (∀ I', (∀ j, k ≤ j → j < 473 → I' (ad b 567) j = I (ad b 568) (473 * n + j)) → (∀ j, j < k → I' (ad b 567) j = I (ad b 567) j) → Ag pUz b I I' → Q (.inl (some (.int (nI n)))) (KAt KL b, I', RAt RL b q, L, sz, ex)) → X z 153 37 [some (.ref (ad b 566)), some (.int (nI k))] [] (0, 0) (KAt KL b, I, RAt RL b q, L, sz, ex) Q := by
  intro d
  induction d with
  | zero =>
    intro k I hk m hQ
    rw [v153_37]
    simp (disch := omega) only [v153_38, v153_41, v153_44, v153_45, v153_48, v153_49, v153_50, v153_53, v153_56, v153_57, v153_60, v153_61, v153_62, v153_63, v153_64, v153_65, v153_68, v153_71, v153_72, v153_75, k_566, k_567, k_568, k_569, k_570, k_571, k_572, k_573, k_574, k_575, k_576, r_566_0, r_566_2, r_566_4, r_566_6, r_566_7, r_566_8, r_566_9, r_566_10, r_566_11, r_566_13, va_rf_s, n_cl, n_in_t, n_lt_t, n_lt_f, n_eq_t, n_eq_f, n_sub, nI_add, n_mul, ↓reduceIte, if_true, if_false, eq_self, true_or, or_true, and_self, and_true, true_and, Nat.reduceAdd, Nat.reduceMul, Nat.reduceLeDiff, Nat.zero_le, not_true_eq_false, not_false_eq_true, cat2_n, cat2_i, cat2_r, ws_0, ws_i, ws_r, ws_l, ws_d, aftr_n, aftr_s, bI_ok, bI_t, bI_f, up_s, up_n, n_bit, decide_true, decide_false, Bool.not_true, Bool.not_false, Bool.and_true, Bool.true_and, Bool.false_and, Bool.and_false, m]
    exact hQ I (fun j h1 h2 => by omega) (fun j h => rfl) Ag.rf
  | succ d ih =>
    intro k I hk m hQ
    rw [v153_37]
    simp (disch := omega) only [v153_38, v153_41, v153_44, v153_45, v153_48, v153_49, v153_50, v153_53, v153_56, v153_57, v153_60, v153_61, v153_62, v153_63, v153_64, v153_65, v153_68, v153_71, v153_72, v153_75, k_566, k_567, k_568, k_569, k_570, k_571, k_572, k_573, k_574, k_575, k_576, r_566_0, r_566_2, r_566_4, r_566_6, r_566_7, r_566_8, r_566_9, r_566_10, r_566_11, r_566_13, va_rf_s, n_cl, n_in_t, n_lt_t, n_lt_f, n_eq_t, n_eq_f, n_sub, nI_add, n_mul, ↓reduceIte, if_true, if_false, eq_self, true_or, or_true, and_self, and_true, true_and, Nat.reduceAdd, Nat.reduceMul, Nat.reduceLeDiff, Nat.zero_le, not_true_eq_false, not_false_eq_true, cat2_n, cat2_i, cat2_r, ws_0, ws_i, ws_r, ws_l, ws_d, aftr_n, aftr_s, bI_ok, bI_t, bI_f, up_s, up_n, n_bit, decide_true, decide_false, Bool.not_true, Bool.not_false, Bool.and_true, Bool.true_and, Bool.false_and, Bool.and_false, m]
    have a1 : Ag pUz b I (up2 I (ad b 567) k (I (ad b 568) (473 * n + k))) := Ag.rf.up rfl
    refine ih (k + 1) _ (by omega) (by rw [up_n (by omega)]; exact m) (fun I2 q1 q2 q3 => hQ I2 (fun j h1 h2 => ?_) (fun j h => ?_) (a1.tr q3))
    · by_cases e : j = k
      · rw [q2 _ (by omega), e, up_s]
      · rw [q1 j (by omega) h2, up_n (by omega)]
    · rw [q2 j (by omega), up_n (by omega)]
theorem c153 (hs : RS b I (A, n, H, B)) (hQ : RQ b I (opUndo (A, n, H, B)) fun v I' => Q (.inl (some (.int (nI v)))) (KAt KL b, I', RAt RL b q, L, sz, ex)) : X z 153 0 [some (.ref (ad b 566)), none] [] (0, 0) (KAt KL b, I, RAt RL b q, L, sz, ex) Q := by
  obtain ⟨h1, ⟨h2, h3⟩, h4, h5, h6, h7, h8⟩ := id hs
  dsimp only at h2 h3 h4
  unfold opUndo at hQ
  dsimp only at hQ
  by_cases e1 : 0 < n
  · rw [if_pos e1] at hQ
    simp (disch := omega) only [v153_0, v153_1, v153_2, v153_5, v153_8, v153_9, v153_12, v153_13, v153_16, v153_17, v153_20, v153_23, v153_24, v153_25, v153_26, v153_26i, v153_27, v153_30, v153_31, v153_32, v153_35, v153_36, k_566, k_567, k_568, k_569, k_570, k_571, k_572, k_573, k_574, k_575, k_576, r_566_0, r_566_2, r_566_4, r_566_6, r_566_7, r_566_8, r_566_9, r_566_10, r_566_11, r_566_13, va_rf_s, n_cl, n_in_t, n_lt_t, n_lt_f, n_eq_t, n_eq_f, n_sub, nI_add, n_mul, ↓reduceIte, if_true, if_false, eq_self, true_or, or_true, and_self, and_true, true_and, Nat.reduceAdd, Nat.reduceMul, Nat.reduceLeDiff, Nat.zero_le, not_true_eq_false, not_false_eq_true, cat2_n, cat2_i, cat2_r, ws_0, ws_i, ws_r, ws_l, ws_d, aftr_n, aftr_s, bI_ok, bI_t, bI_f, up_s, up_n, n_bit, decide_true, decide_false, Bool.not_true, Bool.not_false, Bool.and_true, Bool.true_and, Bool.false_and, Bool.and_false, h2]
    refine l153 (n := n - 1) (by omega) 473 0 _ (by omega) up_s (fun I1 q1 q2 q3 => ?_)
    have a1 : Ag pUn b (up2 I (ad b 566) 5 (nI 0)) I1 := (Ag.rf.up (Or.inr ⟨rfl, rfl⟩)).tr (q3.mn (fun _ _ h => Or.inl h))
    have kz : ∀ {o j}, ¬ (o = 567 ∨ (o = 566 ∧ (j = 1 ∨ j = 5))) → I1 (ad b o) j = I (ad b o) j := fun h => (a1.at (fun x => by unfold pUn at x; omega)).trans (up_n (by omega))
    refine hQ I1 (n - 1) ⟨fun k hk => ?_, ⟨(q3.at (fun x => by unfold pUz at x; omega)).trans up_s, by show n - 1 ≤ 6; omega⟩, fun j hj k hk => ⟨(kz (by omega)).trans (h4 j (by dsimp only at hj; omega) k hk).1, (h4 j (by dsimp only at hj; omega) k hk).2⟩, (kz (by omega)).trans h5, h6, fun k hk => (kz (by omega)).trans (h7 k hk), h8⟩ ((a1.at (fun x => by unfold pUn at x; omega)).trans up_s) ((agThr.mn pThr_r).tr (a1.mn (fun o j x => by unfold pUn at x; unfold pRef; omega))) (fun _ => rfl)
    dsimp only
    rw [q1 k (Nat.zero_le _) hk, up_n (by omega), up_n (by omega)]
    exact h4 (n - 1) (by omega) k hk
  · rw [if_neg e1] at hQ
    simp (disch := omega) only [v153_0, v153_1, v153_2, v153_5, v153_8, v153_9, v153_12, v153_13, v153_16, v153_17, v153_20, v153_23, v153_24, v153_25, v153_26, v153_26i, v153_27, v153_30, v153_31, v153_32, v153_35, v153_36, v153_37, v153_38, v153_41, v153_44, v153_45, v153_48, v153_49, v153_50, v153_53, v153_56, v153_57, v153_60, v153_61, v153_62, v153_63, v153_64, v153_65, v153_68, v153_71, v153_72, v153_75, k_566, k_567, k_568, k_569, k_570, k_571, k_572, k_573, k_574, k_575, k_576, r_566_0, r_566_2, r_566_4, r_566_6, r_566_7, r_566_8, r_566_9, r_566_10, r_566_11, r_566_13, va_rf_s, n_cl, n_in_t, n_lt_t, n_lt_f, n_eq_t, n_eq_f, n_sub, nI_add, n_mul, ↓reduceIte, if_true, if_false, eq_self, true_or, or_true, and_self, and_true, true_and, Nat.reduceAdd, Nat.reduceMul, Nat.reduceLeDiff, Nat.zero_le, not_true_eq_false, not_false_eq_true, cat2_n, cat2_i, cat2_r, ws_0, ws_i, ws_r, ws_l, ws_d, aftr_n, aftr_s, bI_ok, bI_t, bI_f, up_s, up_n, n_bit, decide_true, decide_false, Bool.not_true, Bool.not_false, Bool.and_true, Bool.true_and, Bool.false_and, Bool.and_false, h2]
    exact hQ _ 0 hs.thr up_s (agThr.mn pThr_r) (fun x => ne_s x)
end OS
