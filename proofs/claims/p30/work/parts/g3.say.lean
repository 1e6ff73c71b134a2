/-! THE LAW: a sign is said; a text begun, ended -/
section LB
variable {z : P0} {KL : Nat → Nat × Nat} {RL : Nat → Nat → Option Nat} {q : Nat → Nat} {b : Nat} {I : Nat → Nat → Int32} {L : Nat → Nat → Int64} {sz : Nat} {ex : Bool} {Q : Res → Mem → Prop} {A : Row}
variable {t W H : Nat} {T : List Nat}
theorem pS_s {s : Nat} (hs : s < 577) (ht : 577 ≤ t) : ∀ j, ¬ pS t s j := fun j h => by unfold pS at h; omega
theorem SS.cg {c h : Nat} {s : LSt} {P : Nat → Nat → Prop} {I' : Nat → Nat → Int32} (hs : SS b I t W H c h s) (hg : Ag P b I I') (hP : ∀ j, ¬ P t j) : SS b I' t W H c h s := by
  obtain ⟨a1, a2, a3, a4, a5, a6, a7, a8⟩ := hs
  exact ⟨(hg.at (hP _)).trans a1, (hg.at (hP _)).trans a2, a3.ag hg (fun j _ _ => hP j), (hg.at (hP _)).trans a4, (hg.at (hP _)).trans a5, (hg.at (hP _)).trans a6, (hg.at (hP _)).trans a7, (hg.at (hP _)).trans a8⟩
theorem LYs.none {l v : Nat} (h : LYs b I t l (some v)) : LYs b (up2 (up2 (up2 I (ad b t) 4 (nI (l + 1))) (ad b t) 2 (nI 0)) (ad b t) 3 (nI 1)) t l none := ⟨by rw [up_n (by omega), up_n (by omega), up_s], by rw [up_s], by rw [up_n (by omega), up_s]⟩
set_option maxHeartbeats 4000000 in
theorem c202 {c : Nat} (hk : KAt KL b (ad b t) = (20, 10)) (hW : 1 ≤ W ∧ W ≤ 40) (hH : 1 ≤ H ∧ H ≤ 20) (h : OS b I t W H T) (hT : T.length < 1700) (hc : c < 1000) (hQ : ∀ I', OS b I' t W H (T ++ [c]) → Ag (pS t) b I I' → Q (.inl none) (KAt KL b, I', RAt RL b q, L, sz, ex)) : X z 202 0 [some (.ref (ad b t)), some (.int (nI c))] [] (0, 0) (KAt KL b, I, RAt RL b q, L, sz, ex) Q := by
  have bd := runT_b (T := T) hW.1 hH.1
  have bd2 := runT_b (T := T ++ [c]) hW.1 hH.1
  unfold OS at h
  have fin : ∀ I' s, SS b I' t W H (T.length + 1) (31 * hshT T + c) s → s = stp W H (runT W H T) c → Ag (pS t) b I I' → Q (.inl none) (KAt KL b, I', RAt RL b q, L, sz, ex) := by
    rintro I' s h1 rfl h2
    refine hQ I' ?_ h2
    unfold OS
    rw [List.length_append, List.length_singleton, hshT_snoc, runT_snoc]
    exact h1
  rw [runT_snoc] at bd2
  generalize runT W H T = s at h bd bd2 fin
  generalize hshT T = hh at h fin
  obtain ⟨p, l, u, pt, pg⟩ := s
  obtain ⟨a0, a1, a2, a5, a6, a7, a8, a9⟩ := h
  obtain ⟨b1, b2, b3, b4⟩ := bd
  dsimp only at a1 a2 a5 a6 b1 b2 b3 b4
  have pb := plc_le (W := W) (l := l) (p := p) (u := u)
  have g0 : Ag (pS t) b I (up2 (up2 I (ad b t) 0 (nI (T.length + 1))) (ad b t) 9 (nI (31 * hh + c))) := Ag.up (P := pS t) (Ag.up (P := pS t) Ag.rf rfl) rfl
  by_cases e0 : c = 95 ∨ c = 47 ∨ c = 124
  · have key : (∀ I1, LYs b I1 t (plc W l u p).1 (some (plc W l u p).2) → I1 (ad b t) 1 = nI 0 → Ag (pP1 t) b (up2 (up2 I (ad b t) 0 (nI (T.length + 1))) (ad b t) 9 (nI (31 * hh + c))) I1 → X z 202 50 [some (.ref (ad b t)), some (.int (nI c))] [] (0, 0) (KAt KL b, I1, RAt RL b q, L, sz, ex) Q) → X z 202 0 [some (.ref (ad b t)), some (.int (nI c))] [] (0, 0) (KAt KL b, I, RAt RL b q, L, sz, ex) Q := by
      intro hk1
      have a2' : LYs b (up2 (up2 I (ad b t) 0 (nI (T.length + 1))) (ad b t) 9 (nI (31 * hh + c))) t l u := a2.ag (P := fun o j => o = t ∧ (j = 0 ∨ j = 9)) ((Ag.rf.up ⟨rfl, Or.inl rfl⟩).up ⟨rfl, Or.inr rfl⟩) (fun j _ _ x => by omega)
      have call : X z 200 0 [some (.ref (ad b t))] [] (0, 0) (KAt KL b, up2 (up2 I (ad b t) 0 (nI (T.length + 1))) (ad b t) 9 (nI (31 * hh + c)), RAt RL b q, L, sz, ex) (aftr (X z) mT 202 47 [some (.ref (ad b t)), some (.int (nI c))] [] (0, 0) Q) := by
        refine l200 hk hW p p l u _ (Nat.le_refl _) (by omega) b4 (by rw [up_n (by omega), up_n (by omega)]; exact a7) (by rw [up_n (by omega), up_n (by omega)]; exact a1) a2' (fun I1 q1 q2 q3 => ?_)
        simp only [aftr_n]
        exact hk1 I1 q1 q2 q3
      rcases e0 with rfl | rfl | rfl
      · simp (disch := omega) only [v202_0, v202_1, v202_2, v202_3, v202_4, v202_5, v202_6, v202_7, v202_8, v202_10, v202_12, v202_13, v202_15, v202_16, v202_17, v202_18, v202_19, v202_20, v202_21, v202_23, v202_26, v202_27, v202_29, v202_32, v202_33, v202_35, v202_38, v202_39, v202_40, v202_41, v202_42, v202_43, v202_44, v202_45, v202_46, u202_47, Nat.add_zero, n_cl, n_in_t, n_lt_t, n_lt_f, n_eq_t, n_eq_f, n_sub, nI_add, n_mul, n_01, ↓reduceIte, if_true, if_false, eq_self, true_or, or_true, and_self, and_true, true_and, Nat.reduceAdd, Nat.reduceMul, Nat.reduceLeDiff, Nat.zero_le, not_true_eq_false, not_false_eq_true, cat2_n, cat2_i, cat2_r, ws_0, ws_i, ws_r, ws_l, ws_d, aftr_n, aftr_s, bI_ok, bI_t, bI_f, up_s, up_n, n_bit, decide_true, decide_false, Bool.not_true, Bool.not_false, Bool.and_true, Bool.true_and, Bool.false_and, Bool.and_false, n_nlt0, n_neg_t, n_neg_f, k_0, k_566, k_567, k_568, k_569, k_570, k_571, k_572, k_573, k_574, k_575, k_576, hk, a0, a9]
        exact call
      · simp (disch := omega) only [v202_0, v202_1, v202_2, v202_3, v202_4, v202_5, v202_6, v202_7, v202_8, v202_10, v202_12, v202_13, v202_15, v202_16, v202_17, v202_18, v202_19, v202_20, v202_21, v202_23, v202_26, v202_27, v202_29, v202_32, v202_33, v202_35, v202_38, v202_39, v202_40, v202_41, v202_42, v202_43, v202_44, v202_45, v202_46, u202_47, Nat.add_zero, n_cl, n_in_t, n_lt_t, n_lt_f, n_eq_t, n_eq_f, n_sub, nI_add, n_mul, n_01, ↓reduceIte, if_true, if_false, eq_self, true_or, or_true, and_self, and_true, true_and, Nat.reduceAdd, Nat.reduceMul, Nat.reduceLeDiff, Nat.zero_le, not_true_eq_false, not_false_eq_true, cat2_n, cat2_i, cat2_r, ws_0, ws_i, ws_r, ws_l, ws_d, aftr_n, aftr_s, bI_ok, bI_t, bI_f, up_s, up_n, n_bit, decide_true, decide_false, Bool.not_true, Bool.not_false, Bool.and_true, Bool.true_and, Bool.false_and, Bool.and_false, n_nlt0, n_neg_t, n_neg_f, k_0, k_566, k_567, k_568, k_569, k_570, k_571, k_572, k_573, k_574, k_575, k_576, hk, a0, a9]
        exact call
      · simp (disch := omega) only [v202_0, v202_1, v202_2, v202_3, v202_4, v202_5, v202_6, v202_7, v202_8, v202_10, v202_12, v202_13, v202_15, v202_16, v202_17, v202_18, v202_19, v202_20, v202_21, v202_23, v202_26, v202_27, v202_29, v202_32, v202_33, v202_35, v202_38, v202_39, v202_40, v202_41, v202_42, v202_43, v202_44, v202_45, v202_46, u202_47, Nat.add_zero, n_cl, n_in_t, n_lt_t, n_lt_f, n_eq_t, n_eq_f, n_sub, nI_add, n_mul, n_01, ↓reduceIte, if_true, if_false, eq_self, true_or, or_true, and_self, and_true, true_and, Nat.reduceAdd, Nat.reduceMul, Nat.reduceLeDiff, Nat.zero_le, not_true_eq_false, not_false_eq_true, cat2_n, cat2_i, cat2_r, ws_0, ws_i, ws_r, ws_l, ws_d, aftr_n, aftr_s, bI_ok, bI_t, bI_f, up_s, up_n, n_bit, decide_true, decide_false, Bool.not_true, Bool.not_false, Bool.and_true, Bool.true_and, Bool.false_and, Bool.and_false, n_nlt0, n_neg_t, n_neg_f, k_0, k_566, k_567, k_568, k_569, k_570, k_571, k_572, k_573, k_574, k_575, k_576, hk, a0, a9]
        exact call
    refine key (fun I1 q1 q2 q3 => ?_)
    have kp : ∀ {j}, j = 0 ∨ (5 ≤ j) → I1 (ad b t) j = up2 (up2 I (ad b t) 0 (nI (T.length + 1))) (ad b t) 9 (nI (31 * hh + c)) (ad b t) j := fun hj => q3.at (fun x => by unfold pP1 at x; omega)
    have m0 : I1 (ad b t) 0 = nI (T.length + 1) := (kp (Or.inl rfl)).trans (by rw [up_n (by omega), up_s])
    have m5 : I1 (ad b t) 5 = nI pt := (kp (by omega)).trans (by rw [up_n (by omega), up_n (by omega)]; exact a5)
    have m6 : I1 (ad b t) 6 = nI pg := (kp (by omega)).trans (by rw [up_n (by omega), up_n (by omega)]; exact a6)
    have m7 : I1 (ad b t) 7 = nI W := (kp (by omega)).trans (by rw [up_n (by omega), up_n (by omega)]; exact a7)
    have m8 : I1 (ad b t) 8 = nI H := (kp (by omega)).trans (by rw [up_n (by omega), up_n (by omega)]; exact a8)
    have m9 : I1 (ad b t) 9 = nI (31 * hh + c) := (kp (by omega)).trans up_s
    have m4 : I1 (ad b t) 4 = nI (plc W l u p).1 := q1.at4
    have g1 : Ag (pS t) b I I1 := g0.tr (q3.mn pP_s)
    rcases e0 with rfl | rfl | rfl
    · simp (disch := omega) only [v202_50, v202_51, v202_53, v202_56, u202_57, v202_60, v202_61, v202_63, v202_66, v202_67, v202_68, v202_69, v202_70, v202_71, v202_72, v202_73, v202_74, v202_75, v202_76, v202_77, v202_78, v202_79, v202_80, v202_81, Nat.add_zero, n_cl, n_in_t, n_lt_t, n_lt_f, n_eq_t, n_eq_f, n_sub, nI_add, n_mul, n_01, ↓reduceIte, if_true, if_false, eq_self, true_or, or_true, and_self, and_true, true_and, Nat.reduceAdd, Nat.reduceMul, Nat.reduceLeDiff, Nat.zero_le, not_true_eq_false, not_false_eq_true, cat2_n, cat2_i, cat2_r, ws_0, ws_i, ws_r, ws_l, ws_d, aftr_n, aftr_s, bI_ok, bI_t, bI_f, up_s, up_n, n_bit, decide_true, decide_false, Bool.not_true, Bool.not_false, Bool.and_true, Bool.true_and, Bool.false_and, Bool.and_false, n_nlt0, n_neg_t, n_neg_f, k_0, k_566, k_567, k_568, k_569, k_570, k_571, k_572, k_573, k_574, k_575, k_576, hk]
      refine fin I1 (0, (plc W l u p).1, some (plc W l u p).2, pt, pg) ⟨m0, q2, q1, m5, m6, m7, m8, m9⟩ rfl g1
    · have r := q1.none
      simp (disch := omega) only [v202_50, v202_51, v202_53, v202_56, u202_57, v202_60, v202_61, v202_63, v202_66, v202_67, v202_68, v202_69, v202_70, v202_71, v202_72, v202_73, v202_74, v202_75, v202_76, v202_77, v202_78, v202_79, v202_80, v202_81, Nat.add_zero, n_cl, n_in_t, n_lt_t, n_lt_f, n_eq_t, n_eq_f, n_sub, nI_add, n_mul, n_01, ↓reduceIte, if_true, if_false, eq_self, true_or, or_true, and_self, and_true, true_and, Nat.reduceAdd, Nat.reduceMul, Nat.reduceLeDiff, Nat.zero_le, not_true_eq_false, not_false_eq_true, cat2_n, cat2_i, cat2_r, ws_0, ws_i, ws_r, ws_l, ws_d, aftr_n, aftr_s, bI_ok, bI_t, bI_f, up_s, up_n, n_bit, decide_true, decide_false, Bool.not_true, Bool.not_false, Bool.and_true, Bool.true_and, Bool.false_and, Bool.and_false, n_nlt0, n_neg_t, n_neg_f, k_0, k_566, k_567, k_568, k_569, k_570, k_571, k_572, k_573, k_574, k_575, k_576, hk, m4]
      refine fin _ (0, (plc W l u p).1, none, pt, pg) ⟨?_, ?_, r, ?_, ?_, ?_, ?_, ?_⟩ rfl (((g1.up rfl).up rfl).up rfl)
      · rw [up_n (by omega), up_n (by omega), up_n (by omega)]; exact m0
      · rw [up_n (by omega), up_n (by omega), up_n (by omega)]; exact q2
      · rw [up_n (by omega), up_n (by omega), up_n (by omega)]; exact m5
      · rw [up_n (by omega), up_n (by omega), up_n (by omega)]; exact m6
      · rw [up_n (by omega), up_n (by omega), up_n (by omega)]; exact m7
      · rw [up_n (by omega), up_n (by omega), up_n (by omega)]; exact m8
      · rw [up_n (by omega), up_n (by omega), up_n (by omega)]; exact m9
    · simp (disch := omega) only [v202_50, v202_51, v202_53, v202_56, u202_57, Nat.add_zero, n_cl, n_in_t, n_lt_t, n_lt_f, n_eq_t, n_eq_f, n_sub, nI_add, n_mul, n_01, ↓reduceIte, if_true, if_false, eq_self, true_or, or_true, and_self, and_true, true_and, Nat.reduceAdd, Nat.reduceMul, Nat.reduceLeDiff, Nat.zero_le, not_true_eq_false, not_false_eq_true, cat2_n, cat2_i, cat2_r, ws_0, ws_i, ws_r, ws_l, ws_d, aftr_n, aftr_s, bI_ok, bI_t, bI_f, up_s, up_n, n_bit, decide_true, decide_false, Bool.not_true, Bool.not_false, Bool.and_true, Bool.true_and, Bool.false_and, Bool.and_false, n_nlt0, n_neg_t, n_neg_f, k_0, k_566, k_567, k_568, k_569, k_570, k_571, k_572, k_573, k_574, k_575, k_576, hk]
      refine c201 hk hH m4 m5 m6 m8 (by omega) (by omega) (by omega) (fun I2 r5 r6 r7 => ?_)
      have q1' : LYs b I2 t (plc W l u p).1 (some (plc W l u p).2) := q1.ag r7 (fun j _ _ x => by omega)
      have r := q1'.none
      have m4' : I2 (ad b t) 4 = nI (plc W l u p).1 := q1'.at4
      simp (disch := omega) only [v202_60, v202_61, v202_63, v202_66, v202_67, v202_68, v202_69, v202_70, v202_71, v202_72, v202_73, v202_74, v202_75, v202_76, v202_77, v202_78, v202_79, v202_80, v202_81, Nat.add_zero, n_cl, n_in_t, n_lt_t, n_lt_f, n_eq_t, n_eq_f, n_sub, nI_add, n_mul, n_01, ↓reduceIte, if_true, if_false, eq_self, true_or, or_true, and_self, and_true, true_and, Nat.reduceAdd, Nat.reduceMul, Nat.reduceLeDiff, Nat.zero_le, not_true_eq_false, not_false_eq_true, cat2_n, cat2_i, cat2_r, ws_0, ws_i, ws_r, ws_l, ws_d, aftr_n, aftr_s, bI_ok, bI_t, bI_f, up_s, up_n, n_bit, decide_true, decide_false, Bool.not_true, Bool.not_false, Bool.and_true, Bool.true_and, Bool.false_and, Bool.and_false, n_nlt0, n_neg_t, n_neg_f, k_0, k_566, k_567, k_568, k_569, k_570, k_571, k_572, k_573, k_574, k_575, k_576, hk, m4']
      have k2 : ∀ {j}, ¬ (j = 5 ∨ j = 6) → I2 (ad b t) j = I1 (ad b t) j := fun hj => r7.at (fun x => hj x.2)
      refine fin _ (0, (plc W l u p).1, none, (plc W l u p).1, pg + pgs H ((plc W l u p).1 - pt)) ⟨?_, ?_, r, ?_, ?_, ?_, ?_, ?_⟩ rfl ((((g1.tr (r7.mn (fun o j x => x.1))).up rfl).up rfl).up rfl)
      · rw [up_n (by omega), up_n (by omega), up_n (by omega)]; exact (k2 (by omega)).trans m0
      · rw [up_n (by omega), up_n (by omega), up_n (by omega)]; exact (k2 (by omega)).trans q2
      · rw [up_n (by omega), up_n (by omega), up_n (by omega)]; exact r5
      · rw [up_n (by omega), up_n (by omega), up_n (by omega)]; exact r6
      · rw [up_n (by omega), up_n (by omega), up_n (by omega)]; exact (k2 (by omega)).trans m7
      · rw [up_n (by omega), up_n (by omega), up_n (by omega)]; exact (k2 (by omega)).trans m8
      · rw [up_n (by omega), up_n (by omega), up_n (by omega)]; exact (k2 (by omega)).trans m9
  · simp (disch := omega) only [v202_0, v202_1, v202_2, v202_3, v202_4, v202_5, v202_6, v202_7, v202_8, v202_10, v202_12, v202_13, v202_15, v202_16, v202_17, v202_18, v202_19, v202_20, v202_21, v202_23, v202_26, v202_27, v202_29, v202_32, v202_33, v202_35, v202_38, v202_39, v202_40, v202_41, v202_42, v202_43, v202_44, v202_45, Nat.add_zero, n_cl, n_in_t, n_lt_t, n_lt_f, n_eq_t, n_eq_f, n_sub, nI_add, n_mul, n_01, ↓reduceIte, if_true, if_false, eq_self, true_or, or_true, and_self, and_true, true_and, Nat.reduceAdd, Nat.reduceMul, Nat.reduceLeDiff, Nat.zero_le, not_true_eq_false, not_false_eq_true, cat2_n, cat2_i, cat2_r, ws_0, ws_i, ws_r, ws_l, ws_d, aftr_n, aftr_s, bI_ok, bI_t, bI_f, up_s, up_n, n_bit, decide_true, decide_false, Bool.not_true, Bool.not_false, Bool.and_true, Bool.true_and, Bool.false_and, Bool.and_false, n_nlt0, n_neg_t, n_neg_f, k_0, k_566, k_567, k_568, k_569, k_570, k_571, k_572, k_573, k_574, k_575, k_576, hk, a0, a9, a1]
    refine fin _ (p + 1, l, u, pt, pg) ⟨?_, ?_, ?_, ?_, ?_, ?_, ?_, ?_⟩ ?_ (g0.up rfl)
    · rw [up_n (by omega), up_n (by omega), up_s]
    · exact up_s
    · exact a2.ag (P := fun o j => o = t ∧ (j = 0 ∨ j = 9 ∨ j = 1)) (((Ag.rf.up ⟨rfl, by omega⟩).up ⟨rfl, by omega⟩).up ⟨rfl, by omega⟩) (fun j _ _ x => by omega)
    · rw [up_n (by omega), up_n (by omega), up_n (by omega)]; exact a5
    · rw [up_n (by omega), up_n (by omega), up_n (by omega)]; exact a6
    · rw [up_n (by omega), up_n (by omega), up_n (by omega)]; exact a7
    · rw [up_n (by omega), up_n (by omega), up_n (by omega)]; exact a8
    · rw [up_n (by omega), up_s]
    · unfold stp
      rw [if_neg (by omega), if_neg (by omega), if_neg (by omega)]
theorem c203 (hk : KAt KL b (ad b t) = (20, 10)) (hW : 1 ≤ W ∧ W ≤ 40) (hH : 1 ≤ H ∧ H ≤ 20) (h : OS b I t W H T) (hT : T.length ≤ 1700) (hQ : ∀ I', OE b I' t W H T → Ag (pS t) b I I' → Q (.inl none) (KAt KL b, I', RAt RL b q, L, sz, ex)) : X z 203 0 [some (.ref (ad b t))] [] (0, 0) (KAt KL b, I, RAt RL b q, L, sz, ex) Q := by
  have bd := runT_b (T := T) hW.1 hH.1
  unfold OS at h
  unfold OE at hQ
  rw [layT_run] at hQ
  generalize runT W H T = s at h bd hQ
  generalize hshT T = hh at h hQ
  obtain ⟨p, l, u, pt, pg⟩ := s
  obtain ⟨a0, a1, a2, a5, a6, a7, a8, a9⟩ := h
  obtain ⟨b1, b2, b3, b4⟩ := bd
  dsimp only at a1 a2 a5 a6 b1 b2 b3 b4
  have pb := plc_le (W := W) (l := l) (p := p) (u := u)
  simp (disch := omega) only [v203_0, u203_1, v203_4, u203_5, v203_8, Nat.add_zero, n_cl, n_in_t, n_lt_t, n_lt_f, n_eq_t, n_eq_f, n_sub, nI_add, n_mul, n_01, ↓reduceIte, if_true, if_false, eq_self, true_or, or_true, and_self, and_true, true_and, Nat.reduceAdd, Nat.reduceMul, Nat.reduceLeDiff, Nat.zero_le, not_true_eq_false, not_false_eq_true, cat2_n, cat2_i, cat2_r, ws_0, ws_i, ws_r, ws_l, ws_d, aftr_n, aftr_s, bI_ok, bI_t, bI_f, up_s, up_n, n_bit, decide_true, decide_false, Bool.not_true, Bool.not_false, Bool.and_true, Bool.true_and, Bool.false_and, Bool.and_false, n_nlt0, n_neg_t, n_neg_f, k_0, k_566, k_567, k_568, k_569, k_570, k_571, k_572, k_573, k_574, k_575, k_576]
  refine l200 hk hW p p l u _ (Nat.le_refl _) (by omega) b4 a7 a1 a2 (fun I1 q1 q2 q3 => ?_)
  have kp : ∀ {j}, j = 0 ∨ (5 ≤ j) → I1 (ad b t) j = I (ad b t) j := fun hj => q3.at (fun x => by unfold pP1 at x; omega)
  simp (disch := omega) only [v203_0, u203_1, v203_4, u203_5, v203_8, Nat.add_zero, n_cl, n_in_t, n_lt_t, n_lt_f, n_eq_t, n_eq_f, n_sub, nI_add, n_mul, n_01, ↓reduceIte, if_true, if_false, eq_self, true_or, or_true, and_self, and_true, true_and, Nat.reduceAdd, Nat.reduceMul, Nat.reduceLeDiff, Nat.zero_le, not_true_eq_false, not_false_eq_true, cat2_n, cat2_i, cat2_r, ws_0, ws_i, ws_r, ws_l, ws_d, aftr_n, aftr_s, bI_ok, bI_t, bI_f, up_s, up_n, n_bit, decide_true, decide_false, Bool.not_true, Bool.not_false, Bool.and_true, Bool.true_and, Bool.false_and, Bool.and_false, n_nlt0, n_neg_t, n_neg_f, k_0, k_566, k_567, k_568, k_569, k_570, k_571, k_572, k_573, k_574, k_575, k_576]
  refine c201 hk hH q1.at4 ((kp (by omega)).trans a5) ((kp (by omega)).trans a6) ((kp (by omega)).trans a8) (by omega) (by omega) (by omega) (fun I2 r5 r6 r7 => ?_)
  simp (disch := omega) only [v203_0, u203_1, v203_4, u203_5, v203_8, Nat.add_zero, n_cl, n_in_t, n_lt_t, n_lt_f, n_eq_t, n_eq_f, n_sub, nI_add, n_mul, n_01, ↓reduceIte, if_true, if_false, eq_self, true_or, or_true, and_self, and_true, true_and, Nat.reduceAdd, Nat.reduceMul, Nat.reduceLeDiff, Nat.zero_le, not_true_eq_false, not_false_eq_true, cat2_n, cat2_i, cat2_r, ws_0, ws_i, ws_r, ws_l, ws_d, aftr_n, aftr_s, bI_ok, bI_t, bI_f, up_s, up_n, n_bit, decide_true, decide_false, Bool.not_true, Bool.not_false, Bool.and_true, Bool.true_and, Bool.false_and, Bool.and_false, n_nlt0, n_neg_t, n_neg_f, k_0, k_566, k_567, k_568, k_569, k_570, k_571, k_572, k_573, k_574, k_575, k_576]
  have k2 : ∀ {j}, ¬ (j = 5 ∨ j = 6) → I2 (ad b t) j = I1 (ad b t) j := fun hj => r7.at (fun x => hj x.2)
  exact hQ I2 ⟨(k2 (by omega)).trans ((kp (by omega)).trans a0), (k2 (by omega)).trans q1.at4, r6, (k2 (by omega)).trans ((kp (by omega)).trans a9)⟩ ((q3.mn pP_s).tr (r7.mn (fun o j x => x.1)))
theorem l198 (hk : KAt KL b (ad b t) = (20, 10)) {w h : Int32} : ∀ d k I, k + d = 10 → (∀ I', (∀ j, k ≤ j → j < 10 → I' (ad b t) j = nI 0) → (∀ j, j < k → I' (ad b t) j = I (ad b t) j) → Ag (pS t) b I I' → X z 198 18 [some (.ref (ad b t)), some (.int w), some (.int h), some (.int (nI 10))] [] (0, 0) (KAt KL b, I', RAt RL b q, L, sz, ex) Q) → X z 198 2 [some (.ref (ad b t)), some (.int w), some (.int h), some (.int (nI k))] [] (0, 0) (KAt KL b, I, RAt RL b q, L, sz, ex) Q := by
  intro d
  induction d with
  | zero =>
    intro k I h hQ
    obtain rfl : k = 10 := by omega
    rw [v198_2]
    simp (disch := omega) only [v198_3, v198_5, v198_8, v198_9, v198_10, v198_11, v198_12, v198_15, Nat.add_zero, n_cl, n_in_t, n_lt_t, n_lt_f, n_eq_t, n_eq_f, n_sub, nI_add, n_mul, n_01, ↓reduceIte, if_true, if_false, eq_self, true_or, or_true, and_self, and_true, true_and, Nat.reduceAdd, Nat.reduceMul, Nat.reduceLeDiff, Nat.zero_le, not_true_eq_false, not_false_eq_true, cat2_n, cat2_i, cat2_r, ws_0, ws_i, ws_r, ws_l, ws_d, aftr_n, aftr_s, bI_ok, bI_t, bI_f, up_s, up_n, n_bit, decide_true, decide_false, Bool.not_true, Bool.not_false, Bool.and_true, Bool.true_and, Bool.false_and, Bool.and_false, n_nlt0, n_neg_t, n_neg_f, k_0, k_566, k_567, k_568, k_569, k_570, k_571, k_572, k_573, k_574, k_575, k_576]
    exact hQ I (fun j h1 h2 => by omega) (fun j _ => rfl) Ag.rf
  | succ d ih =>
    intro k I h hQ
    rw [v198_2]
    simp (disch := omega) only [v198_3, v198_5, v198_8, v198_9, v198_10, v198_11, v198_12, v198_15, Nat.add_zero, n_cl, n_in_t, n_lt_t, n_lt_f, n_eq_t, n_eq_f, n_sub, nI_add, n_mul, n_01, ↓reduceIte, if_true, if_false, eq_self, true_or, or_true, and_self, and_true, true_and, Nat.reduceAdd, Nat.reduceMul, Nat.reduceLeDiff, Nat.zero_le, not_true_eq_false, not_false_eq_true, cat2_n, cat2_i, cat2_r, ws_0, ws_i, ws_r, ws_l, ws_d, aftr_n, aftr_s, bI_ok, bI_t, bI_f, up_s, up_n, n_bit, decide_true, decide_false, Bool.not_true, Bool.not_false, Bool.and_true, Bool.true_and, Bool.false_and, Bool.and_false, n_nlt0, n_neg_t, n_neg_f, k_0, k_566, k_567, k_568, k_569, k_570, k_571, k_572, k_573, k_574, k_575, k_576, hk]
    refine ih (k + 1) _ (by omega) (fun I1 q1 q2 q3 => hQ I1 (fun j h1 h2 => ?_) (fun j hj => ?_) ((Ag.up (P := pS t) Ag.rf rfl).tr q3))
    · by_cases e : j = k
      · rw [q2 j (by omega), e, up_s]
      · exact q1 j (by omega) h2
    · rw [q2 j (by omega), up_n (by omega)]
theorem c198 (hk : KAt KL b (ad b t) = (20, 10)) (hQ : ∀ I', OS b I' t W H [] → Ag (pS t) b I I' → Q (.inl none) (KAt KL b, I', RAt RL b q, L, sz, ex)) : X z 198 0 [some (.ref (ad b t)), some (.int (nI W)), some (.int (nI H)), none] [] (0, 0) (KAt KL b, I, RAt RL b q, L, sz, ex) Q := by
  simp (disch := omega) only [v198_0, v198_1, Nat.add_zero, n_cl, n_in_t, n_lt_t, n_lt_f, n_eq_t, n_eq_f, n_sub, nI_add, n_mul, n_01, ↓reduceIte, if_true, if_false, eq_self, true_or, or_true, and_self, and_true, true_and, Nat.reduceAdd, Nat.reduceMul, Nat.reduceLeDiff, Nat.zero_le, not_true_eq_false, not_false_eq_true, cat2_n, cat2_i, cat2_r, ws_0, ws_i, ws_r, ws_l, ws_d, aftr_n, aftr_s, bI_ok, bI_t, bI_f, up_s, up_n, n_bit, decide_true, decide_false, Bool.not_true, Bool.not_false, Bool.and_true, Bool.true_and, Bool.false_and, Bool.and_false, n_nlt0, n_neg_t, n_neg_f, k_0, k_566, k_567, k_568, k_569, k_570, k_571, k_572, k_573, k_574, k_575, k_576]
  refine l198 hk 10 0 I (by omega) (fun I1 q1 q2 q3 => ?_)
  simp (disch := omega) only [v198_18, v198_19, v198_20, v198_21, v198_22, v198_23, v198_24, v198_25, v198_26, v198_27, v198_29, v198_30, v198_31, v198_32, v198_34, v198_35, v198_36, Nat.add_zero, n_cl, n_in_t, n_lt_t, n_lt_f, n_eq_t, n_eq_f, n_sub, nI_add, n_mul, n_01, ↓reduceIte, if_true, if_false, eq_self, true_or, or_true, and_self, and_true, true_and, Nat.reduceAdd, Nat.reduceMul, Nat.reduceLeDiff, Nat.zero_le, not_true_eq_false, not_false_eq_true, cat2_n, cat2_i, cat2_r, ws_0, ws_i, ws_r, ws_l, ws_d, aftr_n, aftr_s, bI_ok, bI_t, bI_f, up_s, up_n, n_bit, decide_true, decide_false, Bool.not_true, Bool.not_false, Bool.and_true, Bool.true_and, Bool.false_and, Bool.and_false, n_nlt0, n_neg_t, n_neg_f, k_0, k_566, k_567, k_568, k_569, k_570, k_571, k_572, k_573, k_574, k_575, k_576, hk]
  refine hQ _ ⟨?_, ?_, ⟨?_, ?_, ?_⟩, ?_, ?_, ?_, ?_, ?_⟩ ((((q3.up rfl).up rfl).up rfl).up rfl)
  · rw [up_n (by omega), up_n (by omega), up_n (by omega), up_n (by omega)]; exact q1 0 (by omega) (by omega)
  · rw [up_n (by omega), up_n (by omega), up_n (by omega), up_n (by omega)]; exact q1 1 (by omega) (by omega)
  · rw [up_n (by omega), up_n (by omega), up_s]; rfl
  · rw [up_n (by omega), up_n (by omega), up_n (by omega), up_s]
  · rw [up_n (by omega), up_n (by omega), up_n (by omega), up_n (by omega)]; exact q1 2 (by omega) (by omega)
  · rw [up_n (by omega), up_n (by omega), up_n (by omega), up_n (by omega)]; exact q1 5 (by omega) (by omega)
  · rw [up_n (by omega), up_n (by omega), up_n (by omega), up_n (by omega)]; exact q1 6 (by omega) (by omega)
  · rw [up_n (by omega), up_s]
  · rw [up_s]
  · rw [up_n (by omega), up_n (by omega), up_n (by omega), up_n (by omega)]; exact q1 9 (by omega) (by omega)
end LB
