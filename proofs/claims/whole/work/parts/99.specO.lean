/-! what each call answers: what is thrown (0: nothing; 1, 2: the first, the second that the clause names), the answer, the state then -/
def sv (w : Wd) (A' : Row) : Wd := (A', svN w.2.1, svH w.1 w.2.1 w.2.2.1, w.2.2.2)
abbrev Ans : Type := Nat × Nat × Wd
def opMove (w : Wd) (p a : Nat) : Ans := if p < w.1 6 then (if a ≤ 19 then (0, w.1 (13 + p), sv w (upr w.1 (13 + p) a)) else (2, 0, w)) else (1, 0, w)
def opGive (w : Wd) (p v : Nat) : Ans := if p < w.1 6 ∧ (v = 4294967295 ∨ v < w.1 7) then (0, w.1 (53 + p), sv w (upr w.1 (53 + p) v)) else (1, 0, w)
def gone (A : Row) : Nat := sumF (fun p => A (73 + p)) 0 (A 6)
def opUns (w : Wd) (p i : Nat) : Ans := if p < w.1 6 then (0, gone (upr w.1 (73 + p) i), sv w (upr w.1 (73 + p) i)) else (1, 0, w)
def okV (k v : Nat) : Bool := if k = 0 then decide (5 ≤ v ∧ v ≤ 40) else if k = 2 then decide (1 ≤ v ∧ v ≤ 6) else if k = 3 then decide (v ≤ 30) else if k = 4 then decide (1 ≤ v ∧ v ≤ 9) else decide (1 ≤ v ∧ v ≤ 20)
def opSet (w : Wd) (k v : Nat) : Ans := if k ≤ 5 then (if okV k v = true then (0, w.1 k, sv w (upr w.1 k v)) else (2, 0, w)) else (1, 0, w)
def opPass (w : Wd) (d : Nat) : Ans := if 1 ≤ d ∧ d ≤ 100 then (if w.1 8 + d ≤ 10000 then (0, w.1 8 + d, sv w (upr w.1 8 (w.1 8 + d))) else (2, 0, w)) else (1, 0, w)
def opApp (w : Wd) (c : Nat) : Ans := if 33 ≤ c ∧ c ≤ 126 then (if w.2.2.2.length < 60 then (0, w.2.2.2.length + 1, (w.1, w.2.1, w.2.2.1, w.2.2.2 ++ [c])) else (2, 0, w)) else (1, 0, w)
def opClr (w : Wd) : Ans := (0, w.2.2.2.length, (w.1, w.2.1, w.2.2.1, []))
def opUndo (w : Wd) : Ans := if 0 < w.2.1 then (0, w.2.1 - 1, (w.2.2.1 (w.2.1 - 1), w.2.1 - 1, w.2.2.1, w.2.2.2)) else (1, 0, w)
/-- the answer of the reference: what it returns, what it notes as thrown, its state -/
def RQ (b : Nat) (I : Nat → Nat → Int32) (s : Ans) (P : Nat → (Nat → Nat → Int32) → Prop) : Prop := ∀ I' v, RS b I' s.2.2 → I' (ad b 566) 5 = nI s.1 → Ag pRef b I I' → (s.1 = 0 → v = s.2.1) → P v I'
theorem ne_s {k : Nat} {P : Prop} (h : k + 1 = 0) : P := absurd h (Nat.succ_ne_zero k)
section OR
variable {z : P0} {KL : Nat → Nat × Nat} {RL : Nat → Nat → Option Nat} {q : Nat → Nat} {b : Nat} {I : Nat → Nat → Int32} {L : Nat → Nat → Int64} {sz : Nat} {ex : Bool} {Q : Res → Mem → Prop} {A : Row}
variable {n : Nat} {H : Nat → Row} {B : List Nat}
theorem l138 (h6 : A 6 ≤ 20) (hz : RZ b I A) : ∀ d p c, p + d = A 6 → X z 138 4 [some (.ref (ad b 566)), some (.int (nI c)), some (.int (nI p))] [] (0, 0) (KAt KL b, I, RAt RL b q, L, sz, ex) Q = Q (.inl (some (.int (nI (c + sumF (fun p => A (73 + p)) p d))))) (KAt KL b, I, RAt RL b q, L, sz, ex) := by
  intro d
  induction d with
  | zero =>
    intro p c hp
    rw [v138_4]
    simp (disch := omega) only [v138_0, v138_1, v138_2, v138_3, v138_5, v138_6, v138_9, v138_11, v138_12, v138_15, v138_16, v138_17, v138_20, v138_22, v138_23, v138_24, v138_25, v138_26, v138_27, v138_30, v138_33, v138_34, k_566, k_567, k_568, k_569, k_570, k_571, k_572, k_573, k_574, k_575, k_576, r_566_0, r_566_2, r_566_4, r_566_6, r_566_7, r_566_8, r_566_9, r_566_10, r_566_11, r_566_13, va_rf_s, n_cl, n_in_t, n_lt_t, n_lt_f, n_eq_t, n_eq_f, n_sub, nI_add, n_mul, ↓reduceIte, if_true, if_false, eq_self, true_or, or_true, and_self, and_true, true_and, Nat.reduceAdd, Nat.reduceMul, Nat.reduceLeDiff, Nat.zero_le, not_true_eq_false, not_false_eq_true, cat2_n, cat2_i, cat2_r, ws_0, ws_i, ws_r, ws_l, ws_d, aftr_n, aftr_s, bI_ok, bI_t, bI_f, up_s, up_n, n_bit, hz.at]
    rfl
  | succ d ih =>
    intro p c hp
    rw [v138_4]
    unfold sumF
    simp (disch := omega) only [v138_0, v138_1, v138_2, v138_3, v138_5, v138_6, v138_9, v138_11, v138_12, v138_15, v138_16, v138_17, v138_20, v138_22, v138_23, v138_24, v138_25, v138_26, v138_27, v138_30, v138_33, v138_34, k_566, k_567, k_568, k_569, k_570, k_571, k_572, k_573, k_574, k_575, k_576, r_566_0, r_566_2, r_566_4, r_566_6, r_566_7, r_566_8, r_566_9, r_566_10, r_566_11, r_566_13, va_rf_s, n_cl, n_in_t, n_lt_t, n_lt_f, n_eq_t, n_eq_f, n_sub, nI_add, n_mul, ↓reduceIte, if_true, if_false, eq_self, true_or, or_true, and_self, and_true, true_and, Nat.reduceAdd, Nat.reduceMul, Nat.reduceLeDiff, Nat.zero_le, not_true_eq_false, not_false_eq_true, cat2_n, cat2_i, cat2_r, ws_0, ws_i, ws_r, ws_l, ws_d, aftr_n, aftr_s, bI_ok, bI_t, bI_f, up_s, up_n, n_bit, hz.at, ih (p + 1), Nat.add_assoc]
theorem c138 (h6 : A 6 ≤ 20) (hz : RZ b I A) : X z 138 0 [some (.ref (ad b 566)), none, none] [] (0, 0) (KAt KL b, I, RAt RL b q, L, sz, ex) Q = Q (.inl (some (.int (nI (gone A))))) (KAt KL b, I, RAt RL b q, L, sz, ex) := by
  simp (disch := omega) only [v138_0, v138_1, v138_2, v138_3, k_566, k_567, k_568, k_569, k_570, k_571, k_572, k_573, k_574, k_575, k_576, r_566_0, r_566_2, r_566_4, r_566_6, r_566_7, r_566_8, r_566_9, r_566_10, r_566_11, r_566_13, va_rf_s, n_cl, n_in_t, n_lt_t, n_lt_f, n_eq_t, n_eq_f, n_sub, nI_add, n_mul, ↓reduceIte, if_true, if_false, eq_self, true_or, or_true, and_self, and_true, true_and, Nat.reduceAdd, Nat.reduceMul, Nat.reduceLeDiff, Nat.zero_le, not_true_eq_false, not_false_eq_true, cat2_n, cat2_i, cat2_r, ws_0, ws_i, ws_r, ws_l, ws_d, aftr_n, aftr_s, bI_ok, bI_t, bI_f, up_s, up_n, n_bit, l138 h6 hz (A 6) 0 0, Nat.zero_add]
  rfl
theorem c136 {p a : Nat} (hp : p < 4294967296) (ha : a < 4294967296) (hs : RS b I (A, n, H, B)) (hg : Good A) (hQ : RQ b I (opMove (A, n, H, B) p a) fun v I' => Q (.inl (some (.int (nI v)))) (KAt KL b, I', RAt RL b q, L, sz, ex)) : X z 136 0 [some (.ref (ad b 566)), some (.int (nI p)), some (.int (nI a)), none] [] (0, 0) (KAt KL b, I, RAt RL b q, L, sz, ex) Q := by
  have h6 := hg.1.1
  have hz : RZ b I A := hs.rz
  unfold opMove at hQ
  dsimp only at hQ
  by_cases e1 : p < A 6
  · rw [if_pos e1] at hQ
    by_cases e2 : a ≤ 19
    · rw [if_pos e2] at hQ
      simp (disch := omega) only [v136_0, v136_1, v136_2, u136_3, v136_6, v136_9, v136_10, v136_13, v136_14, v136_15, u136_17, v136_20, v136_23, v136_24, v136_27, v136_28, v136_31, v136_32, v136_35, v136_38, v136_39, v136_40, u136_41, k_566, k_567, k_568, k_569, k_570, k_571, k_572, k_573, k_574, k_575, k_576, r_566_0, r_566_2, r_566_4, r_566_6, r_566_7, r_566_8, r_566_9, r_566_10, r_566_11, r_566_13, va_rf_s, n_cl, n_in_t, n_lt_t, n_lt_f, n_eq_t, n_eq_f, n_sub, nI_add, n_mul, ↓reduceIte, if_true, if_false, eq_self, true_or, or_true, and_self, and_true, true_and, Nat.reduceAdd, Nat.reduceMul, Nat.reduceLeDiff, Nat.zero_le, not_true_eq_false, not_false_eq_true, cat2_n, cat2_i, cat2_r, ws_0, ws_i, ws_r, ws_l, ws_d, aftr_n, aftr_s, bI_ok, bI_t, bI_f, up_s, up_n, n_bit, c108 hz h6 hp, c106, n_wi, decide_eq_true e1, decide_eq_true e2]
      refine c107 hs.thr (fun I1 g1 g2 => ?_)
      have hz1 : RZ b I1 A := g1.rz
      simp (disch := omega) only [v136_44, v136_45, v136_48, v136_50, v136_51, v136_52, v136_53, v136_54, v136_55, v136_58, v136_60, v136_61, v136_62, v136_63, v136_64, v136_65, k_566, k_567, k_568, k_569, k_570, k_571, k_572, k_573, k_574, k_575, k_576, r_566_0, r_566_2, r_566_4, r_566_6, r_566_7, r_566_8, r_566_9, r_566_10, r_566_11, r_566_13, va_rf_s, n_cl, n_in_t, n_lt_t, n_lt_f, n_eq_t, n_eq_f, n_sub, nI_add, n_mul, ↓reduceIte, if_true, if_false, eq_self, true_or, or_true, and_self, and_true, true_and, Nat.reduceAdd, Nat.reduceMul, Nat.reduceLeDiff, Nat.zero_le, not_true_eq_false, not_false_eq_true, cat2_n, cat2_i, cat2_r, ws_0, ws_i, ws_r, ws_l, ws_d, aftr_n, aftr_s, bI_ok, bI_t, bI_f, up_s, up_n, n_bit, hz1.at]
      refine hQ _ _ (g1.setz (by omega) ha) ?_ (((agThr.mn pThr_r).tr (g2.mn pSv_r)).up (by unfold pRef; omega)) (fun _ => rfl)
      rw [up_n (by omega), g2.at (fun x => by unfold pSv at x; omega), up_s]
    · rw [if_neg e2] at hQ
      simp (disch := omega) only [v136_0, v136_1, v136_2, u136_3, v136_6, v136_9, v136_10, v136_13, v136_14, v136_15, u136_17, v136_20, v136_23, v136_24, v136_27, v136_28, v136_31, v136_32, v136_35, v136_38, v136_39, v136_40, u136_41, v136_44, v136_45, v136_48, v136_50, v136_51, v136_52, v136_53, v136_54, v136_55, v136_58, v136_60, v136_61, v136_62, v136_63, v136_64, v136_65, k_566, k_567, k_568, k_569, k_570, k_571, k_572, k_573, k_574, k_575, k_576, r_566_0, r_566_2, r_566_4, r_566_6, r_566_7, r_566_8, r_566_9, r_566_10, r_566_11, r_566_13, va_rf_s, n_cl, n_in_t, n_lt_t, n_lt_f, n_eq_t, n_eq_f, n_sub, nI_add, n_mul, ↓reduceIte, if_true, if_false, eq_self, true_or, or_true, and_self, and_true, true_and, Nat.reduceAdd, Nat.reduceMul, Nat.reduceLeDiff, Nat.zero_le, not_true_eq_false, not_false_eq_true, cat2_n, cat2_i, cat2_r, ws_0, ws_i, ws_r, ws_l, ws_d, aftr_n, aftr_s, bI_ok, bI_t, bI_f, up_s, up_n, n_bit, c108 hz h6 hp, c106, n_wi, decide_eq_true e1, decide_eq_false e2]
      exact hQ _ 0 hs.thr up_s (agThr.mn pThr_r) (fun x => ne_s x)
  · rw [if_neg e1] at hQ
    simp (disch := omega) only [v136_0, v136_1, v136_2, u136_3, v136_6, v136_9, v136_10, v136_13, v136_14, v136_15, u136_17, v136_20, v136_23, v136_24, v136_27, v136_28, v136_31, v136_32, v136_35, v136_38, v136_39, v136_40, u136_41, v136_44, v136_45, v136_48, v136_50, v136_51, v136_52, v136_53, v136_54, v136_55, v136_58, v136_60, v136_61, v136_62, v136_63, v136_64, v136_65, k_566, k_567, k_568, k_569, k_570, k_571, k_572, k_573, k_574, k_575, k_576, r_566_0, r_566_2, r_566_4, r_566_6, r_566_7, r_566_8, r_566_9, r_566_10, r_566_11, r_566_13, va_rf_s, n_cl, n_in_t, n_lt_t, n_lt_f, n_eq_t, n_eq_f, n_sub, nI_add, n_mul, ↓reduceIte, if_true, if_false, eq_self, true_or, or_true, and_self, and_true, true_and, Nat.reduceAdd, Nat.reduceMul, Nat.reduceLeDiff, Nat.zero_le, not_true_eq_false, not_false_eq_true, cat2_n, cat2_i, cat2_r, ws_0, ws_i, ws_r, ws_l, ws_d, aftr_n, aftr_s, bI_ok, bI_t, bI_f, up_s, up_n, n_bit, c108 hz h6 hp, decide_eq_false e1]
    exact hQ _ 0 hs.thr up_s (agThr.mn pThr_r) (fun x => ne_s x)
theorem c137 {p a : Nat} (hp : p < 4294967296) (ha : a < 4294967296) (hs : RS b I (A, n, H, B)) (hg : Good A) (hQ : RQ b I (opGive (A, n, H, B) p a) fun v I' => Q (.inl (some (.int (nI v)))) (KAt KL b, I', RAt RL b q, L, sz, ex)) : X z 137 0 [some (.ref (ad b 566)), some (.int (nI p)), some (.int (nI a)), none] [] (0, 0) (KAt KL b, I, RAt RL b q, L, sz, ex) Q := by
  have h6 := hg.1.1
  have h7 := hg.1.2.1
  have hz : RZ b I A := hs.rz
  unfold opGive at hQ
  dsimp only at hQ
  have fin : ∀ I0, I0 = up2 I (ad b 566) 5 (nI 0) → p < A 6 → (a = 4294967295 ∨ a < A 7) → X z 107 0 [some (.ref (ad b 566)), none] [] (0, 0) (KAt KL b, I0, RAt RL b q, L, sz, ex) (aftr (X z) mT 137 40 [some (.ref (ad b 566)), some (.int (nI p)), some (.int (nI a)), none] [] (0, 0) Q) := by
    rintro I0 rfl e1 e2
    rw [if_pos ⟨e1, e2⟩] at hQ
    refine c107 hs.thr (fun I1 g1 g2 => ?_)
    have hz1 : RZ b I1 A := g1.rz
    simp (disch := omega) only [v137_43, v137_44, v137_47, v137_49, v137_50, v137_51, v137_52, v137_53, v137_54, v137_57, v137_59, v137_60, v137_61, v137_62, v137_63, v137_64, k_566, k_567, k_568, k_569, k_570, k_571, k_572, k_573, k_574, k_575, k_576, r_566_0, r_566_2, r_566_4, r_566_6, r_566_7, r_566_8, r_566_9, r_566_10, r_566_11, r_566_13, va_rf_s, n_cl, n_in_t, n_lt_t, n_lt_f, n_eq_t, n_eq_f, n_sub, nI_add, n_mul, ↓reduceIte, if_true, if_false, eq_self, true_or, or_true, and_self, and_true, true_and, Nat.reduceAdd, Nat.reduceMul, Nat.reduceLeDiff, Nat.zero_le, not_true_eq_false, not_false_eq_true, cat2_n, cat2_i, cat2_r, ws_0, ws_i, ws_r, ws_l, ws_d, aftr_n, aftr_s, bI_ok, bI_t, bI_f, up_s, up_n, n_bit, hz1.at]
    refine hQ _ _ (g1.setz (by omega) ha) ?_ (((agThr.mn pThr_r).tr (g2.mn pSv_r)).up (by unfold pRef; omega)) (fun _ => rfl)
    rw [up_n (by omega), g2.at (fun x => by unfold pSv at x; omega), up_s]
  by_cases e1 : p < A 6
  · by_cases e2 : a = 4294967295
    · have := fin _ rfl e1 (Or.inl e2)
      simp (disch := omega) only [v137_0, v137_1, v137_2, u137_3, v137_6, v137_9, v137_10, v137_11, v137_14, v137_15, u137_16, v137_19, v137_22, v137_23, v137_26, v137_27, v137_30, v137_31, v137_34, v137_37, v137_38, v137_39, u137_40, k_566, k_567, k_568, k_569, k_570, k_571, k_572, k_573, k_574, k_575, k_576, r_566_0, r_566_2, r_566_4, r_566_6, r_566_7, r_566_8, r_566_9, r_566_10, r_566_11, r_566_13, va_rf_s, n_cl, n_in_t, n_lt_t, n_lt_f, n_eq_t, n_eq_f, n_sub, nI_add, n_mul, ↓reduceIte, if_true, if_false, eq_self, true_or, or_true, and_self, and_true, true_and, Nat.reduceAdd, Nat.reduceMul, Nat.reduceLeDiff, Nat.zero_le, not_true_eq_false, not_false_eq_true, cat2_n, cat2_i, cat2_r, ws_0, ws_i, ws_r, ws_l, ws_d, aftr_n, aftr_s, bI_ok, bI_t, bI_f, up_s, up_n, n_bit, c108 hz h6 hp, decide_eq_true e1]
      exact this
    · by_cases e3 : a < A 7
      · have := fin _ rfl e1 (Or.inr e3)
        simp (disch := omega) only [v137_0, v137_1, v137_2, u137_3, v137_6, v137_9, v137_10, v137_11, v137_14, v137_15, u137_16, v137_19, v137_22, v137_23, v137_26, v137_27, v137_30, v137_31, v137_34, v137_37, v137_38, v137_39, u137_40, k_566, k_567, k_568, k_569, k_570, k_571, k_572, k_573, k_574, k_575, k_576, r_566_0, r_566_2, r_566_4, r_566_6, r_566_7, r_566_8, r_566_9, r_566_10, r_566_11, r_566_13, va_rf_s, n_cl, n_in_t, n_lt_t, n_lt_f, n_eq_t, n_eq_f, n_sub, nI_add, n_mul, ↓reduceIte, if_true, if_false, eq_self, true_or, or_true, and_self, and_true, true_and, Nat.reduceAdd, Nat.reduceMul, Nat.reduceLeDiff, Nat.zero_le, not_true_eq_false, not_false_eq_true, cat2_n, cat2_i, cat2_r, ws_0, ws_i, ws_r, ws_l, ws_d, aftr_n, aftr_s, bI_ok, bI_t, bI_f, up_s, up_n, n_bit, c108 hz h6 hp, c109 hz h7 ha, decide_eq_true e1, decide_eq_true e3]
        exact this
      · rw [if_neg (fun x => x.2.elim e2 e3)] at hQ
        simp (disch := omega) only [v137_0, v137_1, v137_2, u137_3, v137_6, v137_9, v137_10, v137_11, v137_14, v137_15, u137_16, v137_19, v137_22, v137_23, v137_26, v137_27, v137_30, v137_31, v137_34, v137_37, v137_38, v137_39, u137_40, v137_43, v137_44, v137_47, v137_49, v137_50, v137_51, v137_52, v137_53, v137_54, v137_57, v137_59, v137_60, v137_61, v137_62, v137_63, v137_64, k_566, k_567, k_568, k_569, k_570, k_571, k_572, k_573, k_574, k_575, k_576, r_566_0, r_566_2, r_566_4, r_566_6, r_566_7, r_566_8, r_566_9, r_566_10, r_566_11, r_566_13, va_rf_s, n_cl, n_in_t, n_lt_t, n_lt_f, n_eq_t, n_eq_f, n_sub, nI_add, n_mul, ↓reduceIte, if_true, if_false, eq_self, true_or, or_true, and_self, and_true, true_and, Nat.reduceAdd, Nat.reduceMul, Nat.reduceLeDiff, Nat.zero_le, not_true_eq_false, not_false_eq_true, cat2_n, cat2_i, cat2_r, ws_0, ws_i, ws_r, ws_l, ws_d, aftr_n, aftr_s, bI_ok, bI_t, bI_f, up_s, up_n, n_bit, c108 hz h6 hp, c109 hz h7 ha, decide_eq_true e1, decide_eq_false e3]
        exact hQ _ 0 hs.thr up_s (agThr.mn pThr_r) (fun x => ne_s x)
  · rw [if_neg (fun x => e1 x.1)] at hQ
    simp (disch := omega) only [v137_0, v137_1, v137_2, u137_3, v137_6, v137_9, v137_10, v137_11, v137_14, v137_15, u137_16, v137_19, v137_22, v137_23, v137_26, v137_27, v137_30, v137_31, v137_34, v137_37, v137_38, v137_39, u137_40, v137_43, v137_44, v137_47, v137_49, v137_50, v137_51, v137_52, v137_53, v137_54, v137_57, v137_59, v137_60, v137_61, v137_62, v137_63, v137_64, k_566, k_567, k_568, k_569, k_570, k_571, k_572, k_573, k_574, k_575, k_576, r_566_0, r_566_2, r_566_4, r_566_6, r_566_7, r_566_8, r_566_9, r_566_10, r_566_11, r_566_13, va_rf_s, n_cl, n_in_t, n_lt_t, n_lt_f, n_eq_t, n_eq_f, n_sub, nI_add, n_mul, ↓reduceIte, if_true, if_false, eq_self, true_or, or_true, and_self, and_true, true_and, Nat.reduceAdd, Nat.reduceMul, Nat.reduceLeDiff, Nat.zero_le, not_true_eq_false, not_false_eq_true, cat2_n, cat2_i, cat2_r, ws_0, ws_i, ws_r, ws_l, ws_d, aftr_n, aftr_s, bI_ok, bI_t, bI_f, up_s, up_n, n_bit, c108 hz h6 hp, decide_eq_false e1]
    exact hQ _ 0 hs.thr up_s (agThr.mn pThr_r) (fun x => ne_s x)
theorem c139 {p i : Nat} (hp : p < 4294967296) (hi : i ≤ 1) (hs : RS b I (A, n, H, B)) (hg : Good A) (hQ : RQ b I (opUns (A, n, H, B) p i) fun v I' => Q (.inl (some (.int (nI v)))) (KAt KL b, I', RAt RL b q, L, sz, ex)) : X z 139 0 [some (.ref (ad b 566)), some (.int (nI p)), some (.int (nI i))] [] (0, 0) (KAt KL b, I, RAt RL b q, L, sz, ex) Q := by
  have h6 := hg.1.1
  have hz : RZ b I A := hs.rz
  unfold opUns at hQ
  dsimp only at hQ
  by_cases e1 : p < A 6
  · rw [if_pos e1] at hQ
    simp (disch := omega) only [v139_0, v139_1, v139_2, u139_3, v139_6, v139_9, v139_10, v139_13, v139_14, v139_17, v139_18, v139_21, v139_24, v139_25, v139_26, u139_27, k_566, k_567, k_568, k_569, k_570, k_571, k_572, k_573, k_574, k_575, k_576, r_566_0, r_566_2, r_566_4, r_566_6, r_566_7, r_566_8, r_566_9, r_566_10, r_566_11, r_566_13, va_rf_s, n_cl, n_in_t, n_lt_t, n_lt_f, n_eq_t, n_eq_f, n_sub, nI_add, n_mul, ↓reduceIte, if_true, if_false, eq_self, true_or, or_true, and_self, and_true, true_and, Nat.reduceAdd, Nat.reduceMul, Nat.reduceLeDiff, Nat.zero_le, not_true_eq_false, not_false_eq_true, cat2_n, cat2_i, cat2_r, ws_0, ws_i, ws_r, ws_l, ws_d, aftr_n, aftr_s, bI_ok, bI_t, bI_f, up_s, up_n, n_bit, c108 hz h6 hp, decide_eq_true e1]
    refine c107 hs.thr (fun I1 g1 g2 => ?_)
    have hz1 : RZ b I1 A := g1.rz
    have g3 := g1.setz (k := 73 + p) (v := i) (by omega) (by omega)
    have hz3 : RZ b (up2 I1 (ad b 567) (73 + p) (nI i)) (upr A (73 + p) i) := g3.rz
    have h66 : upr A (73 + p) i 6 = A 6 := upr_n (by omega)
    have fin : Q (.inl (some (.int (nI (gone (upr A (73 + p) i)))))) (KAt KL b, up2 I1 (ad b 567) (73 + p) (nI i), RAt RL b q, L, sz, ex) := by
      refine hQ _ _ g3 ?_ (((agThr.mn pThr_r).tr (g2.mn pSv_r)).up (by unfold pRef; omega)) (fun _ => rfl)
      rw [up_n (by omega), g2.at (fun x => by unfold pSv at x; omega), up_s]
    rcases (show i = 0 ∨ i = 1 by omega) with rfl | rfl
    · simp (disch := omega) only [v139_30, v139_31, v139_34, v139_36, v139_37, v139_38, v139_39, v139_42, v139_43, v139_46, v139_47, v139_48, u139_49, v139_52, k_566, k_567, k_568, k_569, k_570, k_571, k_572, k_573, k_574, k_575, k_576, r_566_0, r_566_2, r_566_4, r_566_6, r_566_7, r_566_8, r_566_9, r_566_10, r_566_11, r_566_13, va_rf_s, n_cl, n_in_t, n_lt_t, n_lt_f, n_eq_t, n_eq_f, n_sub, nI_add, n_mul, ↓reduceIte, if_true, if_false, eq_self, true_or, or_true, and_self, and_true, true_and, Nat.reduceAdd, Nat.reduceMul, Nat.reduceLeDiff, Nat.zero_le, not_true_eq_false, not_false_eq_true, cat2_n, cat2_i, cat2_r, ws_0, ws_i, ws_r, ws_l, ws_d, aftr_n, aftr_s, bI_ok, bI_t, bI_f, up_s, up_n, n_bit, c138 (by omega) hz3]
      exact fin
    · simp (disch := omega) only [v139_30, v139_31, v139_34, v139_36, v139_37, v139_38, v139_39, v139_42, v139_43, v139_46, v139_47, v139_48, u139_49, v139_52, k_566, k_567, k_568, k_569, k_570, k_571, k_572, k_573, k_574, k_575, k_576, r_566_0, r_566_2, r_566_4, r_566_6, r_566_7, r_566_8, r_566_9, r_566_10, r_566_11, r_566_13, va_rf_s, n_cl, n_in_t, n_lt_t, n_lt_f, n_eq_t, n_eq_f, n_sub, nI_add, n_mul, ↓reduceIte, if_true, if_false, eq_self, true_or, or_true, and_self, and_true, true_and, Nat.reduceAdd, Nat.reduceMul, Nat.reduceLeDiff, Nat.zero_le, not_true_eq_false, not_false_eq_true, cat2_n, cat2_i, cat2_r, ws_0, ws_i, ws_r, ws_l, ws_d, aftr_n, aftr_s, bI_ok, bI_t, bI_f, up_s, up_n, n_bit, c138 (by omega) hz3]
      exact fin
  · rw [if_neg e1] at hQ
    simp (disch := omega) only [v139_0, v139_1, v139_2, u139_3, v139_6, v139_9, v139_10, v139_13, v139_14, v139_17, v139_18, v139_21, v139_24, v139_25, v139_26, u139_27, v139_30, v139_31, v139_34, v139_36, v139_37, v139_38, v139_39, v139_42, v139_43, v139_46, v139_47, v139_48, u139_49, v139_52, k_566, k_567, k_568, k_569, k_570, k_571, k_572, k_573, k_574, k_575, k_576, r_566_0, r_566_2, r_566_4, r_566_6, r_566_7, r_566_8, r_566_9, r_566_10, r_566_11, r_566_13, va_rf_s, n_cl, n_in_t, n_lt_t, n_lt_f, n_eq_t, n_eq_f, n_sub, nI_add, n_mul, ↓reduceIte, if_true, if_false, eq_self, true_or, or_true, and_self, and_true, true_and, Nat.reduceAdd, Nat.reduceMul, Nat.reduceLeDiff, Nat.zero_le, not_true_eq_false, not_false_eq_true, cat2_n, cat2_i, cat2_r, ws_0, ws_i, ws_r, ws_l, ws_d, aftr_n, aftr_s, bI_ok, bI_t, bI_f, up_s, up_n, n_bit, c108 hz h6 hp, decide_eq_false e1]
    exact hQ _ 0 hs.thr up_s (agThr.mn pThr_r) (fun x => ne_s x)
theorem c140 {k : Nat} {σ : Mem} (hk : k < 4294967296) : X z 140 0 [some (.int (nI k))] [] (0, 0) σ Q = Q (.inl (some (.int (bI (decide (k ≤ 5)))))) σ := by
  obtain ⟨K, I, R, L, sz, ex⟩ := σ
  simp (disch := omega) only [v140_0, v140_1, v140_2, u140_3, v140_6, k_566, k_567, k_568, k_569, k_570, k_571, k_572, k_573, k_574, k_575, k_576, r_566_0, r_566_2, r_566_4, r_566_6, r_566_7, r_566_8, r_566_9, r_566_10, r_566_11, r_566_13, va_rf_s, n_cl, n_in_t, n_lt_t, n_lt_f, n_eq_t, n_eq_f, n_sub, nI_add, n_mul, ↓reduceIte, if_true, if_false, eq_self, true_or, or_true, and_self, and_true, true_and, Nat.reduceAdd, Nat.reduceMul, Nat.reduceLeDiff, Nat.zero_le, not_true_eq_false, not_false_eq_true, cat2_n, cat2_i, cat2_r, ws_0, ws_i, ws_r, ws_l, ws_d, aftr_n, aftr_s, bI_ok, bI_t, bI_f, up_s, up_n, n_bit, c106, n_wi, Nat.zero_le, true_and]
theorem c141 {k v : Nat} {σ : Mem} (hk : k ≤ 5) (hv : v < 4294967296) : X z 141 0 [some (.int (nI k)), some (.int (nI v))] [] (0, 0) σ Q = Q (.inl (some (.int (bI (okV k v))))) σ := by
  obtain ⟨K, I, R, L, sz, ex⟩ := σ
  rw [v141_0]
  rcases (show k = 0 ∨ k = 1 ∨ k = 2 ∨ k = 3 ∨ k = 4 ∨ k = 5 by omega) with rfl | rfl | rfl | rfl | rfl | rfl
  · rw [w141_1_0]
    simp (disch := omega) only [v141_36, v141_37, v141_38, u141_40, v141_43, v141_44, v141_45, v141_46, u141_48, v141_51, v141_52, v141_53, v141_54, u141_56, v141_59, v141_60, v141_61, v141_62, u141_64, v141_67, v141_68, v141_69, v141_70, u141_72, v141_75, k_566, k_567, k_568, k_569, k_570, k_571, k_572, k_573, k_574, k_575, k_576, r_566_0, r_566_2, r_566_4, r_566_6, r_566_7, r_566_8, r_566_9, r_566_10, r_566_11, r_566_13, va_rf_s, n_cl, n_in_t, n_lt_t, n_lt_f, n_eq_t, n_eq_f, n_sub, nI_add, n_mul, ↓reduceIte, if_true, if_false, eq_self, true_or, or_true, and_self, and_true, true_and, Nat.reduceAdd, Nat.reduceMul, Nat.reduceLeDiff, Nat.zero_le, not_true_eq_false, not_false_eq_true, cat2_n, cat2_i, cat2_r, ws_0, ws_i, ws_r, ws_l, ws_d, aftr_n, aftr_s, bI_ok, bI_t, bI_f, up_s, up_n, n_bit, c106, n_wi]
    rfl
  · rw [w141_1_1]
    simp (disch := omega) only [v141_36, v141_37, v141_38, u141_40, v141_43, v141_44, v141_45, v141_46, u141_48, v141_51, v141_52, v141_53, v141_54, u141_56, v141_59, v141_60, v141_61, v141_62, u141_64, v141_67, v141_68, v141_69, v141_70, u141_72, v141_75, k_566, k_567, k_568, k_569, k_570, k_571, k_572, k_573, k_574, k_575, k_576, r_566_0, r_566_2, r_566_4, r_566_6, r_566_7, r_566_8, r_566_9, r_566_10, r_566_11, r_566_13, va_rf_s, n_cl, n_in_t, n_lt_t, n_lt_f, n_eq_t, n_eq_f, n_sub, nI_add, n_mul, ↓reduceIte, if_true, if_false, eq_self, true_or, or_true, and_self, and_true, true_and, Nat.reduceAdd, Nat.reduceMul, Nat.reduceLeDiff, Nat.zero_le, not_true_eq_false, not_false_eq_true, cat2_n, cat2_i, cat2_r, ws_0, ws_i, ws_r, ws_l, ws_d, aftr_n, aftr_s, bI_ok, bI_t, bI_f, up_s, up_n, n_bit, c106, n_wi]
    rfl
  · rw [w141_1_2]
    simp (disch := omega) only [v141_36, v141_37, v141_38, u141_40, v141_43, v141_44, v141_45, v141_46, u141_48, v141_51, v141_52, v141_53, v141_54, u141_56, v141_59, v141_60, v141_61, v141_62, u141_64, v141_67, v141_68, v141_69, v141_70, u141_72, v141_75, k_566, k_567, k_568, k_569, k_570, k_571, k_572, k_573, k_574, k_575, k_576, r_566_0, r_566_2, r_566_4, r_566_6, r_566_7, r_566_8, r_566_9, r_566_10, r_566_11, r_566_13, va_rf_s, n_cl, n_in_t, n_lt_t, n_lt_f, n_eq_t, n_eq_f, n_sub, nI_add, n_mul, ↓reduceIte, if_true, if_false, eq_self, true_or, or_true, and_self, and_true, true_and, Nat.reduceAdd, Nat.reduceMul, Nat.reduceLeDiff, Nat.zero_le, not_true_eq_false, not_false_eq_true, cat2_n, cat2_i, cat2_r, ws_0, ws_i, ws_r, ws_l, ws_d, aftr_n, aftr_s, bI_ok, bI_t, bI_f, up_s, up_n, n_bit, c106, n_wi]
    rfl
  · rw [w141_1_3]
    simp (disch := omega) only [v141_36, v141_37, v141_38, u141_40, v141_43, v141_44, v141_45, v141_46, u141_48, v141_51, v141_52, v141_53, v141_54, u141_56, v141_59, v141_60, v141_61, v141_62, u141_64, v141_67, v141_68, v141_69, v141_70, u141_72, v141_75, k_566, k_567, k_568, k_569, k_570, k_571, k_572, k_573, k_574, k_575, k_576, r_566_0, r_566_2, r_566_4, r_566_6, r_566_7, r_566_8, r_566_9, r_566_10, r_566_11, r_566_13, va_rf_s, n_cl, n_in_t, n_lt_t, n_lt_f, n_eq_t, n_eq_f, n_sub, nI_add, n_mul, ↓reduceIte, if_true, if_false, eq_self, true_or, or_true, and_self, and_true, true_and, Nat.reduceAdd, Nat.reduceMul, Nat.reduceLeDiff, Nat.zero_le, not_true_eq_false, not_false_eq_true, cat2_n, cat2_i, cat2_r, ws_0, ws_i, ws_r, ws_l, ws_d, aftr_n, aftr_s, bI_ok, bI_t, bI_f, up_s, up_n, n_bit, c106, n_wi]
    rfl
  · rw [w141_1_4]
    simp (disch := omega) only [v141_36, v141_37, v141_38, u141_40, v141_43, v141_44, v141_45, v141_46, u141_48, v141_51, v141_52, v141_53, v141_54, u141_56, v141_59, v141_60, v141_61, v141_62, u141_64, v141_67, v141_68, v141_69, v141_70, u141_72, v141_75, k_566, k_567, k_568, k_569, k_570, k_571, k_572, k_573, k_574, k_575, k_576, r_566_0, r_566_2, r_566_4, r_566_6, r_566_7, r_566_8, r_566_9, r_566_10, r_566_11, r_566_13, va_rf_s, n_cl, n_in_t, n_lt_t, n_lt_f, n_eq_t, n_eq_f, n_sub, nI_add, n_mul, ↓reduceIte, if_true, if_false, eq_self, true_or, or_true, and_self, and_true, true_and, Nat.reduceAdd, Nat.reduceMul, Nat.reduceLeDiff, Nat.zero_le, not_true_eq_false, not_false_eq_true, cat2_n, cat2_i, cat2_r, ws_0, ws_i, ws_r, ws_l, ws_d, aftr_n, aftr_s, bI_ok, bI_t, bI_f, up_s, up_n, n_bit, c106, n_wi]
    rfl
  · rw [w141_1_d (by omega)]
    simp (disch := omega) only [v141_36, v141_37, v141_38, u141_40, v141_43, v141_44, v141_45, v141_46, u141_48, v141_51, v141_52, v141_53, v141_54, u141_56, v141_59, v141_60, v141_61, v141_62, u141_64, v141_67, v141_68, v141_69, v141_70, u141_72, v141_75, k_566, k_567, k_568, k_569, k_570, k_571, k_572, k_573, k_574, k_575, k_576, r_566_0, r_566_2, r_566_4, r_566_6, r_566_7, r_566_8, r_566_9, r_566_10, r_566_11, r_566_13, va_rf_s, n_cl, n_in_t, n_lt_t, n_lt_f, n_eq_t, n_eq_f, n_sub, nI_add, n_mul, ↓reduceIte, if_true, if_false, eq_self, true_or, or_true, and_self, and_true, true_and, Nat.reduceAdd, Nat.reduceMul, Nat.reduceLeDiff, Nat.zero_le, not_true_eq_false, not_false_eq_true, cat2_n, cat2_i, cat2_r, ws_0, ws_i, ws_r, ws_l, ws_d, aftr_n, aftr_s, bI_ok, bI_t, bI_f, up_s, up_n, n_bit, c106, n_wi]
    rfl
theorem c142 {k v : Nat} (hk : k < 4294967296) (hv : v < 4294967296) (hs : RS b I (A, n, H, B)) (hQ : RQ b I (opSet (A, n, H, B) k v) fun v I' => Q (.inl (some (.int (nI v)))) (KAt KL b, I', RAt RL b q, L, sz, ex)) : X z 142 0 [some (.ref (ad b 566)), some (.int (nI k)), some (.int (nI v)), none] [] (0, 0) (KAt KL b, I, RAt RL b q, L, sz, ex) Q := by
  have hz : RZ b I A := hs.rz
  unfold opSet at hQ
  dsimp only at hQ
  by_cases e1 : k ≤ 5
  · rw [if_pos e1] at hQ
    by_cases e2 : okV k v = true
    · rw [if_pos e2] at hQ
      simp (disch := omega) only [v142_0, v142_1, u142_2, v142_5, v142_8, v142_9, v142_12, v142_13, u142_14, v142_17, v142_20, v142_21, v142_24, v142_25, v142_28, v142_29, v142_32, v142_35, v142_36, v142_37, u142_38, k_566, k_567, k_568, k_569, k_570, k_571, k_572, k_573, k_574, k_575, k_576, r_566_0, r_566_2, r_566_4, r_566_6, r_566_7, r_566_8, r_566_9, r_566_10, r_566_11, r_566_13, va_rf_s, n_cl, n_in_t, n_lt_t, n_lt_f, n_eq_t, n_eq_f, n_sub, nI_add, n_mul, ↓reduceIte, if_true, if_false, eq_self, true_or, or_true, and_self, and_true, true_and, Nat.reduceAdd, Nat.reduceMul, Nat.reduceLeDiff, Nat.zero_le, not_true_eq_false, not_false_eq_true, cat2_n, cat2_i, cat2_r, ws_0, ws_i, ws_r, ws_l, ws_d, aftr_n, aftr_s, bI_ok, bI_t, bI_f, up_s, up_n, n_bit, c140 hk, c141 e1 hv, decide_eq_true e1, e2]
      refine c107 hs.thr (fun I1 g1 g2 => ?_)
      have hz1 : RZ b I1 A := g1.rz
      simp (disch := omega) only [v142_41, v142_42, v142_45, v142_46, v142_47, v142_48, v142_49, v142_50, v142_51, v142_54, v142_55, v142_56, v142_57, v142_58, v142_59, v142_60, k_566, k_567, k_568, k_569, k_570, k_571, k_572, k_573, k_574, k_575, k_576, r_566_0, r_566_2, r_566_4, r_566_6, r_566_7, r_566_8, r_566_9, r_566_10, r_566_11, r_566_13, va_rf_s, n_cl, n_in_t, n_lt_t, n_lt_f, n_eq_t, n_eq_f, n_sub, nI_add, n_mul, ↓reduceIte, if_true, if_false, eq_self, true_or, or_true, and_self, and_true, true_and, Nat.reduceAdd, Nat.reduceMul, Nat.reduceLeDiff, Nat.zero_le, not_true_eq_false, not_false_eq_true, cat2_n, cat2_i, cat2_r, ws_0, ws_i, ws_r, ws_l, ws_d, aftr_n, aftr_s, bI_ok, bI_t, bI_f, up_s, up_n, n_bit, hz1.at, Nat.zero_add]
      refine hQ _ _ (g1.setz (by omega) hv) ?_ (((agThr.mn pThr_r).tr (g2.mn pSv_r)).up (by unfold pRef; omega)) (fun _ => rfl)
      rw [up_n (by omega), g2.at (fun x => by unfold pSv at x; omega), up_s]
    · rw [if_neg e2] at hQ
      rw [Bool.not_eq_true] at e2
      simp (disch := omega) only [v142_0, v142_1, u142_2, v142_5, v142_8, v142_9, v142_12, v142_13, u142_14, v142_17, v142_20, v142_21, v142_24, v142_25, v142_28, v142_29, v142_32, v142_35, v142_36, v142_37, u142_38, v142_41, v142_42, v142_45, v142_46, v142_47, v142_48, v142_49, v142_50, v142_51, v142_54, v142_55, v142_56, v142_57, v142_58, v142_59, v142_60, k_566, k_567, k_568, k_569, k_570, k_571, k_572, k_573, k_574, k_575, k_576, r_566_0, r_566_2, r_566_4, r_566_6, r_566_7, r_566_8, r_566_9, r_566_10, r_566_11, r_566_13, va_rf_s, n_cl, n_in_t, n_lt_t, n_lt_f, n_eq_t, n_eq_f, n_sub, nI_add, n_mul, ↓reduceIte, if_true, if_false, eq_self, true_or, or_true, and_self, and_true, true_and, Nat.reduceAdd, Nat.reduceMul, Nat.reduceLeDiff, Nat.zero_le, not_true_eq_false, not_false_eq_true, cat2_n, cat2_i, cat2_r, ws_0, ws_i, ws_r, ws_l, ws_d, aftr_n, aftr_s, bI_ok, bI_t, bI_f, up_s, up_n, n_bit, c140 hk, c141 e1 hv, decide_eq_true e1, e2]
      exact hQ _ 0 hs.thr up_s (agThr.mn pThr_r) (fun x => ne_s x)
  · rw [if_neg e1] at hQ
    simp (disch := omega) only [v142_0, v142_1, u142_2, v142_5, v142_8, v142_9, v142_12, v142_13, u142_14, v142_17, v142_20, v142_21, v142_24, v142_25, v142_28, v142_29, v142_32, v142_35, v142_36, v142_37, u142_38, v142_41, v142_42, v142_45, v142_46, v142_47, v142_48, v142_49, v142_50, v142_51, v142_54, v142_55, v142_56, v142_57, v142_58, v142_59, v142_60, k_566, k_567, k_568, k_569, k_570, k_571, k_572, k_573, k_574, k_575, k_576, r_566_0, r_566_2, r_566_4, r_566_6, r_566_7, r_566_8, r_566_9, r_566_10, r_566_11, r_566_13, va_rf_s, n_cl, n_in_t, n_lt_t, n_lt_f, n_eq_t, n_eq_f, n_sub, nI_add, n_mul, ↓reduceIte, if_true, if_false, eq_self, true_or, or_true, and_self, and_true, true_and, Nat.reduceAdd, Nat.reduceMul, Nat.reduceLeDiff, Nat.zero_le, not_true_eq_false, not_false_eq_true, cat2_n, cat2_i, cat2_r, ws_0, ws_i, ws_r, ws_l, ws_d, aftr_n, aftr_s, bI_ok, bI_t, bI_f, up_s, up_n, n_bit, c140 hk, decide_eq_false e1]
    exact hQ _ 0 hs.thr up_s (agThr.mn pThr_r) (fun x => ne_s x)
end OR
