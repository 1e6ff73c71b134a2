/-! THE REFERENCE: its whole state; saving -/
/-- a state: the row, how many rows are saved, the saved rows, the buffer -/
abbrev Wd : Type := Row × Nat × (Nat → Row) × List Nat
def RS (b : Nat) (I : Nat → Nat → Int32) (w : Wd) : Prop := RZ b I w.1 ∧ (I (ad b 566) 1 = nI w.2.1 ∧ w.2.1 ≤ 6) ∧ (∀ j, j < w.2.1 → ∀ k, k < 473 → I (ad b 568) (473 * j + k) = nI (w.2.2.1 j k) ∧ w.2.2.1 j k < 4294967296) ∧ I (ad b 566) 3 = nI w.2.2.2.length ∧ w.2.2.2.length ≤ 60 ∧ (∀ k, k < w.2.2.2.length → I (ad b 569) k = nI (w.2.2.2.getD k 0)) ∧ ∀ c ∈ w.2.2.2, 33 ≤ c ∧ c ≤ 126
def svN (n : Nat) : Nat := if n = 6 then 6 else n + 1
def svH (A : Row) (n : Nat) (H : Nat → Row) : Nat → Row := if n = 6 then fun j => if j = 5 then A else H (j + 1) else fun j => if j = n then A else H j
def GoodW (w : Wd) : Prop := Good w.1 ∧ ∀ j, j < w.2.1 → Good (w.2.2.1 j)
def pRef (o _j : Nat) : Prop := 566 ≤ o ∧ o ≤ 576
def pSv (o j : Nat) : Prop := o = 568 ∨ (o = 566 ∧ j = 1)
section RJ
variable {z : P0} {KL : Nat → Nat × Nat} {RL : Nat → Nat → Option Nat} {q : Nat → Nat} {b : Nat} {I : Nat → Nat → Int32} {L : Nat → Nat → Int64} {sz : Nat} {ex : Bool} {Q : Res → Mem → Prop} {A : Row}
variable {n : Nat} {H : Nat → Row} {B : List Nat}
theorem RS.rz {w : Wd} (h : RS b I w) : RZ b I w.1 := h.1
theorem RS.ag {w : Wd} {P : Nat → Nat → Prop} {I' : Nat → Nat → Int32} (h : RS b I w) (hg : Ag P b I I') (hP : ∀ o j, P o j → o ≠ 567 ∧ o ≠ 568 ∧ o ≠ 569 ∧ ¬ (o = 566 ∧ (j = 1 ∨ j = 3))) : RS b I' w := by
  obtain ⟨h1, ⟨h2, h3⟩, h4, h5, h6, h7, h8⟩ := h
  exact ⟨h1.ag hg (fun j x => (hP _ _ x).1 rfl), ⟨(hg.at (fun x => (hP _ _ x).2.2.2 ⟨rfl, Or.inl rfl⟩)).trans h2, h3⟩, fun j hj k hk => ⟨(hg.at (fun x => (hP _ _ x).2.1 rfl)).trans (h4 j hj k hk).1, (h4 j hj k hk).2⟩, (hg.at (fun x => (hP _ _ x).2.2.2 ⟨rfl, Or.inr rfl⟩)).trans h5, h6, fun k hk => (hg.at (fun x => (hP _ _ x).2.2.1 rfl)).trans (h7 k hk), h8⟩
def pThr (o j : Nat) : Prop := o = 566 ∧ j = 5
theorem agThr {v : Int32} : Ag pThr b I (up2 I (ad b 566) 5 v) := Ag.rf.up ⟨rfl, rfl⟩
theorem RS.thr {w : Wd} {v : Int32} (h : RS b I w) : RS b (up2 I (ad b 566) 5 v) w := h.ag agThr (fun o j x => by unfold pThr at x; omega)
theorem RS.scr {w : Wd} {I' : Nat → Nat → Int32} (h : RS b I w) (hg : Ag pScr b I I') : RS b I' w := h.ag hg (fun o j x => by unfold pScr at x; omega)
theorem RS.setz {k v : Nat} (h : RS b I (A, n, H, B)) (hk : k < 473) (hv : v < 4294967296) : RS b (up2 I (ad b 567) k (nI v)) (upr A k v, n, H, B) := by
  obtain ⟨h1, ⟨h2, h3⟩, h4, h5, h6, h7, h8⟩ := h
  refine ⟨fun j hj => ?_, ⟨by rw [up_n (by omega)]; exact h2, h3⟩, fun j hj i hi => ⟨by rw [up_n (by omega)]; exact (h4 j hj i hi).1, (h4 j hj i hi).2⟩, by rw [up_n (by omega)]; exact h5, h6, fun i hi => by rw [up_n (by omega)]; exact h7 i hi, h8⟩
  by_cases e : j = k
  · subst e
    show _ = nI (upr A j v j) ∧ upr A j v j < _
    rw [upr_s, up_s]
    exact ⟨rfl, hv⟩
  · show _ = nI (upr A k v j) ∧ upr A k v j < _
    rw [upr_n e, up_n (by omega)]
    exact h1 j hj
theorem RS.clr (h : RS b I (A, n, H, B)) : RS b (up2 I (ad b 566) 3 (nI 0)) (A, n, H, []) := by
  obtain ⟨h1, ⟨h2, h3⟩, h4, h5, h6, h7, h8⟩ := h
  exact ⟨fun j hj => by rw [up_n (by omega)]; exact h1 j hj, ⟨by rw [up_n (by omega)]; exact h2, h3⟩, fun j hj i hi => ⟨by rw [up_n (by omega)]; exact (h4 j hj i hi).1, (h4 j hj i hi).2⟩, up_s, Nat.zero_le _, fun k hk => absurd hk (Nat.not_lt_zero _), fun c hc => absurd hc List.not_mem_nil⟩
theorem l107a : ∀ d k I, k + d = 2838 → 473 ≤ k → I (ad b 566) 1 = nI 6 → (∀ I', (∀ j, k ≤ j + 473 → j + 473 < 2838 → I' (ad b 568) j = I (ad b 568) (j + 473)) → (∀ j, j + 473 < k → I' (ad b 568) j = I (ad b 568) j) → Ag pSv b I I' → I' (ad b 566) 1 = nI 6 → X z 107 42 [some (.ref (ad b 566)), some (.int (nI 2838))] [] (0, 0) (KAt KL b, I', RAt RL b q, L, sz, ex) Q) → X z 107 13 [some (.ref (ad b 566)), some (.int (nI k))] [] (0, 0) (KAt KL b, I, RAt RL b q, L, sz, ex) Q := by
  intro d
  induction d with
  | zero =>
    intro k I hk h4 m hQ
    have e : k = 2838 := by omega
    subst e
    rw [v107_13]
    simp (disch := omega) only [v107_14, v107_17, v107_20, v107_21, v107_24, v107_25, v107_28, v107_29, v107_30, v107_33, v107_34, v107_35, v107_36, v107_39, k_566, k_567, k_568, k_569, k_570, k_571, k_572, k_573, k_574, k_575, k_576, r_566_0, r_566_2, r_566_4, r_566_6, r_566_7, r_566_8, r_566_9, r_566_10, r_566_11, r_566_13, va_rf_s, n_cl, n_in_t, n_lt_t, n_lt_f, n_eq_t, n_eq_f, n_sub, nI_add, n_mul, ↓reduceIte, if_true, if_false, eq_self, true_or, or_true, and_self, and_true, true_and, Nat.reduceAdd, Nat.reduceMul, Nat.reduceLeDiff, Nat.zero_le, not_true_eq_false, not_false_eq_true, cat2_n, cat2_i, cat2_r, ws_0, ws_i, ws_r, ws_l, ws_d, aftr_n, aftr_s, bI_ok, bI_t, bI_f, up_s, up_n, n_bit, decide_true, decide_false, Bool.not_true, Bool.not_false, Bool.and_true, Bool.true_and, Bool.false_and, Bool.and_false]
    exact hQ I (fun j h1 h2 => by omega) (fun j h => rfl) Ag.rf m
  | succ d ih =>
    intro k I hk h4 m hQ
    rw [v107_13]
    simp (disch := omega) only [v107_14, v107_17, v107_20, v107_21, v107_24, v107_25, v107_28, v107_29, v107_30, v107_33, v107_34, v107_35, v107_36, v107_39, k_566, k_567, k_568, k_569, k_570, k_571, k_572, k_573, k_574, k_575, k_576, r_566_0, r_566_2, r_566_4, r_566_6, r_566_7, r_566_8, r_566_9, r_566_10, r_566_11, r_566_13, va_rf_s, n_cl, n_in_t, n_lt_t, n_lt_f, n_eq_t, n_eq_f, n_sub, nI_add, n_mul, ↓reduceIte, if_true, if_false, eq_self, true_or, or_true, and_self, and_true, true_and, Nat.reduceAdd, Nat.reduceMul, Nat.reduceLeDiff, Nat.zero_le, not_true_eq_false, not_false_eq_true, cat2_n, cat2_i, cat2_r, ws_0, ws_i, ws_r, ws_l, ws_d, aftr_n, aftr_s, bI_ok, bI_t, bI_f, up_s, up_n, n_bit, decide_true, decide_false, Bool.not_true, Bool.not_false, Bool.and_true, Bool.true_and, Bool.false_and, Bool.and_false]
    have a1 : Ag pSv b I (up2 I (ad b 568) (k - 473) (I (ad b 568) k)) := Ag.rf.up (Or.inl rfl)
    refine ih (k + 1) _ (by omega) (by omega) (by rw [up_n (by omega)]; exact m) (fun I2 q1 q2 q3 q4 => hQ I2 (fun j h1 h2 => ?_) (fun j h => ?_) (a1.tr q3) q4)
    · by_cases e : j + 473 = k
      · rw [q2 j (by omega), show j = k - 473 by omega, up_s, show k - 473 + 473 = k by omega]
      · rw [q1 j (by omega) h2, up_n (by omega)]
    · rw [q2 j (by omega), up_n (by omega)]
theorem l107b {n : Nat} (hn : n < 6) : ∀ d k I, k + d = 473 → I (ad b 566) 1 = nI n → (∀ I', (∀ j, k ≤ j → j < 473 → I' (ad b 568) (473 * n + j) = I (ad b 567) j) → (∀ j, ¬ (473 * n + k ≤ j ∧ j < 473 * n + 473) → I' (ad b 568) j = I (ad b 568) j) → Ag pSv b I I' → I' (ad b 566) 1 = nI n → X z 107 88 [some (.ref (ad b 566)), some (.int (nI 473))] [] (0, 0) (KAt KL b, I', RAt RL b q, L, sz, ex) Q) → X z 107 54 [some (.ref (ad b 566)), some (.int (nI k))] [] (0, 0) (KAt KL b, I, RAt RL b q, L, sz, ex) Q := by
  intro d
  induction d with
  | zero =>
    intro k I hk m hQ
    have e : k = 473 := by omega
    subst e
    rw [v107_54]
    simp (disch := omega) only [v107_55, v107_58, v107_61, v107_62, v107_65, v107_68, v107_69, v107_72, v107_73, v107_74, v107_75, v107_76, v107_79, v107_80, v107_81, v107_82, v107_85, k_566, k_567, k_568, k_569, k_570, k_571, k_572, k_573, k_574, k_575, k_576, r_566_0, r_566_2, r_566_4, r_566_6, r_566_7, r_566_8, r_566_9, r_566_10, r_566_11, r_566_13, va_rf_s, n_cl, n_in_t, n_lt_t, n_lt_f, n_eq_t, n_eq_f, n_sub, nI_add, n_mul, ↓reduceIte, if_true, if_false, eq_self, true_or, or_true, and_self, and_true, true_and, Nat.reduceAdd, Nat.reduceMul, Nat.reduceLeDiff, Nat.zero_le, not_true_eq_false, not_false_eq_true, cat2_n, cat2_i, cat2_r, ws_0, ws_i, ws_r, ws_l, ws_d, aftr_n, aftr_s, bI_ok, bI_t, bI_f, up_s, up_n, n_bit, decide_true, decide_false, Bool.not_true, Bool.not_false, Bool.and_true, Bool.true_and, Bool.false_and, Bool.and_false]
    exact hQ I (fun j h1 h2 => by omega) (fun j h => rfl) Ag.rf m
  | succ d ih =>
    intro k I hk m hQ
    rw [v107_54]
    simp (disch := omega) only [v107_55, v107_58, v107_61, v107_62, v107_65, v107_68, v107_69, v107_72, v107_73, v107_74, v107_75, v107_76, v107_79, v107_80, v107_81, v107_82, v107_85, k_566, k_567, k_568, k_569, k_570, k_571, k_572, k_573, k_574, k_575, k_576, r_566_0, r_566_2, r_566_4, r_566_6, r_566_7, r_566_8, r_566_9, r_566_10, r_566_11, r_566_13, va_rf_s, n_cl, n_in_t, n_lt_t, n_lt_f, n_eq_t, n_eq_f, n_sub, nI_add, n_mul, ↓reduceIte, if_true, if_false, eq_self, true_or, or_true, and_self, and_true, true_and, Nat.reduceAdd, Nat.reduceMul, Nat.reduceLeDiff, Nat.zero_le, not_true_eq_false, not_false_eq_true, cat2_n, cat2_i, cat2_r, ws_0, ws_i, ws_r, ws_l, ws_d, aftr_n, aftr_s, bI_ok, bI_t, bI_f, up_s, up_n, n_bit, decide_true, decide_false, Bool.not_true, Bool.not_false, Bool.and_true, Bool.true_and, Bool.false_and, Bool.and_false, m]
    have a1 : Ag pSv b I (up2 I (ad b 568) (473 * n + k) (I (ad b 567) k)) := Ag.rf.up (Or.inl rfl)
    refine ih (k + 1) _ (by omega) (by rw [up_n (by omega)]; exact m) (fun I2 q1 q2 q3 q4 => hQ I2 (fun j h1 h2 => ?_) (fun j h => ?_) (a1.tr q3) q4)
    · by_cases e : j = k
      · rw [q2 _ (by omega), e, up_s]
      · rw [q1 j (by omega) h2, up_n (by omega)]
    · rw [q2 j (by omega), up_n (by omega)]
theorem c107 (hs : RS b I (A, n, H, B)) (hQ : ∀ I', RS b I' (A, svN n, svH A n H, B) → Ag pSv b I I' → Q (.inl none) (KAt KL b, I', RAt RL b q, L, sz, ex)) : X z 107 0 [some (.ref (ad b 566)), none] [] (0, 0) (KAt KL b, I, RAt RL b q, L, sz, ex) Q := by
  obtain ⟨h1, ⟨h2, h3⟩, h4, h5, h6, h7, h8⟩ := id hs
  dsimp only at h2 h3 h4
  unfold svN svH at hQ
  by_cases e : n = 6
  · rw [if_pos e, if_pos e] at hQ
    subst e
    simp (disch := omega) only [v107_0, v107_1, v107_4, v107_6, v107_9, v107_12, k_566, k_567, k_568, k_569, k_570, k_571, k_572, k_573, k_574, k_575, k_576, r_566_0, r_566_2, r_566_4, r_566_6, r_566_7, r_566_8, r_566_9, r_566_10, r_566_11, r_566_13, va_rf_s, n_cl, n_in_t, n_lt_t, n_lt_f, n_eq_t, n_eq_f, n_sub, nI_add, n_mul, ↓reduceIte, if_true, if_false, eq_self, true_or, or_true, and_self, and_true, true_and, Nat.reduceAdd, Nat.reduceMul, Nat.reduceLeDiff, Nat.zero_le, not_true_eq_false, not_false_eq_true, cat2_n, cat2_i, cat2_r, ws_0, ws_i, ws_r, ws_l, ws_d, aftr_n, aftr_s, bI_ok, bI_t, bI_f, up_s, up_n, n_bit, decide_true, decide_false, Bool.not_true, Bool.not_false, Bool.and_true, Bool.true_and, Bool.false_and, Bool.and_false, h2]
    refine l107a 2365 473 I (by omega) (by omega) h2 (fun I1 q1 q2 q3 q4 => ?_)
    simp (disch := omega) only [v107_42, v107_43, v107_43i, v107_44, v107_47, v107_48, v107_49, v107_52, v107_53, k_566, k_567, k_568, k_569, k_570, k_571, k_572, k_573, k_574, k_575, k_576, r_566_0, r_566_2, r_566_4, r_566_6, r_566_7, r_566_8, r_566_9, r_566_10, r_566_11, r_566_13, va_rf_s, n_cl, n_in_t, n_lt_t, n_lt_f, n_eq_t, n_eq_f, n_sub, nI_add, n_mul, ↓reduceIte, if_true, if_false, eq_self, true_or, or_true, and_self, and_true, true_and, Nat.reduceAdd, Nat.reduceMul, Nat.reduceLeDiff, Nat.zero_le, not_true_eq_false, not_false_eq_true, cat2_n, cat2_i, cat2_r, ws_0, ws_i, ws_r, ws_l, ws_d, aftr_n, aftr_s, bI_ok, bI_t, bI_f, up_s, up_n, n_bit, decide_true, decide_false, Bool.not_true, Bool.not_false, Bool.and_true, Bool.true_and, Bool.false_and, Bool.and_false, q4]
    refine l107b (n := 5) (by omega) 473 0 _ (by omega) up_s (fun I2 q5 q6 q7 q8 => ?_)
    simp (disch := omega) only [v107_88, v107_89, v107_89i, v107_90, v107_93, v107_94, v107_95, v107_98, k_566, k_567, k_568, k_569, k_570, k_571, k_572, k_573, k_574, k_575, k_576, r_566_0, r_566_2, r_566_4, r_566_6, r_566_7, r_566_8, r_566_9, r_566_10, r_566_11, r_566_13, va_rf_s, n_cl, n_in_t, n_lt_t, n_lt_f, n_eq_t, n_eq_f, n_sub, nI_add, n_mul, ↓reduceIte, if_true, if_false, eq_self, true_or, or_true, and_self, and_true, true_and, Nat.reduceAdd, Nat.reduceMul, Nat.reduceLeDiff, Nat.zero_le, not_true_eq_false, not_false_eq_true, cat2_n, cat2_i, cat2_r, ws_0, ws_i, ws_r, ws_l, ws_d, aftr_n, aftr_s, bI_ok, bI_t, bI_f, up_s, up_n, n_bit, decide_true, decide_false, Bool.not_true, Bool.not_false, Bool.and_true, Bool.true_and, Bool.false_and, Bool.and_false, q8]
    have a1 := (q3.up (o := 566) (j := 1) (v := nI 5) (Or.inr ⟨rfl, rfl⟩)).tr q7
    have a2 := a1.up (o := 566) (j := 1) (v := nI 6) (Or.inr ⟨rfl, rfl⟩)
    have kz : ∀ {o j}, o ≠ 568 ∧ o ≠ 566 → up2 I2 (ad b 566) 1 (nI 6) (ad b o) j = I (ad b o) j := fun h => a2.at (fun x => by unfold pSv at x; omega)
    refine hQ _ ⟨fun k hk => ⟨(kz (by omega)).trans (h1 k hk).1, (h1 k hk).2⟩, ⟨up_s, Nat.le_refl _⟩, fun j hj k hk => ?_, (a2.at (fun x => by unfold pSv at x; omega)).trans h5, h6, fun k hk => (kz (by omega)).trans (h7 k hk), h8⟩ a2
    dsimp only at hj ⊢
    rw [up_n (by omega)]
    by_cases ej : j = 5
    · rw [if_pos ej, ej, q5 k (by omega) hk, up_n (by omega), q3.at (fun x => by unfold pSv at x; omega)]
      exact h1 k hk
    · rw [if_neg ej, q6 _ (by omega), up_n (by omega), q1 _ (by omega) (by omega), show 473 * j + k + 473 = 473 * (j + 1) + k by omega]
      exact h4 (j + 1) (by omega) k hk
  · rw [if_neg e, if_neg e] at hQ
    simp (disch := omega) only [v107_0, v107_1, v107_4, v107_6, v107_9, v107_12, v107_13, v107_14, v107_17, v107_20, v107_21, v107_24, v107_25, v107_28, v107_29, v107_30, v107_33, v107_34, v107_35, v107_36, v107_39, v107_42, v107_43, v107_43i, v107_44, v107_47, v107_48, v107_49, v107_52, v107_53, k_566, k_567, k_568, k_569, k_570, k_571, k_572, k_573, k_574, k_575, k_576, r_566_0, r_566_2, r_566_4, r_566_6, r_566_7, r_566_8, r_566_9, r_566_10, r_566_11, r_566_13, va_rf_s, n_cl, n_in_t, n_lt_t, n_lt_f, n_eq_t, n_eq_f, n_sub, nI_add, n_mul, ↓reduceIte, if_true, if_false, eq_self, true_or, or_true, and_self, and_true, true_and, Nat.reduceAdd, Nat.reduceMul, Nat.reduceLeDiff, Nat.zero_le, not_true_eq_false, not_false_eq_true, cat2_n, cat2_i, cat2_r, ws_0, ws_i, ws_r, ws_l, ws_d, aftr_n, aftr_s, bI_ok, bI_t, bI_f, up_s, up_n, n_bit, decide_true, decide_false, Bool.not_true, Bool.not_false, Bool.and_true, Bool.true_and, Bool.false_and, Bool.and_false, h2]
    refine l107b (n := n) (by omega) 473 0 _ (by omega) h2 (fun I2 q5 q6 q7 q8 => ?_)
    simp (disch := omega) only [v107_88, v107_89, v107_89i, v107_90, v107_93, v107_94, v107_95, v107_98, k_566, k_567, k_568, k_569, k_570, k_571, k_572, k_573, k_574, k_575, k_576, r_566_0, r_566_2, r_566_4, r_566_6, r_566_7, r_566_8, r_566_9, r_566_10, r_566_11, r_566_13, va_rf_s, n_cl, n_in_t, n_lt_t, n_lt_f, n_eq_t, n_eq_f, n_sub, nI_add, n_mul, ↓reduceIte, if_true, if_false, eq_self, true_or, or_true, and_self, and_true, true_and, Nat.reduceAdd, Nat.reduceMul, Nat.reduceLeDiff, Nat.zero_le, not_true_eq_false, not_false_eq_true, cat2_n, cat2_i, cat2_r, ws_0, ws_i, ws_r, ws_l, ws_d, aftr_n, aftr_s, bI_ok, bI_t, bI_f, up_s, up_n, n_bit, decide_true, decide_false, Bool.not_true, Bool.not_false, Bool.and_true, Bool.true_and, Bool.false_and, Bool.and_false, q8]
    have a2 := q7.up (o := 566) (j := 1) (v := nI (n + 1)) (Or.inr ⟨rfl, rfl⟩)
    have kz : ∀ {o j}, o ≠ 568 ∧ o ≠ 566 → up2 I2 (ad b 566) 1 (nI (n + 1)) (ad b o) j = I (ad b o) j := fun h => a2.at (fun x => by unfold pSv at x; omega)
    refine hQ _ ⟨fun k hk => ⟨(kz (by omega)).trans (h1 k hk).1, (h1 k hk).2⟩, ⟨up_s, by show n + 1 ≤ 6; omega⟩, fun j hj k hk => ?_, (a2.at (fun x => by unfold pSv at x; omega)).trans h5, h6, fun k hk => (kz (by omega)).trans (h7 k hk), h8⟩ a2
    dsimp only at hj ⊢
    rw [up_n (by omega)]
    by_cases ej : j = n
    · rw [if_pos ej, ej, q5 k (by omega) hk]
      exact h1 k hk
    · rw [if_neg ej, q6 _ (by omega)]
      exact h4 j (by omega) k hk
theorem pSv_r : ∀ o j, pSv o j → pRef o j := fun o j h => by unfold pSv at h; unfold pRef; omega
theorem pThr_r : ∀ o j, pThr o j → pRef o j := fun o j h => by unfold pThr at h; unfold pRef; omega
theorem pScr_r : ∀ o j, pScr o j → pRef o j := fun o j h => by unfold pScr at h; unfold pRef; omega
theorem n_m32 (a : Nat) : nI (a % 4294967296) = nI a := Int32.toBitVec_inj.mp (by rw [nI_bv, nI_bv]; apply BitVec.eq_of_toNat_eq; rw [BitVec.toNat_ofNat, BitVec.toNat_ofNat]; omega)
end RJ
