/-! THE CLASS: its saved states -/
theorem elC_24 : elC 24 = 108 := rfl
theorem elC_22 : elC 22 = 102 := rfl
def QK (q : Nat → Nat) : Prop := (∀ j, j < 6 → isS (q j) ∧ q j ≠ 1) ∧ ∀ j k, j < 6 → k < 6 → q j = q k → j = k
/-- the saved states in their blocks -/
def HS (b : Nat) (I : Nat → Nat → Int32) (q : Nat → Nat) (n : Nat) (H : Nat → Row) : Prop := (I (ad b 67) 1 = nI n ∧ n ≤ 6) ∧ ∀ j, j < n → SR b I (q j) (H j)
def shf : Nat → Nat → (Nat → Nat) → Nat → Nat
  | _, 0, q => q
  | i, d + 1, q => shf (i + 1) d (fun j => if j = i - 1 then q i else q j)
theorem shf_v {q : Nat → Nat} {j : Nat} (hj : j < 5) : shf 1 5 q j = q (j + 1) := by
  rcases (show j = 0 ∨ j = 1 ∨ j = 2 ∨ j = 3 ∨ j = 4 by omega) with rfl | rfl | rfl | rfl | rfl <;> rfl
def rot (q : Nat → Nat) : Nat → Nat := fun j => if j = 5 then q 0 else shf 1 5 q j
theorem rot_5 {q : Nat → Nat} : rot q 5 = q 0 := rfl
theorem rot_l {q : Nat → Nat} {j : Nat} (hj : j < 5) : rot q j = q (j + 1) := by unfold rot; rw [if_neg (by omega), shf_v hj]
theorem QK.rt {q : Nat → Nat} (h : QK q) : QK (rot q) := by
  have key : ∀ j, j < 6 → ∃ k, k < 6 ∧ rot q j = q k ∧ (k = 0 ∧ j = 5 ∨ k = j + 1 ∧ j < 5) := fun j hj => by
    by_cases e : j = 5
    · exact ⟨0, by omega, by rw [e]; rfl, Or.inl ⟨rfl, e⟩⟩
    · exact ⟨j + 1, by omega, rot_l (j := j) (by omega), Or.inr ⟨rfl, by omega⟩⟩
  refine ⟨fun j hj => ?_, fun j k hj hk he => ?_⟩
  · obtain ⟨k, hk, e, -⟩ := key j hj
    rw [e]; exact h.1 k hk
  · obtain ⟨j', hj', e1, c1⟩ := key j hj
    obtain ⟨k', hk', e2, c2⟩ := key k hk
    have := h.2 j' k' hj' hk' (by rw [← e1, ← e2, he])
    omega
theorem QK.sep {q : Nat → Nat} (h : QK q) {j : Nat} (hj : j < 6) : 69 ≤ q j ∧ q j + 66 ≤ 465 := by
  obtain ⟨h1, h2⟩ := h.1 j hj
  rcases h1 with h1 | ⟨i, hi, h1⟩ <;> omega
theorem QK.ap {q : Nat → Nat} (h : QK q) {j k : Nat} (hj : j < 6) (hk : k < 6) (hne : j ≠ k) : q j + 66 ≤ q k ∨ q k + 66 ≤ q j := isS_apart (h.1 j hj).1 (h.1 k hk).1 (fun e => hne (h.2 j k hj hk e))
def pKp (o _j : Nat) : Prop := o = 67 ∨ (69 ≤ o ∧ o < 465)
section CC
variable {z : P0} {KL : Nat → Nat × Nat} {RL : Nat → Nat → Option Nat} {q : Nat → Nat} {b : Nat} {I : Nat → Nat → Int32} {L : Nat → Nat → Int64} {sz : Nat} {ex : Bool} {Q : Res → Mem → Prop} {A : Row}
variable {n : Nat} {H : Nat → Row}
theorem l26 {old : Nat} (hold : isS old) : ∀ d i q, i + d = 6 → 1 ≤ i → (∀ j, j < 6 → isS (q j)) → X z 26 9 [some (.ref (ad b 67)), some (.ref (ad b old)), some (.int (nI i))] [] (0, 0) (KAt KL b, I, RAt RL b (q), L, sz, ex) Q = X z 26 35 [some (.ref (ad b 67)), some (.ref (ad b old)), some (.int (nI 6))] [] (0, 0) (KAt KL b, I, RAt RL b (shf i d q), L, sz, ex) Q := by
  intro d
  induction d with
  | zero =>
    intro i q hi h1 hq
    have e : i = 6 := by omega
    subst e
    rw [v26_9]
    simp (disch := omega) only [v26_10, v26_12, v26_15, v26_16, v26_19, v26_20, v26_21, v26_22, v26_23, v26_26, v26_27, v26_28, v26_29, v26_32, n_cl, n_in_t, n_lt_t, n_lt_f, n_eq_t, n_eq_f, n_sub, nI_add, n_mul, n_01, ↓reduceIte, if_true, if_false, eq_self, true_or, or_true, and_self, and_true, true_and, Nat.reduceAdd, Nat.reduceMul, Nat.reduceLeDiff, Nat.zero_le, not_true_eq_false, not_false_eq_true, cat2_n, cat2_i, cat2_r, ws_0, ws_i, ws_r, ws_l, ws_d, aftr_n, aftr_s, bI_ok, bI_t, bI_f, up_s, up_n, n_bit, decide_true, decide_false, Bool.not_true, Bool.not_false, Bool.and_true, Bool.true_and, Bool.false_and, Bool.and_false, va_rf_s, n_nlt0, k_0, k_67, k_68, k_465, k_466, k_467, k_468, k_469, k_470, k_471, k_472, k_565, r_0_0, r_0_1, r_0_2, r_0_3, r_0_4, r_0_5, r_67_0, r_465_0, r_467_0, r_467_2, r_470_0, r_470_1, va_rf_s, n_neg_t, n_neg_f]
    rfl
  | succ d ih =>
    intro i q hi h1 hq
    have hs := hq i (by omega)
    rw [v26_9]
    simp (disch := omega) only [v26_10, v26_12, v26_15, v26_16, v26_19, v26_20, v26_21, v26_22, v26_23, v26_26, v26_27, v26_28, v26_29, v26_32, n_cl, n_in_t, n_lt_t, n_lt_f, n_eq_t, n_eq_f, n_sub, nI_add, n_mul, n_01, ↓reduceIte, if_true, if_false, eq_self, true_or, or_true, and_self, and_true, true_and, Nat.reduceAdd, Nat.reduceMul, Nat.reduceLeDiff, Nat.zero_le, not_true_eq_false, not_false_eq_true, cat2_n, cat2_i, cat2_r, ws_0, ws_i, ws_r, ws_l, ws_d, aftr_n, aftr_s, bI_ok, bI_t, bI_f, up_s, up_n, n_bit, decide_true, decide_false, Bool.not_true, Bool.not_false, Bool.and_true, Bool.true_and, Bool.false_and, Bool.and_false, va_rf_s, n_nlt0, k_0, k_67, k_68, k_465, k_466, k_467, k_468, k_469, k_470, k_471, k_472, k_565, r_0_0, r_0_1, r_0_2, r_0_3, r_0_4, r_0_5, r_67_0, r_465_0, r_467_0, r_467_2, r_470_0, r_470_1, va_rf_s, n_neg_t, n_neg_f, k_0, k_67, k_68, k_465, k_466, k_467, k_468, k_469, k_470, k_471, k_472, k_565, r_0_0, r_0_1, r_0_2, r_0_3, r_0_4, r_0_5, r_67_0, r_465_0, r_467_0, r_467_2, r_470_0, r_470_1, va_rf_s, r68, kS0 hs, elC_24, rw_up]
    rw [ih (i + 1) _ (by omega) (by omega) (fun j hj => by split; exact hs; exact hq j hj)]
    rfl
theorem c26 (hq : QK q) : X z 26 0 [some (.ref (ad b 67)), none, none] [] (0, 0) (KAt KL b, I, RAt RL b q, L, sz, ex) Q = Q (.inl none) (KAt KL b, up2 I (ad b 67) 1 (nI 5), RAt RL b (rot q), L, sz, ex) := by
  have hs := (hq.1 0 (by omega)).1
  simp (disch := omega) only [v26_0, v26_1, v26_4, v26_5, v26_6, v26_7, v26_8, n_cl, n_in_t, n_lt_t, n_lt_f, n_eq_t, n_eq_f, n_sub, nI_add, n_mul, n_01, ↓reduceIte, if_true, if_false, eq_self, true_or, or_true, and_self, and_true, true_and, Nat.reduceAdd, Nat.reduceMul, Nat.reduceLeDiff, Nat.zero_le, not_true_eq_false, not_false_eq_true, cat2_n, cat2_i, cat2_r, ws_0, ws_i, ws_r, ws_l, ws_d, aftr_n, aftr_s, bI_ok, bI_t, bI_f, up_s, up_n, n_bit, decide_true, decide_false, Bool.not_true, Bool.not_false, Bool.and_true, Bool.true_and, Bool.false_and, Bool.and_false, va_rf_s, n_nlt0, k_0, k_67, k_68, k_465, k_466, k_467, k_468, k_469, k_470, k_471, k_472, k_565, r_0_0, r_0_1, r_0_2, r_0_3, r_0_4, r_0_5, r_67_0, r_465_0, r_467_0, r_467_2, r_470_0, r_470_1, va_rf_s, n_neg_t, n_neg_f, k_0, k_67, k_68, k_465, k_466, k_467, k_468, k_469, k_470, k_471, k_472, k_565, r_0_0, r_0_1, r_0_2, r_0_3, r_0_4, r_0_5, r_67_0, r_465_0, r_467_0, r_467_2, r_470_0, r_470_1, va_rf_s, r68, l26 hs 5 1 q (by omega) (by omega) (fun j hj => (hq.1 j hj).1), v26_35, v26_36, v26_39, v26_40, v26_41, v26_42, v26_43, v26_44, v26_47, kS0 hs, elC_24, rw_up]
  rfl
set_option maxHeartbeats 4000000 in
/-- History.keep -/
theorem c24 (hq : QK q) (hg : Good A) (hgH : ∀ j, j < n → Good (H j)) (h : SR b I sN A) (hh : HS b I q n H) (hQ : ∀ I' q', QK q' → SR b I' sN A → HS b I' q' (svN n) (svH A n H) → Ag pKp b I I' → Q (.inl none) (KAt KL b, I', RAt RL b (q'), L, sz, ex)) : X z 24 0 [some (.ref (ad b 67)), some (.ref (ad b sN))] [] (0, 0) (KAt KL b, I, RAt RL b q, L, sz, ex) Q := by
  have h6 := hg.1.1
  have h7 := hg.1.2.1
  obtain ⟨⟨m1, mn⟩, hst⟩ := hh
  have sn : sN = 1 := rfl
  unfold svN svH at hQ
  by_cases e : n = 6
  · subst e
    rw [if_pos rfl, if_pos rfl] at hQ
    simp (disch := omega) only [v24_0, v24_1, v24_4, v24_6, v24_9, u24_10, n_cl, n_in_t, n_lt_t, n_lt_f, n_eq_t, n_eq_f, n_sub, nI_add, n_mul, n_01, ↓reduceIte, if_true, if_false, eq_self, true_or, or_true, and_self, and_true, true_and, Nat.reduceAdd, Nat.reduceMul, Nat.reduceLeDiff, Nat.zero_le, not_true_eq_false, not_false_eq_true, cat2_n, cat2_i, cat2_r, ws_0, ws_i, ws_r, ws_l, ws_d, aftr_n, aftr_s, bI_ok, bI_t, bI_f, up_s, up_n, n_bit, decide_true, decide_false, Bool.not_true, Bool.not_false, Bool.and_true, Bool.true_and, Bool.false_and, Bool.and_false, va_rf_s, n_nlt0, k_0, k_67, k_68, k_465, k_466, k_467, k_468, k_469, k_470, k_471, k_472, k_565, r_0_0, r_0_1, r_0_2, r_0_3, r_0_4, r_0_5, r_67_0, r_465_0, r_467_0, r_467_2, r_470_0, r_470_1, va_rf_s, n_neg_t, n_neg_f, k_0, k_67, k_68, k_465, k_466, k_467, k_468, k_469, k_470, k_471, k_472, k_565, r_0_0, r_0_1, r_0_2, r_0_3, r_0_4, r_0_5, r_67_0, r_465_0, r_467_0, r_467_2, r_470_0, r_470_1, va_rf_s, m1, c26 hq]
    have hr := hq.rt
    have ht := hr.1 5 (by omega)
    have a1 : Ag (fun o _ => o = 67) b I (up2 I (ad b 67) 1 (nI 5)) := Ag.rf.up rfl
    simp (disch := omega) only [v24_13, v24_14, v24_17, v24_18, v24_21, v24_22, u24_23, n_cl, n_in_t, n_lt_t, n_lt_f, n_eq_t, n_eq_f, n_sub, nI_add, n_mul, n_01, ↓reduceIte, if_true, if_false, eq_self, true_or, or_true, and_self, and_true, true_and, Nat.reduceAdd, Nat.reduceMul, Nat.reduceLeDiff, Nat.zero_le, not_true_eq_false, not_false_eq_true, cat2_n, cat2_i, cat2_r, ws_0, ws_i, ws_r, ws_l, ws_d, aftr_n, aftr_s, bI_ok, bI_t, bI_f, up_s, up_n, n_bit, decide_true, decide_false, Bool.not_true, Bool.not_false, Bool.and_true, Bool.true_and, Bool.false_and, Bool.and_false, va_rf_s, n_nlt0, k_0, k_67, k_68, k_465, k_466, k_467, k_468, k_469, k_470, k_471, k_472, k_565, r_0_0, r_0_1, r_0_2, r_0_3, r_0_4, r_0_5, r_67_0, r_465_0, r_467_0, r_467_2, r_470_0, r_470_1, va_rf_s, n_neg_t, n_neg_f, k_0, k_67, k_68, k_465, k_466, k_467, k_468, k_469, k_470, k_471, k_472, k_565, r_0_0, r_0_1, r_0_2, r_0_3, r_0_4, r_0_5, r_67_0, r_465_0, r_467_0, r_467_2, r_470_0, r_470_1, va_rf_s, r68, kS0 ht.1]
    refine c48 ht.1 isS_N (fun x => ht.2 (x.trans sn)) hg (h.ag h6 h7 a1 (fun o j x y z => by omega)) (fun I1 g1 g2 => ?_)
    have sp := hr.sep (j := 5) (by omega)
    have m2 : I1 (ad b 67) 1 = nI 5 := (g2.at (fun x => by unfold pBl at x; omega)).trans up_s
    simp (disch := omega) only [v24_26, v24_27, v24_27i, v24_28, v24_31, v24_32, v24_33, v24_36, n_cl, n_in_t, n_lt_t, n_lt_f, n_eq_t, n_eq_f, n_sub, nI_add, n_mul, n_01, ↓reduceIte, if_true, if_false, eq_self, true_or, or_true, and_self, and_true, true_and, Nat.reduceAdd, Nat.reduceMul, Nat.reduceLeDiff, Nat.zero_le, not_true_eq_false, not_false_eq_true, cat2_n, cat2_i, cat2_r, ws_0, ws_i, ws_r, ws_l, ws_d, aftr_n, aftr_s, bI_ok, bI_t, bI_f, up_s, up_n, n_bit, decide_true, decide_false, Bool.not_true, Bool.not_false, Bool.and_true, Bool.true_and, Bool.false_and, Bool.and_false, va_rf_s, n_nlt0, k_0, k_67, k_68, k_465, k_466, k_467, k_468, k_469, k_470, k_471, k_472, k_565, r_0_0, r_0_1, r_0_2, r_0_3, r_0_4, r_0_5, r_67_0, r_465_0, r_467_0, r_467_2, r_470_0, r_470_1, va_rf_s, n_neg_t, n_neg_f, k_0, k_67, k_68, k_465, k_466, k_467, k_468, k_469, k_470, k_471, k_472, k_565, r_0_0, r_0_1, r_0_2, r_0_3, r_0_4, r_0_5, r_67_0, r_465_0, r_467_0, r_467_2, r_470_0, r_470_1, va_rf_s, m2]
    have a2 : Ag pKp b I (up2 I1 (ad b 67) 1 (nI 6)) := ((a1.mn (P' := pKp) (fun _ _ x => Or.inl x)).tr (g2.mn (fun o j x => by unfold pBl at x; unfold pKp; omega))).up (Or.inl rfl)
    have a3 : Ag (fun o _ => o = 67) b I1 (up2 I1 (ad b 67) 1 (nI 6)) := Ag.rf.up rfl
    refine hQ _ _ hr (h.ag h6 h7 a2 (fun o j x y z => by unfold pKp at z; omega)) ⟨⟨up_s, Nat.le_refl _⟩, fun j hj => ?_⟩ a2
    dsimp only
    by_cases ej : j = 5
    · rw [if_pos ej, ej]
      exact g1.ag h6 h7 a3 (fun o j x y z => by omega)
    · rw [if_neg ej, rot_l (by omega)]
      have h3 := hst (j + 1) (by omega)
      have gj := hgH (j + 1) (by omega)
      have sp2 := hq.sep (j := j + 1) (by omega)
      have ap := hr.ap (j := 5) (k := j) (by omega) (by omega) (fun x => ej x.symm)
      rw [rot_l (j := j) (by omega)] at ap
      exact ((h3.ag gj.1.1 gj.1.2.1 a1 (fun o j x y z => by omega)).ag gj.1.1 gj.1.2.1 g2 (fun o j x y z => by unfold pBl at z; omega)).ag gj.1.1 gj.1.2.1 a3 (fun o j x y z => by omega)
  · rw [if_neg e, if_neg e] at hQ
    have ht := hq.1 n (by omega)
    simp (disch := omega) only [v24_0, v24_1, v24_4, v24_6, v24_9, u24_10, v24_13, v24_14, v24_17, v24_18, v24_21, v24_22, u24_23, n_cl, n_in_t, n_lt_t, n_lt_f, n_eq_t, n_eq_f, n_sub, nI_add, n_mul, n_01, ↓reduceIte, if_true, if_false, eq_self, true_or, or_true, and_self, and_true, true_and, Nat.reduceAdd, Nat.reduceMul, Nat.reduceLeDiff, Nat.zero_le, not_true_eq_false, not_false_eq_true, cat2_n, cat2_i, cat2_r, ws_0, ws_i, ws_r, ws_l, ws_d, aftr_n, aftr_s, bI_ok, bI_t, bI_f, up_s, up_n, n_bit, decide_true, decide_false, Bool.not_true, Bool.not_false, Bool.and_true, Bool.true_and, Bool.false_and, Bool.and_false, va_rf_s, n_nlt0, k_0, k_67, k_68, k_465, k_466, k_467, k_468, k_469, k_470, k_471, k_472, k_565, r_0_0, r_0_1, r_0_2, r_0_3, r_0_4, r_0_5, r_67_0, r_465_0, r_467_0, r_467_2, r_470_0, r_470_1, va_rf_s, n_neg_t, n_neg_f, k_0, k_67, k_68, k_465, k_466, k_467, k_468, k_469, k_470, k_471, k_472, k_565, r_0_0, r_0_1, r_0_2, r_0_3, r_0_4, r_0_5, r_67_0, r_465_0, r_467_0, r_467_2, r_470_0, r_470_1, va_rf_s, m1, r68, kS0 ht.1]
    refine c48 ht.1 isS_N (fun x => ht.2 (x.trans sn)) hg h (fun I1 g1 g2 => ?_)
    have sp := hq.sep (j := n) (by omega)
    have m2 : I1 (ad b 67) 1 = nI n := (g2.at (fun x => by unfold pBl at x; omega)).trans m1
    simp (disch := omega) only [v24_26, v24_27, v24_27i, v24_28, v24_31, v24_32, v24_33, v24_36, n_cl, n_in_t, n_lt_t, n_lt_f, n_eq_t, n_eq_f, n_sub, nI_add, n_mul, n_01, ↓reduceIte, if_true, if_false, eq_self, true_or, or_true, and_self, and_true, true_and, Nat.reduceAdd, Nat.reduceMul, Nat.reduceLeDiff, Nat.zero_le, not_true_eq_false, not_false_eq_true, cat2_n, cat2_i, cat2_r, ws_0, ws_i, ws_r, ws_l, ws_d, aftr_n, aftr_s, bI_ok, bI_t, bI_f, up_s, up_n, n_bit, decide_true, decide_false, Bool.not_true, Bool.not_false, Bool.and_true, Bool.true_and, Bool.false_and, Bool.and_false, va_rf_s, n_nlt0, k_0, k_67, k_68, k_465, k_466, k_467, k_468, k_469, k_470, k_471, k_472, k_565, r_0_0, r_0_1, r_0_2, r_0_3, r_0_4, r_0_5, r_67_0, r_465_0, r_467_0, r_467_2, r_470_0, r_470_1, va_rf_s, n_neg_t, n_neg_f, k_0, k_67, k_68, k_465, k_466, k_467, k_468, k_469, k_470, k_471, k_472, k_565, r_0_0, r_0_1, r_0_2, r_0_3, r_0_4, r_0_5, r_67_0, r_465_0, r_467_0, r_467_2, r_470_0, r_470_1, va_rf_s, m2]
    have a2 : Ag pKp b I (up2 I1 (ad b 67) 1 (nI (n + 1))) := (g2.mn (fun o j x => by unfold pBl at x; unfold pKp; omega)).up (Or.inl rfl)
    have a3 : Ag (fun o _ => o = 67) b I1 (up2 I1 (ad b 67) 1 (nI (n + 1))) := Ag.rf.up rfl
    refine hQ _ _ hq (h.ag h6 h7 a2 (fun o j x y z => by unfold pKp at z; omega)) ⟨⟨up_s, by omega⟩, fun j hj => ?_⟩ a2
    dsimp only
    by_cases ej : j = n
    · rw [if_pos ej, ej]
      exact g1.ag h6 h7 a3 (fun o j x y z => by omega)
    · rw [if_neg ej]
      have h3 := hst j (by omega)
      have gj := hgH j (by omega)
      have sp2 := hq.sep (j := j) (by omega)
      have ap := hq.ap (j := n) (k := j) (by omega) (by omega) (fun x => ej x.symm)
      exact (h3.ag gj.1.1 gj.1.2.1 g2 (fun o j x y z => by unfold pBl at z; omega)).ag gj.1.1 gj.1.2.1 a3 (fun o j x y z => by omega)
def pRs (o _j : Nat) : Prop := o = 67 ∨ (1 ≤ o ∧ o < 67)
end CC
