/-! THE LAW: the loop -/
section LF
variable {z : P0} {KL : Nat → Nat × Nat} {RL : Nat → Nat → Option Nat} {q : Nat → Nat} {b : Nat} {I : Nat → Nat → Int32} {L : Nat → Nat → Int64} {sz : Nat} {ex : Bool} {Q : Res → Mem → Prop} {A : Row}
theorem l214 {y len : Nat} (y1 : y < b) (y2 : KL y = (50, len)) (hl : len ≤ 2400000) (hQ : ∀ σ, Q (.inl (some (.int (nI 1)))) σ) : ∀ d k I q L ex cc cn w (x5 x6 x7 x8 : Option Value), len ≤ 4 * k + 4 * d → 4 * k ≤ len + 3 → cc ≤ k + 600 → cn ≤ 6 * k + 20000 → WD KL RL z b I q w → X z 214 23 [some (.ref y), some (.ref (ad b 0)), some (.ref (ad b 566)), some (.ref (ad b 577)), some (.int (nI (4 * k))), x5, x6, x7, x8] [] (cc, cn) (KAt KL b, I, RAt RL b q, L, sz, ex) Q := by
  have ky := (kw_lo (KL := KL) y1).trans y2
  have ia : (isArr 50 = true) = True := eq_true rfl
  have ex0 : ∀ k I q L ex cc cn (x5 x6 x7 x8 : Option Value), len < 4 * k + 4 → 4 * k ≤ len + 3 → X z 214 23 [some (.ref y), some (.ref (ad b 0)), some (.ref (ad b 566)), some (.ref (ad b 577)), some (.int (nI (4 * k))), x5, x6, x7, x8] [] (cc, cn) (KAt KL b, I, RAt RL b q, L, sz, ex) Q := by
    intro k I q L ex cc cn x5 x6 x7 x8 h1 h2
    rw [v214_23]
    by_cases h4 : 4 ≤ len
    · simp (disch := omega) only [v214_25, v214_26, v214_27, v214_28, v214_29, v214_1604, v214_1605, n_cl, n_in_t, n_lt_t, n_lt_f, n_eq_t, n_eq_f, n_sub, nI_add, n_mul, n_01, ↓reduceIte, if_true, if_false, eq_self, true_or, or_true, and_self, and_true, true_and, Nat.reduceAdd, Nat.reduceMul, Nat.reduceLeDiff, Nat.zero_le, not_true_eq_false, not_false_eq_true, cat2_n, cat2_i, cat2_r, ws_0, ws_i, ws_r, ws_l, ws_d, aftr_n, aftr_s, bI_ok, bI_t, bI_f, up_s, up_n, n_bit, decide_true, decide_false, Bool.not_true, Bool.not_false, Bool.and_true, Bool.true_and, Bool.false_and, Bool.and_false, va_rf_s, n_nlt0, k_0, k_67, k_68, k_465, k_466, k_467, k_468, k_469, k_470, k_471, k_472, k_565, r_0_0, r_0_1, r_0_2, r_0_3, r_0_4, r_0_5, r_67_0, r_465_0, r_467_0, r_467_2, r_470_0, r_470_1, va_rf_s, n_neg_t, n_neg_f, k_0, k_67, k_68, k_465, k_466, k_467, k_468, k_469, k_470, k_471, k_472, k_565, r_0_0, r_0_1, r_0_2, r_0_3, r_0_4, r_0_5, r_67_0, r_465_0, r_467_0, r_467_2, r_470_0, r_470_1, va_rf_s, ky, ia]
      exact hQ _
    · have hk : k = 0 ∨ k = 1 := by omega
      rcases (show len = 0 ∨ len = 1 ∨ len = 2 ∨ len = 3 by omega) with rfl | rfl | rfl | rfl <;> rcases hk with rfl | rfl <;> first
        | omega
        | (simp (disch := first | omega | decide) only [v214_25, v214_26, v214_27, v214_28, v214_29, v214_1604, v214_1605, n_cl, ky, ia, true_and, Nat.mul_zero, Nat.mul_one]
           rw [if_pos (by decide)]
           simp (disch := omega) only [v214_1604, v214_1605, n_cl, n_in_t, n_lt_t, n_lt_f, n_eq_t, n_eq_f, n_sub, nI_add, n_mul, n_01, ↓reduceIte, if_true, if_false, eq_self, true_or, or_true, and_self, and_true, true_and, Nat.reduceAdd, Nat.reduceMul, Nat.reduceLeDiff, Nat.zero_le, not_true_eq_false, not_false_eq_true, cat2_n, cat2_i, cat2_r, ws_0, ws_i, ws_r, ws_l, ws_d, aftr_n, aftr_s, bI_ok, bI_t, bI_f, up_s, up_n, n_bit, decide_true, decide_false, Bool.not_true, Bool.not_false, Bool.and_true, Bool.true_and, Bool.false_and, Bool.and_false, va_rf_s, n_nlt0, k_0, k_67, k_68, k_465, k_466, k_467, k_468, k_469, k_470, k_471, k_472, k_565, r_0_0, r_0_1, r_0_2, r_0_3, r_0_4, r_0_5, r_67_0, r_465_0, r_467_0, r_467_2, r_470_0, r_470_1, va_rf_s, n_neg_t, n_neg_f]
           exact hQ _)
  intro d
  induction d with
  | zero => intro k I q L ex cc cn w x5 x6 x7 x8 h1 h2 _ _ _; exact ex0 k I q L ex cc cn x5 x6 x7 x8 (by omega) h2
  | succ d ih =>
    intro k I q L ex cc cn w x5 x6 x7 x8 h1 h2 hc hn hW
    obtain ⟨A, n, H, B⟩ := w
    by_cases he : len < 4 * k + 4
    · exact ex0 k I q L ex cc cn x5 x6 x7 x8 he h2
    obtain ⟨a, ha, ea⟩ := int_n (I y (4 * k))
    have hy : SCR KL b y len (4 * k) := ⟨y1, y2, by omega, by omega⟩
    have nx : ∀ w, NX Q KL RL z b I sz y (4 * k) cc cn w := by
      intro w I' q' L' ex' x5 x6 x7 x8 c' n' hc' hn' hW' hlo
      simp (disch := omega) only [v214_1598, v214_1601, n_cl, n_in_t, n_lt_t, n_lt_f, n_eq_t, n_eq_f, n_sub, nI_add, n_mul, n_01, ↓reduceIte, if_true, if_false, eq_self, true_or, or_true, and_self, and_true, true_and, Nat.reduceAdd, Nat.reduceMul, Nat.reduceLeDiff, Nat.zero_le, not_true_eq_false, not_false_eq_true, cat2_n, cat2_i, cat2_r, ws_0, ws_i, ws_r, ws_l, ws_d, aftr_n, aftr_s, bI_ok, bI_t, bI_f, up_s, up_n, n_bit, decide_true, decide_false, Bool.not_true, Bool.not_false, Bool.and_true, Bool.true_and, Bool.false_and, Bool.and_false, va_rf_s, n_nlt0, k_0, k_67, k_68, k_465, k_466, k_467, k_468, k_469, k_470, k_471, k_472, k_565, r_0_0, r_0_1, r_0_2, r_0_3, r_0_4, r_0_5, r_67_0, r_465_0, r_467_0, r_467_2, r_470_0, r_470_1, va_rf_s, n_neg_t, n_neg_f, k_0, k_67, k_68, k_465, k_466, k_467, k_468, k_469, k_470, k_471, k_472, k_565, r_0_0, r_0_1, r_0_2, r_0_3, r_0_4, r_0_5, r_67_0, r_465_0, r_467_0, r_467_2, r_470_0, r_470_1, va_rf_s]
      exact ih (k + 1) I' q' L' ex' c' n' w x5 x6 x7 x8 (by omega) (by omega) (by omega) (by omega) hW'
    have hcm : a &&& 31 ≤ 31 := Nat.and_le_right
    rw [v214_23]
    simp (disch := omega) only [v214_25, v214_26, v214_27, v214_28, v214_29, v214_32, v214_33, v214_35, v214_36, v214_38, n_cl, n_in_t, n_lt_t, n_lt_f, n_eq_t, n_eq_f, n_sub, nI_add, n_mul, n_01, ↓reduceIte, if_true, if_false, eq_self, true_or, or_true, and_self, and_true, true_and, Nat.reduceAdd, Nat.reduceMul, Nat.reduceLeDiff, Nat.zero_le, not_true_eq_false, not_false_eq_true, cat2_n, cat2_i, cat2_r, ws_0, ws_i, ws_r, ws_l, ws_d, aftr_n, aftr_s, bI_ok, bI_t, bI_f, up_s, up_n, n_bit, decide_true, decide_false, Bool.not_true, Bool.not_false, Bool.and_true, Bool.true_and, Bool.false_and, Bool.and_false, va_rf_s, n_nlt0, k_0, k_67, k_68, k_465, k_466, k_467, k_468, k_469, k_470, k_471, k_472, k_565, r_0_0, r_0_1, r_0_2, r_0_3, r_0_4, r_0_5, r_67_0, r_465_0, r_467_0, r_467_2, r_470_0, r_470_1, va_rf_s, n_neg_t, n_neg_f, k_0, k_67, k_68, k_465, k_466, k_467, k_468, k_469, k_470, k_471, k_472, k_565, r_0_0, r_0_1, r_0_2, r_0_3, r_0_4, r_0_5, r_67_0, r_465_0, r_467_0, r_467_2, r_470_0, r_470_1, va_rf_s, ky, ia, ea, n_and]
    generalize a &&& 31 = c at hcm
    rcases (show c = 0 ∨ c = 1 ∨ c = 2 ∨ c = 3 ∨ c = 4 ∨ c = 5 ∨ c = 6 ∨ c = 7 ∨ c = 8 ∨ c = 9 ∨ c = 10 ∨ c = 11 ∨ c = 12 ∨ c = 13 ∨ c = 14 ∨ c = 15 ∨ c = 16 ∨ c = 17 ∨ c = 18 ∨ c = 19 ∨ c = 20 ∨ c = 21 ∨ c = 22 ∨ c = 23 ∨ c = 24 ∨ c = 25 ∨ c = 26 ∨ 26 < c by omega) with rfl | rfl | rfl | rfl | rfl | rfl | rfl | rfl | rfl | rfl | rfl | rfl | rfl | rfl | rfl | rfl | rfl | rfl | rfl | rfl | rfl | rfl | rfl | rfl | rfl | rfl | rfl | hgt
    · rw [w214_39_0]; exact j0 (by omega) (by omega) hy hW (fun a f _ _ => nx _)
    · rw [w214_39_1]; exact j1 (by omega) (by omega) hy hW (nx _)
    · rw [w214_39_2]; exact j2 (by omega) (by omega) hy hW (nx _)
    · rw [w214_39_3]; exact j3 (by omega) (by omega) hy hW (fun a f _ _ => nx _)
    · rw [w214_39_4]; exact j4 (by omega) (by omega) hy hW (fun a f _ _ => nx _)
    · rw [w214_39_5]; exact j5 (by omega) (by omega) hy hW (fun a f _ _ => nx _)
    · rw [w214_39_6]; exact j6 (by omega) (by omega) hy hW (fun a f _ _ => nx _)
    · rw [w214_39_7]; exact j7 (by omega) (by omega) hy hW (nx _)
    · rw [w214_39_8]; exact j8 (by omega) (by omega) hy hW (fun a _ => nx _)
    · rw [w214_39_9]; exact j9 (by omega) (by omega) hy hW (fun a _ => nx _)
    · rw [w214_39_10]; exact j10 (by omega) (by omega) hy hW (nx _)
    · rw [w214_39_11]; exact j11 (by omega) (by omega) hy hW (fun a _ => nx _)
    · rw [w214_39_12]; exact j12 (by omega) (by omega) hy hW (nx _)
    · rw [w214_39_13]; exact j13 (by omega) (by omega) hy hW (fun a f _ _ => nx _)
    · rw [w214_39_14]; exact j14 (by omega) (by omega) hy hW (fun a f _ _ => nx _)
    · rw [w214_39_15]; exact j15 (by omega) (by omega) hy hW (fun a f _ _ => nx _)
    · rw [w214_39_16]; exact j16 (by omega) (by omega) hy hW (fun a f _ _ => nx _)
    · rw [w214_39_17]; exact j17 (by omega) (by omega) hy hW (fun a f _ _ => nx _)
    · rw [w214_39_18]; exact j18 (by omega) (by omega) hy hW (fun a _ => nx _)
    · rw [w214_39_19]; exact j19 (by omega) (by omega) hy hW (fun a _ => nx _)
    · rw [w214_39_20]; exact j20 (by omega) (by omega) hy hW (fun a _ => nx _)
    · rw [w214_39_21]; exact j21 (by omega) (by omega) hy hW (fun a f t _ _ _ => nx _)
    · rw [w214_39_22]; exact j22 (by omega) (by omega) hy hW (nx _)
    · rw [w214_39_23]; exact j23 (by omega) (by omega) hy hW (nx _)
    · rw [w214_39_24]; exact j24 (by omega) (by omega) hy hW (fun a _ => nx _)
    · rw [w214_39_25]; exact j25 (by omega) (by omega) hy hW (nx _)
    · rw [w214_39_26]; exact j26 (by omega) (by omega) hy hW (nx _)
    · rw [w214_39_d ⟨hgt, by omega⟩]; exact nx _ I q L ex _ _ _ _ cc cn (by omega) (by omega) hW (fun _ _ => rfl)
end LF
