/-! THE CONSTRUCTORS: leaves; a state -/
theorem elC_23 : elC 23 = 107 := rfl
theorem elC_25 : elC 25 = 109 := rfl
section CN
variable {z : P0} {KL : Nat → Nat × Nat} {RL : Nat → Nat → Option Nat} {q : Nat → Nat} {b : Nat} {I : Nat → Nat → Int32} {L : Nat → Nat → Int64} {Q : Res → Mem → Prop} {A : Nat → Nat → Prop} {o m s p : Nat}
theorem c44 (h1 : o < m) (h2 : kt o = (107, 0)) (h3 : kt m = (20, 8)) (h4 : rt q o 0 = some m) : X z 44 0 [some (.ref (ad b o))] [] (0, 0) (KP KL b m, I, RP RL b q A, L, ad b m, true) Q = Q (.inl none) (KP KL b (m + 1), I, RP RL b q (fun o' j' => A o' j' ∨ (o' = o ∧ j' = 0)), L, ad b (m + 1), true) := by
  simp (disch := omega) only [v44_0, v44_1, v44_4, v44_5, v44_7, v44_9, v44_12, n_cl, n_in_t, n_lt_t, n_lt_f, n_eq_t, n_eq_f, nI_add, n_01, ↓reduceIte, if_true, if_false, eq_self, true_or, or_true, and_self, and_true, true_and, Nat.reduceAdd, Nat.reduceMul, Nat.reduceLeDiff, Nat.zero_le, Nat.zero_add, not_true_eq_false, not_false_eq_true, cat2_n, cat2_i, cat2_r, ws_0, ws_i, ws_r, aftr_n, va_rf_s, n_nlt0, ad_1, KP_new h3, KP_at, h2, RP_up h4]
theorem c52 (h1 : o < m) (h2 : kt o = (109, 0)) (h3 : kt m = (20, 8)) (h4 : rt q o 0 = some m) : X z 52 0 [some (.ref (ad b o))] [] (0, 0) (KP KL b m, I, RP RL b q A, L, ad b m, true) Q = Q (.inl none) (KP KL b (m + 1), I, RP RL b q (fun o' j' => A o' j' ∨ (o' = o ∧ j' = 0)), L, ad b (m + 1), true) := by
  simp (disch := omega) only [v52_0, v52_1, v52_4, v52_5, v52_7, v52_9, v52_12, n_cl, n_in_t, n_lt_t, n_lt_f, n_eq_t, n_eq_f, nI_add, n_01, ↓reduceIte, if_true, if_false, eq_self, true_or, or_true, and_self, and_true, true_and, Nat.reduceAdd, Nat.reduceMul, Nat.reduceLeDiff, Nat.zero_le, Nat.zero_add, not_true_eq_false, not_false_eq_true, cat2_n, cat2_i, cat2_r, ws_0, ws_i, ws_r, aftr_n, va_rf_s, n_nlt0, ad_1, KP_new h3, KP_at, h2, RP_up h4]
theorem c20 (h1 : o < m) (h2 : kt o = (102, 0)) (h3 : kt m = (20, 6)) (h4 : rt q o 0 = some m) : X z 20 0 [some (.ref (ad b o))] [] (0, 0) (KP KL b m, I, RP RL b q A, L, ad b m, true) Q = Q (.inl none) (KP KL b (m + 1), I, RP RL b q (fun o' j' => A o' j' ∨ (o' = o ∧ j' = 0)), L, ad b (m + 1), true) := by
  simp (disch := omega) only [v20_0, v20_1, v20_4, v20_5, v20_7, v20_9, v20_12, n_cl, n_in_t, n_lt_t, n_lt_f, n_eq_t, n_eq_f, nI_add, n_01, ↓reduceIte, if_true, if_false, eq_self, true_or, or_true, and_self, and_true, true_and, Nat.reduceAdd, Nat.reduceMul, Nat.reduceLeDiff, Nat.zero_le, Nat.zero_add, not_true_eq_false, not_false_eq_true, cat2_n, cat2_i, cat2_r, ws_0, ws_i, ws_r, aftr_n, va_rf_s, n_nlt0, ad_1, KP_new h3, KP_at, h2, RP_up h4]
theorem c27 (h1 : o < m) (h2 : kt o = (104, 0)) (h3 : kt m = (20, 60)) (h4 : rt q o 0 = some m) : X z 27 0 [some (.ref (ad b o))] [] (0, 0) (KP KL b m, I, RP RL b q A, L, ad b m, true) Q = Q (.inl none) (KP KL b (m + 1), I, RP RL b q (fun o' j' => A o' j' ∨ (o' = o ∧ j' = 0)), L, ad b (m + 1), true) := by
  simp (disch := omega) only [v27_0, v27_1, v27_4, v27_5, v27_7, v27_9, v27_12, n_cl, n_in_t, n_lt_t, n_lt_f, n_eq_t, n_eq_f, nI_add, n_01, ↓reduceIte, if_true, if_false, eq_self, true_or, or_true, and_self, and_true, true_and, Nat.reduceAdd, Nat.reduceMul, Nat.reduceLeDiff, Nat.zero_le, Nat.zero_add, not_true_eq_false, not_false_eq_true, cat2_n, cat2_i, cat2_r, ws_0, ws_i, ws_r, aftr_n, va_rf_s, n_nlt0, ad_1, KP_new h3, KP_at, h2, RP_up h4]
theorem c0 (h1 : o < m) (h2 : kt o = (100, 0)) (h3 : kt m = (20, 60)) (h4 : rt q o 0 = some m) : X z 0 0 [some (.ref (ad b o))] [] (0, 0) (KP KL b m, I, RP RL b q A, L, ad b m, true) Q = Q (.inl none) (KP KL b (m + 1), I, RP RL b q (fun o' j' => A o' j' ∨ (o' = o ∧ j' = 0)), L, ad b (m + 1), true) := by
  simp (disch := omega) only [v0_0, v0_1, v0_4, v0_5, v0_7, v0_9, v0_12, n_cl, n_in_t, n_lt_t, n_lt_f, n_eq_t, n_eq_f, nI_add, n_01, ↓reduceIte, if_true, if_false, eq_self, true_or, or_true, and_self, and_true, true_and, Nat.reduceAdd, Nat.reduceMul, Nat.reduceLeDiff, Nat.zero_le, Nat.zero_add, not_true_eq_false, not_false_eq_true, cat2_n, cat2_i, cat2_r, ws_0, ws_i, ws_r, aftr_n, va_rf_s, n_nlt0, ad_1, KP_new h3, KP_at, h2, RP_up h4]
/-- a state: its persons -/
theorem lp47 (hs : isS s) (hR : ∀ a, b ≤ a → ∀ j, RL a j = none) (hA : A s 0) : ∀ d k B, d + k = 20 → (∀ o j, A o j → B o j) → X z 47 43 [some (.ref (ad b s)), some (.int (nI k))] [] (5 + 2 * k, 98 + 16 * k) (KP KL b (s + (6 + 2 * k)), I, RP RL b q B, L, ad b (s + (6 + 2 * k)), true) Q = X z 47 68 [some (.ref (ad b s)), some (.int (nI 20))] [] (45, 418) (KP KL b (s + 46), I, RP RL b q (fun o j => B o j ∨ (o = s + 1 ∧ k ≤ j) ∨ (s + 6 + 2 * k ≤ o ∧ o < s + 46)), L, ad b (s + 46), true) Q := by
  intro d
  induction d with
  | zero =>
    intro k B h hB
    obtain rfl : k = 20 := by omega
    simp (disch := omega) only [v47_43, v47_44, v47_46, n_cl, n_in_t, n_lt_t, n_lt_f, n_eq_t, n_eq_f, nI_add, n_01, ↓reduceIte, if_true, if_false, eq_self, true_or, or_true, and_self, and_true, true_and, Nat.reduceAdd, Nat.reduceMul, Nat.reduceLeDiff, Nat.zero_le, Nat.zero_add, not_true_eq_false, not_false_eq_true, cat2_n, cat2_i, cat2_r, ws_0, ws_i, ws_r, aftr_n, va_rf_s, n_nlt0, ad_1]
    refine congrArg (fun R => X z 47 68 [some (.ref (ad b s)), some (.int (nI 20))] [] (45, 418) (KP KL b (s + 46), I, R, L, ad b (s + 46), true) Q) (RP_congr hR (fun o j hr => ?_))
    have h1 := rS_ne (o := o) (j := j) (q := q) hs
    by_cases e : B o j
    · simp only [e, true_or]
    · simp only [e, false_or, false_iff]
      intro g
      have := h1 (by omega) (by omega) hr
      omega
  | succ d ih =>
    intro k B h hB
    have k0 : kt s = (108, 0) := ktS_at (o := 0) hs (by omega)
    have k1 : kt (s + 1) = (23, 20) := ktS_at (o := 1) hs (by omega)
    have k2 : kt (s + (6 + 2 * k)) = (107, 0) := by
      rw [ktS_at hs (by omega)]; unfold ktS
      rw [if_neg (by omega), if_neg (by omega), if_neg (by omega), if_neg (by omega), if_neg (by omega), if_neg (by omega), if_pos (by omega), if_pos (by omega)]
    have k3 : kt (s + (6 + 2 * k) + 1) = (20, 8) := by
      rw [Nat.add_assoc, ktS_at hs (by omega)]; unfold ktS
      rw [if_neg (by omega), if_neg (by omega), if_neg (by omega), if_neg (by omega), if_neg (by omega), if_neg (by omega), if_pos (by omega), if_neg (by omega)]
    have r0 : rt q s 0 = some (s + 1) := rS (o := 0) hs (by omega)
    have r1 : rt q (s + 1) k = some (s + (6 + 2 * k)) := (rS hs (by omega)).trans (by unfold rtS; rw [if_neg (by omega), if_pos rfl, if_pos (by omega), Nat.add_assoc])
    have r2 : rt q (s + (6 + 2 * k)) 0 = some (s + (6 + 2 * k) + 1) := (rS hs (by omega)).trans (by unfold rtS; rw [if_neg (by omega), if_neg (by omega), if_neg (by omega), if_neg (by omega), if_neg (by omega), if_pos (by omega), if_pos rfl])
    simp (disch := omega) only [v47_43, v47_44, v47_46, v47_49, v47_50, v47_53, v47_54, v47_57, v47_57i, u47_58, v47_61, v47_62, n_cl, n_in_t, n_lt_t, n_lt_f, n_eq_t, n_eq_f, nI_add, n_01, ↓reduceIte, if_true, if_false, eq_self, true_or, or_true, and_self, and_true, true_and, Nat.reduceAdd, Nat.reduceMul, Nat.reduceLeDiff, Nat.zero_le, Nat.zero_add, not_true_eq_false, not_false_eq_true, cat2_n, cat2_i, cat2_r, ws_0, ws_i, ws_r, aftr_n, va_rf_s, n_nlt0, ad_1, KP_new k2, KP_new k3, KP_at, k0, k1, k2, k3, RP_at r0 (hB _ _ hA), c44 _ k2 k3 r2, RP_up r1, leT, elC_23]
    rw [v47_65, show s + (6 + 2 * k) + 1 + 1 = s + (6 + 2 * (k + 1)) by omega, show 5 + 2 * k + 1 + 1 = 5 + 2 * (k + 1) by omega, show 98 + 16 * k + 8 + 8 = 98 + 16 * (k + 1) by omega]
    refine (ih (k + 1) _ (by omega) (fun o j x => Or.inl (Or.inl (hB o j x)))).trans ?_
    refine congrArg (fun R => X z 47 68 [some (.ref (ad b s)), some (.int (nI 20))] [] (45, 418) (KP KL b (s + 46), I, R, L, ad b (s + 46), true) Q) (RP_congr hR (fun o j hr => ?_))
    have h1 := rS_ne (o := o) (j := j) (q := q) hs
    by_cases e : B o j
    · simp only [e, true_or]
    · simp only [e, false_or]
      have h2 := fun x y => h1 x y hr
      constructor
      · intro g; omega
      · intro g
        have := h2 (by omega) (by omega)
        omega
/-- its words -/
theorem lw47 (hs : isS s) (hR : ∀ a, b ≤ a → ∀ j, RL a j = none) (hA : A s 2) : ∀ d k B, d + k = 10 → (∀ o j, A o j → B o j) → X z 47 70 [some (.ref (ad b s)), some (.int (nI k))] [] (45 + 2 * k, 418 + 11 * k) (KP KL b (s + (46 + 2 * k)), I, RP RL b q B, L, ad b (s + (46 + 2 * k)), true) Q = X z 47 95 [some (.ref (ad b s)), some (.int (nI 10))] [] (65, 528) (KP KL b (s + 66), I, RP RL b q (fun o j => B o j ∨ (o = s + 2 ∧ k ≤ j) ∨ (s + 46 + 2 * k ≤ o ∧ o < s + 66)), L, ad b (s + 66), true) Q := by
  intro d
  induction d with
  | zero =>
    intro k B h hB
    obtain rfl : k = 10 := by omega
    simp (disch := omega) only [v47_70, v47_71, v47_73, n_cl, n_in_t, n_lt_t, n_lt_f, n_eq_t, n_eq_f, nI_add, n_01, ↓reduceIte, if_true, if_false, eq_self, true_or, or_true, and_self, and_true, true_and, Nat.reduceAdd, Nat.reduceMul, Nat.reduceLeDiff, Nat.zero_le, Nat.zero_add, not_true_eq_false, not_false_eq_true, cat2_n, cat2_i, cat2_r, ws_0, ws_i, ws_r, aftr_n, va_rf_s, n_nlt0, ad_1]
    refine congrArg (fun R => X z 47 95 [some (.ref (ad b s)), some (.int (nI 10))] [] (65, 528) (KP KL b (s + 66), I, R, L, ad b (s + 66), true) Q) (RP_congr hR (fun o j hr => ?_))
    have h1 := rS_ne (o := o) (j := j) (q := q) hs
    by_cases e : B o j
    · simp only [e, true_or]
    · simp only [e, false_or, false_iff]
      intro g
      have := h1 (by omega) (by omega) hr
      omega
  | succ d ih =>
    intro k B h hB
    have k0 : kt s = (108, 0) := ktS_at (o := 0) hs (by omega)
    have k1 : kt (s + 2) = (25, 10) := ktS_at (o := 2) hs (by omega)
    have k2 : kt (s + (46 + 2 * k)) = (109, 0) := by
      rw [ktS_at hs (by omega)]; unfold ktS
      rw [if_neg (by omega), if_neg (by omega), if_neg (by omega), if_neg (by omega), if_neg (by omega), if_neg (by omega), if_neg (by omega), if_pos (by omega)]
    have k3 : kt (s + (46 + 2 * k) + 1) = (20, 8) := by
      rw [Nat.add_assoc, ktS_at hs (by omega)]; unfold ktS
      rw [if_neg (by omega), if_neg (by omega), if_neg (by omega), if_neg (by omega), if_neg (by omega), if_neg (by omega), if_neg (by omega), if_neg (by omega)]
    have r0 : rt q s 2 = some (s + 2) := rS (o := 0) hs (by omega)
    have r1 : rt q (s + 2) k = some (s + (46 + 2 * k)) := (rS hs (by omega)).trans (by unfold rtS; rw [if_neg (by omega), if_neg (by omega), if_pos rfl, if_pos (by omega), Nat.add_assoc])
    have r2 : rt q (s + (46 + 2 * k)) 0 = some (s + (46 + 2 * k) + 1) := (rS hs (by omega)).trans (by unfold rtS; rw [if_neg (by omega), if_neg (by omega), if_neg (by omega), if_neg (by omega), if_neg (by omega), if_pos (by omega), if_pos rfl])
    simp (disch := omega) only [v47_70, v47_71, v47_73, v47_76, v47_77, v47_80, v47_81, v47_84, v47_84i, u47_85, v47_88, v47_89, n_cl, n_in_t, n_lt_t, n_lt_f, n_eq_t, n_eq_f, nI_add, n_01, ↓reduceIte, if_true, if_false, eq_self, true_or, or_true, and_self, and_true, true_and, Nat.reduceAdd, Nat.reduceMul, Nat.reduceLeDiff, Nat.zero_le, Nat.zero_add, not_true_eq_false, not_false_eq_true, cat2_n, cat2_i, cat2_r, ws_0, ws_i, ws_r, aftr_n, va_rf_s, n_nlt0, ad_1, KP_new k2, KP_new k3, KP_at, k0, k1, k2, k3, RP_at r0 (hB _ _ hA), c52 _ k2 k3 r2, RP_up r1, leT, elC_25]
    rw [v47_92, show s + (46 + 2 * k) + 1 + 1 = s + (46 + 2 * (k + 1)) by omega, show 45 + 2 * k + 1 + 1 = 45 + 2 * (k + 1) by omega, show 418 + 11 * k + 3 + 8 = 418 + 11 * (k + 1) by omega]
    refine (ih (k + 1) _ (by omega) (fun o j x => Or.inl (Or.inl (hB o j x)))).trans ?_
    refine congrArg (fun R => X z 47 95 [some (.ref (ad b s)), some (.int (nI 10))] [] (65, 528) (KP KL b (s + 66), I, R, L, ad b (s + 66), true) Q) (RP_congr hR (fun o j hr => ?_))
    have h1 := rS_ne (o := o) (j := j) (q := q) hs
    by_cases e : B o j
    · simp only [e, true_or]
    · simp only [e, false_or]
      have h2 := fun x y => h1 x y hr
      constructor
      · intro g; omega
      · intro g
        have := h2 (by omega) (by omega)
        omega
theorem c47 (hs : isS s) (hR : ∀ a, b ≤ a → ∀ j, RL a j = none) (hz : z.1 0 < b) (hk : KL (z.1 0) = (50, 6)) : X z 47 0 [some (.ref (ad b s)), none] [] (0, 0) (KP KL b (s + 1), I, RP RL b q A, L, ad b (s + 1), true) Q = Q (.inl none) (KP KL b (s + 66), cpI I (z.1 0) 0 (ad b (s + 5)) 0 6, RP RL b q (fun o j => A o j ∨ (s ≤ o ∧ o < s + 66)), L, ad b (s + 66), true) := by
  have k0 : kt s = (108, 0) := ktS_at (o := 0) hs (by omega)
  have k1 : kt (s + 1) = (23, 20) := ktS_at (o := 1) hs (by omega)
  have k2 : kt (s + 2) = (25, 10) := ktS_at (o := 2) hs (by omega)
  have k3 : kt (s + 3) = (104, 0) := ktS_at (o := 3) hs (by omega)
  have k4 : kt (s + 4) = (20, 60) := ktS_at (o := 4) hs (by omega)
  have k5 : kt (s + 5) = (20, 6) := ktS_at (o := 5) hs (by omega)
  have r0 : rt q s 0 = some (s + 1) := rS (o := 0) hs (by omega)
  have r2 : rt q s 2 = some (s + 2) := rS (o := 0) hs (by omega)
  have r4 : rt q s 4 = some (s + 3) := rS (o := 0) hs (by omega)
  have r5 : rt q s 5 = some (s + 5) := rS (o := 0) hs (by omega)
  have r3 : rt q (s + 3) 0 = some (s + 4) := rS (o := 3) hs (by omega)
  simp (disch := omega) only [v47_0, v47_1, v47_4, v47_5, v47_7, v47_10, v47_13, v47_14, v47_16, v47_19, v47_22, v47_23, v47_26, v47_26i, u47_27, v47_30, v47_33, v47_34, v47_36, v47_38, v47_41, v47_42, n_cl, n_in_t, n_lt_t, n_lt_f, n_eq_t, n_eq_f, nI_add, n_01, ↓reduceIte, if_true, if_false, eq_self, true_or, or_true, and_self, and_true, true_and, Nat.reduceAdd, Nat.reduceMul, Nat.reduceLeDiff, Nat.zero_le, Nat.zero_add, not_true_eq_false, not_false_eq_true, cat2_n, cat2_i, cat2_r, ws_0, ws_i, ws_r, aftr_n, va_rf_s, n_nlt0, ad_1, Nat.add_assoc, KP_new k1, KP_new k2, KP_new k3, KP_new k4, KP_new k5, KP_at, k0, k1, k2, k3, k4, k5, c27 _ k3 k4 r3, RP_up r0, RP_up r2, RP_up r4, RP_up r5]
  refine (lp47 (A := fun o j => o = s ∧ (j = 0 ∨ j = 2 ∨ j = 5)) hs hR (by omega) 20 0 _ rfl (fun o j x => by omega)).trans ?_
  simp (disch := omega) only [v47_68, v47_69, n_cl, n_in_t, n_lt_t, n_lt_f, n_eq_t, n_eq_f, nI_add, n_01, ↓reduceIte, if_true, if_false, eq_self, true_or, or_true, and_self, and_true, true_and, Nat.reduceAdd, Nat.reduceMul, Nat.reduceLeDiff, Nat.zero_le, Nat.zero_add, not_true_eq_false, not_false_eq_true, cat2_n, cat2_i, cat2_r, ws_0, ws_i, ws_r, aftr_n, va_rf_s, n_nlt0, ad_1]
  refine (lw47 (A := fun o j => o = s ∧ (j = 0 ∨ j = 2 ∨ j = 5)) hs hR (by omega) 10 0 _ rfl (fun o j x => by omega)).trans ?_
  refine (congrArg (fun R => X z 47 95 [some (.ref (ad b s)), some (.int (nI 10))] [] (65, 528) (KP KL b (s + 66), I, R, L, ad b (s + 66), true) Q) (RP_congr (B := fun o j => A o j ∨ (s ≤ o ∧ o < s + 66)) hR (fun o j hr => ?_))).trans ?_
  · have h1 := rS_ne (o := o) (j := j) (q := q) hs
    by_cases e : A o j
    · simp only [e, true_or]
    · simp only [e, false_or]
      have h2 := fun x y => h1 x y hr
      constructor
      · intro g
        have : o = s ∨ o = s + 1 ∨ o = s + 2 ∨ o = s + 3 ∨ (s + 6 ≤ o ∧ o < s + 66) := by omega
        omega
      · intro g
        have := h2 (by omega) (by omega)
        omega
  · simp (disch := omega) only [v47_95, v47_98, v47_99, v47_100, v47_103, v47_104, v47_106, v47_109, n_cl, n_in_t, n_lt_t, n_lt_f, n_eq_t, n_eq_f, nI_add, n_01, ↓reduceIte, if_true, if_false, eq_self, true_or, or_true, and_self, and_true, true_and, Nat.reduceAdd, Nat.reduceMul, Nat.reduceLeDiff, Nat.zero_le, Nat.zero_add, not_true_eq_false, not_false_eq_true, cat2_n, cat2_i, cat2_r, ws_0, ws_i, ws_r, aftr_n, va_rf_s, n_nlt0, ad_1, KP_at, KP_lo hz, hk, k0, k5, RP_at r5 (A := fun o j => A o j ∨ (s ≤ o ∧ o < s + 66)) (Or.inr ⟨Nat.le_refl _, by omega⟩)]
end CN
