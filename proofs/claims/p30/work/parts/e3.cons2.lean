/-! THE CONSTRUCTORS: composer, layout, mailing, history -/
section CN
variable {z : P0} {KL : Nat → Nat × Nat} {RL : Nat → Nat → Option Nat} {q : Nat → Nat} {b : Nat} {I : Nat → Nat → Int32} {L : Nat → Nat → Int64} {Q : Res → Mem → Prop} {A : Nat → Nat → Prop} {o m s p : Nat}
theorem c9 : X z 9 0 [some (.ref (ad b 467))] [] (0, 0) (KP KL b 468, I, RP RL b q A, L, ad b 468, true) Q = Q (.inl none) (KP KL b 470, I, RP RL b q (fun o' j' => (A o' j' ∨ (o' = 467 ∧ j' = 0)) ∨ (o' = 467 ∧ j' = 2)), L, ad b 470, true) := by
  have k0 : kt 467 = (101, 0) := rfl
  have k1 : kt 468 = (20, 1660) := rfl
  have k2 : kt 469 = (20, 6) := rfl
  simp (disch := omega) only [v9_0, v9_1, v9_4, v9_5, v9_8, v9_10, v9_13, v9_14, v9_16, v9_18, v9_21, n_cl, n_in_t, n_lt_t, n_lt_f, n_eq_t, n_eq_f, nI_add, n_01, ↓reduceIte, if_true, if_false, eq_self, true_or, or_true, and_self, and_true, true_and, Nat.reduceAdd, Nat.reduceMul, Nat.reduceLeDiff, Nat.zero_le, Nat.zero_add, not_true_eq_false, not_false_eq_true, cat2_n, cat2_i, cat2_r, ws_0, ws_i, ws_r, aftr_n, va_rf_s, n_nlt0, ad_1, KP_new k1, KP_new k2, KP_at, k0, RP_up (q := q) (o := 467) (j := 0) (r := 468) rfl, RP_up (q := q) (o := 467) (j := 2) (r := 469) rfl]
theorem c32 : X z 32 0 [some (.ref (ad b 470))] [] (0, 0) (KP KL b 471, I, RP RL b q A, L, ad b 471, true) Q = Q (.inl none) (KP KL b 473, I, RP RL b q (fun o' j' => (A o' j' ∨ (o' = 470 ∧ j' = 0)) ∨ (o' = 470 ∧ j' = 1)), L, ad b 473, true) := by
  have k0 : kt 470 = (105, 0) := rfl
  have k1 : kt 471 = (20, 121) := rfl
  have k2 : kt 472 = (20, 121) := rfl
  simp (disch := omega) only [v32_0, v32_1, v32_4, v32_5, v32_7, v32_9, v32_12, v32_13, v32_15, v32_17, v32_20, n_cl, n_in_t, n_lt_t, n_lt_f, n_eq_t, n_eq_f, nI_add, n_01, ↓reduceIte, if_true, if_false, eq_self, true_or, or_true, and_self, and_true, true_and, Nat.reduceAdd, Nat.reduceMul, Nat.reduceLeDiff, Nat.zero_le, Nat.zero_add, not_true_eq_false, not_false_eq_true, cat2_n, cat2_i, cat2_r, ws_0, ws_i, ws_r, aftr_n, va_rf_s, n_nlt0, ad_1, KP_new k1, KP_new k2, KP_at, k0, RP_up (q := q) (o := 470) (j := 0) (r := 471) rfl, RP_up (q := q) (o := 470) (j := 1) (r := 472) rfl]
/-- the drafts of a mailing -/
theorem lp36 (hp : isM p) (hR : ∀ a, b ≤ a → ∀ j, RL a j = none) (hA : A p 0) {x1 x2 : Option Value} (hx : cat2 x2 = false) : ∀ d k B, d + k = 20 → (∀ o j, A o j → B o j) → X z 36 57 [some (.ref (ad b p)), x1, x2, some (.int (nI k))] [] (5 + 2 * k, 142 + 12 * k) (KP KL b (p + (6 + 2 * k)), I, RP RL b q B, L, ad b (p + (6 + 2 * k)), true) Q = Q (.inl none) (KP KL b (p + 46), I, RP RL b q (fun o j => B o j ∨ (o = p + 1 ∧ k ≤ j) ∨ (p + 6 + 2 * k ≤ o ∧ o < p + 46)), L, ad b (p + 46), true) := by
  intro d
  induction d with
  | zero =>
    intro k B h hB
    obtain rfl : k = 20 := by omega
    simp (disch := omega) only [v36_57, v36_58, v36_60, v36_82, n_cl, n_in_t, n_lt_t, n_lt_f, n_eq_t, n_eq_f, nI_add, n_01, ↓reduceIte, if_true, if_false, eq_self, true_or, or_true, and_self, and_true, true_and, Nat.reduceAdd, Nat.reduceMul, Nat.reduceLeDiff, Nat.zero_le, Nat.zero_add, not_true_eq_false, not_false_eq_true, cat2_n, cat2_i, cat2_r, ws_0, ws_i, ws_r, aftr_n, va_rf_s, n_nlt0, ad_1]
    refine congrArg (fun R => Q (.inl none) (KP KL b (p + 46), I, R, L, ad b (p + 46), true)) (RP_congr hR (fun o j hr => ?_))
    have h1 := rM_ne (o := o) (j := j) (q := q) hp
    by_cases e : B o j
    · simp only [e, true_or]
    · simp only [e, false_or, false_iff]
      intro g
      have := h1 (by omega) (by omega) hr
      omega
  | succ d ih =>
    intro k B h hB
    have k0 : kt p = (106, 0) := ktM_at (o := 0) hp (by omega)
    have k1 : kt (p + 1) = (22, 20) := ktM_at (o := 1) hp (by omega)
    have k2 : kt (p + (6 + 2 * k)) = (102, 0) := by
      rw [ktM_at hp (by omega)]; unfold ktM
      rw [if_neg (by omega), if_neg (by omega), if_neg (by omega), if_neg (by omega), if_neg (by omega), if_neg (by omega), if_pos (by omega)]
    have k3 : kt (p + (6 + 2 * k) + 1) = (20, 6) := by
      rw [Nat.add_assoc, ktM_at hp (by omega)]; unfold ktM
      rw [if_neg (by omega), if_neg (by omega), if_neg (by omega), if_neg (by omega), if_neg (by omega), if_neg (by omega), if_neg (by omega)]
    have r0 : rt q p 0 = some (p + 1) := rM (o := 0) hp (by omega)
    have r1 : rt q (p + 1) k = some (p + (6 + 2 * k)) := (rM hp (by omega)).trans (by unfold rtM; rw [if_neg (by omega), if_pos rfl, if_pos (by omega), Nat.add_assoc])
    have r2 : rt q (p + (6 + 2 * k)) 0 = some (p + (6 + 2 * k) + 1) := (rM hp (by omega)).trans (by unfold rtM; rw [if_neg (by omega), if_neg (by omega), if_neg (by omega), if_pos (by omega), if_pos rfl])
    simp (disch := omega) only [v36_57, v36_58, v36_60, v36_63, v36_64, v36_67, v36_68, v36_71, v36_71i, u36_72, v36_75, v36_76, n_cl, n_in_t, n_lt_t, n_lt_f, n_eq_t, n_eq_f, nI_add, n_01, ↓reduceIte, if_true, if_false, eq_self, true_or, or_true, and_self, and_true, true_and, Nat.reduceAdd, Nat.reduceMul, Nat.reduceLeDiff, Nat.zero_le, Nat.zero_add, not_true_eq_false, not_false_eq_true, cat2_n, cat2_i, cat2_r, ws_0, ws_i, ws_r, aftr_n, va_rf_s, n_nlt0, ad_1, KP_new k2, KP_new k3, KP_at, k0, k1, k2, k3, RP_at r0 (hB _ _ hA), c20 _ k2 k3 r2, RP_up r1, leT, elC_22, hx]
    rw [v36_79, show p + (6 + 2 * k) + 1 + 1 = p + (6 + 2 * (k + 1)) by omega, show 5 + 2 * k + 1 + 1 = 5 + 2 * (k + 1) by omega, show 142 + 12 * k + 6 + 6 = 142 + 12 * (k + 1) by omega]
    refine (ih (k + 1) _ (by omega) (fun o j x => Or.inl (Or.inl (hB o j x)))).trans ?_
    refine congrArg (fun R => Q (.inl none) (KP KL b (p + 46), I, R, L, ad b (p + 46), true)) (RP_congr hR (fun o j hr => ?_))
    have h1 := rM_ne (o := o) (j := j) (q := q) hp
    by_cases e : B o j
    · simp only [e, true_or]
    · simp only [e, false_or]
      have h2 := fun x y => h1 x y hr
      constructor
      · intro g; omega
      · intro g
        have := h2 (by omega) (by omega)
        omega
theorem c36 (hp : isM p) (hR : ∀ a, b ≤ a → ∀ j, RL a j = none) : X z 36 0 [some (.ref (ad b p)), some (.ref (ad b 467)), some (.ref (ad b 470)), none] [] (0, 0) (KP KL b (p + 1), I, RP RL b q A, L, ad b (p + 1), true) Q = Q (.inl none) (KP KL b (p + 46), I, RP RL b q (fun o j => A o j ∨ (p ≤ o ∧ o < p + 46)), L, ad b (p + 46), true) := by
  have k0 : kt p = (106, 0) := ktM_at (o := 0) hp (by omega)
  have k1 : kt (p + 1) = (22, 20) := ktM_at (o := 1) hp (by omega)
  have k2 : kt (p + 2) = (20, 20) := ktM_at (o := 2) hp (by omega)
  have k3 : kt (p + 3) = (20, 20) := ktM_at (o := 3) hp (by omega)
  have k4 : kt (p + 4) = (20, 41) := ktM_at (o := 4) hp (by omega)
  have k5 : kt (p + 5) = (20, 41) := ktM_at (o := 5) hp (by omega)
  have r0 : rt q p 0 = some (p + 1) := rM (o := 0) hp (by omega)
  have r2 : rt q p 2 = some (p + 2) := rM (o := 0) hp (by omega)
  have r3 : rt q p 3 = some (p + 3) := rM (o := 0) hp (by omega)
  have r4 : rt q p 4 = some 467 := rM (o := 0) hp (by omega)
  have r5 : rt q p 5 = some 470 := rM (o := 0) hp (by omega)
  have r6 : rt q p 6 = some (p + 4) := rM (o := 0) hp (by omega)
  have r7 : rt q p 7 = some (p + 5) := rM (o := 0) hp (by omega)
  simp (disch := omega) only [v36_0, v36_1, v36_4, v36_5, v36_7, v36_10, v36_13, v36_14, v36_16, v36_18, v36_21, v36_22, v36_24, v36_26, v36_29, v36_30, v36_32, v36_34, v36_37, v36_38, v36_40, v36_42, v36_45, v36_46, v36_47, v36_50, v36_51, v36_52, v36_55, v36_56, n_cl, n_in_t, n_lt_t, n_lt_f, n_eq_t, n_eq_f, nI_add, n_01, ↓reduceIte, if_true, if_false, eq_self, true_or, or_true, and_self, and_true, true_and, Nat.reduceAdd, Nat.reduceMul, Nat.reduceLeDiff, Nat.zero_le, Nat.zero_add, not_true_eq_false, not_false_eq_true, cat2_n, cat2_i, cat2_r, ws_0, ws_i, ws_r, aftr_n, va_rf_s, n_nlt0, ad_1, Nat.add_assoc, KP_new k1, KP_new k2, KP_new k3, KP_new k4, KP_new k5, KP_at, k0, k1, k2, k3, k4, k5, RP_up r0, RP_up r2, RP_up r3, RP_up r4, RP_up r5, RP_up r6, RP_up r7]
  refine (lp36 (A := fun o j => o = p ∧ (j = 0)) hp hR (by omega) rfl 20 0 _ rfl (fun o j x => by omega)).trans ?_
  refine congrArg (fun R => Q (.inl none) (KP KL b (p + 46), I, R, L, ad b (p + 46), true)) (RP_congr hR (fun o j hr => ?_))
  have h1 := rM_ne (o := o) (j := j) (q := q) hp
  by_cases e : A o j
  · simp only [e, true_or]
  · simp only [e, false_or]
    have h2 := fun x y => h1 x y hr
    constructor
    · intro g
      omega
    · intro g
      have := h2 (by omega) (by omega)
      omega
theorem c36n {p1 p2 : Nat} (hp : isM p) (e1 : p1 = p + 1) (e2 : p2 = p + 46) (hR : ∀ a, b ≤ a → ∀ j, RL a j = none) : X z 36 0 [some (.ref (ad b p)), some (.ref (ad b 467)), some (.ref (ad b 470)), none] [] (0, 0) (KP KL b p1, I, RP RL b q A, L, ad b p1, true) Q = Q (.inl none) (KP KL b p2, I, RP RL b q (fun o j => A o j ∨ (p ≤ o ∧ o < p2)), L, ad b p2, true) := by
  subst e1 e2
  exact c36 hp hR
theorem c47n {s1 s2 s3 : Nat} (hs : isS s) (e1 : s1 = s + 1) (e2 : s2 = s + 66) (e3 : s3 = s + 5) (hR : ∀ a, b ≤ a → ∀ j, RL a j = none) (hz : z.1 0 < b) (hk : KL (z.1 0) = (50, 6)) : X z 47 0 [some (.ref (ad b s)), none] [] (0, 0) (KP KL b s1, I, RP RL b q A, L, ad b s1, true) Q = Q (.inl none) (KP KL b s2, cpI I (z.1 0) 0 (ad b s3) 0 6, RP RL b q (fun o j => A o j ∨ (s ≤ o ∧ o < s2)), L, ad b s2, true) := by
  subst e1 e2 e3
  exact c47 hs hR hz hk
def q0 : Nat → Nat := fun j => 69 + 66 * j
theorem isS_i {i : Nat} (h : i < 6) : isS (69 + 66 * i) := Or.inr ⟨i, h, rfl⟩
/-- seven states laid: the settings of each -/
def I6 (I : Nat → Nat → Int32) (f b : Nat) : Nat → Nat → Int32 := cpI (cpI (cpI (cpI (cpI (cpI I f 0 (ad b 74) 0 6) f 0 (ad b 140) 0 6) f 0 (ad b 206) 0 6) f 0 (ad b 272) 0 6) f 0 (ad b 338) 0 6) f 0 (ad b 404) 0 6
theorem c23 (hR : ∀ a, b ≤ a → ∀ j, RL a j = none) (hz : z.1 0 < b) (hk : KL (z.1 0) = (50, 6)) : X z 23 0 [some (.ref (ad b 67)), none] [] (0, 0) (KP KL b 68, I, RP RL b q0 A, L, ad b 68, true) Q = Q (.inl none) (KP KL b 465, I6 I (z.1 0) b, RP RL b q0 (fun o j => A o j ∨ (67 ≤ o ∧ o < 465)), L, ad b 465, true) := by
  have k0 : kt 67 = (103, 0) := rfl
  have k1 : kt 68 = (24, 6) := rfl
  have s0 : isS 69 := isS_i (i := 0) (by omega)
  have s1 : isS 135 := isS_i (i := 1) (by omega)
  have s2 : isS 201 := isS_i (i := 2) (by omega)
  have s3 : isS 267 := isS_i (i := 3) (by omega)
  have s4 : isS 333 := isS_i (i := 4) (by omega)
  have s5 : isS 399 := isS_i (i := 5) (by omega)
  have t0 : kt 69 = (108, 0) := rfl
  have t1 : kt 135 = (108, 0) := rfl
  have t2 : kt 201 = (108, 0) := rfl
  have t3 : kt 267 = (108, 0) := rfl
  have t4 : kt 333 = (108, 0) := rfl
  have t5 : kt 399 = (108, 0) := rfl
  have r0 : rt q0 67 0 = some 68 := rfl
  have a0 : ∀ C : Nat → Nat → Prop, C 67 0 → RP RL b q0 C (ad b 67) 0 = some (ad b 68) := fun C h => RP_at r0 h
  simp (disch := omega) only [v23_0, v23_1, v23_4, v23_5, v23_7, v23_10, v23_13, v23_14, v23_15, v23_16, v23_18, v23_21, v23_22, v23_25, v23_26, v23_29, v23_29i, u23_30, v23_33, v23_34, v23_37, v23_40, n_cl, n_in_t, n_lt_t, n_lt_f, n_eq_t, n_eq_f, nI_add, n_01, ↓reduceIte, if_true, if_false, eq_self, true_or, or_true, and_self, and_true, true_and, Nat.reduceAdd, Nat.reduceMul, Nat.reduceLeDiff, Nat.zero_le, Nat.zero_add, not_true_eq_false, not_false_eq_true, cat2_n, cat2_i, cat2_r, ws_0, ws_i, ws_r, aftr_n, va_rf_s, n_nlt0, ad_1, KP_new k1, KP_new t0, KP_new t1, KP_new t2, KP_new t3, KP_new t4, KP_new t5, KP_at, k0, k1, t0, t1, t2, t3, t4, t5, RP_up r0, a0, c47n (s1 := 70) (s2 := 135) (s3 := 74) s0 rfl rfl rfl hR hz hk, c47n (s1 := 136) (s2 := 201) (s3 := 140) s1 rfl rfl rfl hR hz hk, c47n (s1 := 202) (s2 := 267) (s3 := 206) s2 rfl rfl rfl hR hz hk, c47n (s1 := 268) (s2 := 333) (s3 := 272) s3 rfl rfl rfl hR hz hk, c47n (s1 := 334) (s2 := 399) (s3 := 338) s4 rfl rfl rfl hR hz hk, c47n (s1 := 400) (s2 := 465) (s3 := 404) s5 rfl rfl rfl hR hz hk,
    RP_up (q := q0) (o := 68) (j := 0) (r := 69) rfl, RP_up (q := q0) (o := 68) (j := 1) (r := 135) rfl, RP_up (q := q0) (o := 68) (j := 2) (r := 201) rfl, RP_up (q := q0) (o := 68) (j := 3) (r := 267) rfl, RP_up (q := q0) (o := 68) (j := 4) (r := 333) rfl, RP_up (q := q0) (o := 68) (j := 5) (r := 399) rfl, elC_24]
  refine congrArg (fun R => Q (.inl none) (KP KL b 465, I6 I (z.1 0) b, R, L, ad b 465, true)) (RP_congr hR (fun o j hr => ?_))
  have h1 := r_ne hr
  by_cases e : A o j
  · simp only [e, true_or]
  · simp only [e, false_or]
    omega
end CN
