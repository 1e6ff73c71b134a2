/-! THE LAW: forms, the whole text; reasons -/
def fmM (A : Row) (f : Nat) (g : List Nat) : Nat := g.foldl (fun m p => m ||| 2 ^ A (33 + p)) f
theorem fmM_bit {A : Row} : ∀ (g : List Nat) (f j : Nat), (fmM A f g).testBit j = (f.testBit j || decide (∃ p ∈ g, A (33 + p) = j))
  | [], f, j => by unfold fmM; simp
  | x :: r, f, j => by
    have u : fmM A f (x :: r) = fmM A (f ||| 2 ^ A (33 + x)) r := rfl
    rw [u, fmM_bit r, Nat.testBit_or, Nat.testBit_two_pow]
    by_cases e : A (33 + x) = j
    · simp [e]
    · simp [e]
theorem fmM_lt {A : Row} {g : List Nat} (h : ∀ p ∈ g, A (33 + p) < 3) : fmM A 0 g < 8 := Nat.lt_pow_two_of_testBit (n := 3) _ fun i hi => by
  rw [fmM_bit, Nat.zero_testBit, Bool.false_or, decide_eq_false_iff_not]
  rintro ⟨p, hp, e⟩
  have := h p hp
  omega
theorem fmM_same {A : Row} {g : List Nat} {f : Nat} (hne : g ≠ []) (h : ∀ p ∈ g, A (33 + p) = f) : fmM A 0 g = 2 ^ f := by
  apply Nat.eq_of_testBit_eq
  intro j
  rw [fmM_bit, Nat.zero_testBit, Bool.false_or, Nat.testBit_two_pow]
  have : (∃ p ∈ g, A (33 + p) = j) ↔ f = j := by
    constructor
    · rintro ⟨p, hp, e⟩
      rw [← h p hp, e]
    · intro e
      cases g with
      | nil => exact absurd rfl hne
      | cons x r => exact ⟨x, List.mem_cons_self, by rw [h x List.mem_cons_self, e]⟩
  simp [this]
theorem pop_two0 : ∀ m, m < 8 → ∀ i, i < 3 → ∀ j, j < 3 → (decide (i = j) || (!(m.testBit i) || (!(m.testBit j) || decide (1 < popN m 0 20)))) = true := by decide +kernel
theorem pop_two {m : Nat} (hm : m < 8) {i : Nat} (hi : i < 3) {j : Nat} (hj : j < 3) (hne : i ≠ j) (h1 : m.testBit i = true) (h2 : m.testBit j = true) : 1 < popN m 0 20 := by
  have := pop_two0 m hm i hi j hj
  simp only [decide_eq_false hne, h1, h2, Bool.not_true, Bool.false_or, decide_eq_true_eq] at this
  exact this
theorem pop_le : ∀ m, m < 8 → popN m 0 20 ≤ 3 := by decide +kernel
section LF
variable {z : P0} {KL : Nat → Nat × Nat} {RL : Nat → Nat → Option Nat} {q : Nat → Nat} {b : Nat} {I : Nat → Nat → Int32} {L : Nat → Nat → Int64} {sz : Nat} {ex : Bool} {Q : Res → Mem → Prop} {A : Row}
variable {t W H n : Nat} {T : List Nat}
theorem l210 {m : Nat} (hm : m < 2147483648) (hf : ∀ p, p < A 6 → I (ad b 568) p = nI (A (33 + p))) (h6 : A 6 ≤ 20) (hf3 : ∀ p, p < A 6 → A (33 + p) < 3) : ∀ d p (rest : List Nat) f, p + d = 20 → rest.Pairwise (· < ·) → (∀ x ∈ rest, p ≤ x) → (∀ x ∈ rest, x < A 6) → (∀ j, p ≤ j → m.testBit j = decide (j ∈ rest)) →
    X z 210 5 [some (.ref (ad b t)), some (.int (nI m)), some (.ref (ad b 568)), some (.int (nI f)), some (.int (nI p))] [] (0, 0) (KAt KL b, I, RAt RL b q, L, sz, ex) Q = X z 210 37 [some (.ref (ad b t)), some (.int (nI m)), some (.ref (ad b 568)), some (.int (nI (fmM A f rest))), some (.int (nI 20))] [] (0, 0) (KAt KL b, I, RAt RL b q, L, sz, ex) Q := by
  intro d
  induction d with
  | zero =>
    intro p rest f h hs h1 h2 hb
    have : rest = [] := by
      cases rest with
      | nil => rfl
      | cons x r => have := h1 x List.mem_cons_self; have := h2 x List.mem_cons_self; omega
    subst this
    obtain rfl : p = 20 := by omega
    rw [v210_5]
    simp (disch := omega) only [v210_7, v210_9, v210_12, v210_13, v210_15, v210_16, v210_17, v210_18, v210_19, v210_22, v210_23, v210_24, v210_25, v210_27, v210_28, v210_29, v210_30, v210_31, v210_34, Nat.add_zero, n_cl, n_in_t, n_lt_t, n_lt_f, n_eq_t, n_eq_f, n_sub, nI_add, n_mul, n_01, ↓reduceIte, if_true, if_false, eq_self, true_or, or_true, and_self, and_true, true_and, Nat.reduceAdd, Nat.reduceMul, Nat.reduceLeDiff, Nat.zero_le, not_true_eq_false, not_false_eq_true, cat2_n, cat2_i, cat2_r, ws_0, ws_i, ws_r, ws_l, ws_d, aftr_n, aftr_s, bI_ok, bI_t, bI_f, up_s, up_n, n_bit, decide_true, decide_false, Bool.not_true, Bool.not_false, Bool.and_true, Bool.true_and, Bool.false_and, Bool.and_false, n_nlt0, n_neg_t, n_neg_f, k_0, k_566, k_567, k_568, k_569, k_570, k_571, k_572, k_573, k_574, k_575, k_576]
    rfl
  | succ d ih =>
    intro p rest f h hs h1 h2 hb
    rw [v210_5]
    rcases sorted_cases hs h1 with ⟨r, rfl, hr⟩ | ⟨hn1, hr⟩
    · have hbp : m.testBit p = true := by rw [hb p (Nat.le_refl _)]; exact decide_eq_true List.mem_cons_self
      have hp := h2 p List.mem_cons_self
      have m1 := hf p hp
      have m2 := hf3 p hp
      rw [List.pairwise_cons] at hs
      simp (disch := omega) only [v210_7, v210_9, v210_12, v210_13, v210_15, v210_16, v210_17, v210_18, v210_19, v210_22, v210_23, v210_24, v210_25, v210_27, v210_28, v210_29, v210_30, v210_31, v210_34, Nat.add_zero, n_cl, n_in_t, n_lt_t, n_lt_f, n_eq_t, n_eq_f, n_sub, nI_add, n_mul, n_01, ↓reduceIte, if_true, if_false, eq_self, true_or, or_true, and_self, and_true, true_and, Nat.reduceAdd, Nat.reduceMul, Nat.reduceLeDiff, Nat.zero_le, not_true_eq_false, not_false_eq_true, cat2_n, cat2_i, cat2_r, ws_0, ws_i, ws_r, ws_l, ws_d, aftr_n, aftr_s, bI_ok, bI_t, bI_f, up_s, up_n, n_bit, decide_true, decide_false, Bool.not_true, Bool.not_false, Bool.and_true, Bool.true_and, Bool.false_and, Bool.and_false, n_nlt0, n_neg_t, n_neg_f, k_0, k_566, k_567, k_568, k_569, k_570, k_571, k_572, k_573, k_574, k_575, k_576, hbp, m1, n_or, n_shl1]
      exact ih (p + 1) r (f ||| 2 ^ A (33 + p)) (by omega) hs.2 hr (fun x hx => h2 x (List.mem_cons_of_mem _ hx)) (fun j hj => by
        rw [hb j (by omega)]
        have : ¬ j = p := by omega
        simp [this])
    · have hbp : m.testBit p = false := by rw [hb p (Nat.le_refl _)]; exact decide_eq_false hn1
      simp (disch := omega) only [v210_7, v210_9, v210_12, v210_13, v210_15, v210_16, v210_17, v210_18, v210_19, v210_22, v210_23, v210_24, v210_25, v210_27, v210_28, v210_29, v210_30, v210_31, v210_34, Nat.add_zero, n_cl, n_in_t, n_lt_t, n_lt_f, n_eq_t, n_eq_f, n_sub, nI_add, n_mul, n_01, ↓reduceIte, if_true, if_false, eq_self, true_or, or_true, and_self, and_true, true_and, Nat.reduceAdd, Nat.reduceMul, Nat.reduceLeDiff, Nat.zero_le, not_true_eq_false, not_false_eq_true, cat2_n, cat2_i, cat2_r, ws_0, ws_i, ws_r, ws_l, ws_d, aftr_n, aftr_s, bI_ok, bI_t, bI_f, up_s, up_n, n_bit, decide_true, decide_false, Bool.not_true, Bool.not_false, Bool.and_true, Bool.true_and, Bool.false_and, Bool.and_false, n_nlt0, n_neg_t, n_neg_f, k_0, k_566, k_567, k_568, k_569, k_570, k_571, k_572, k_573, k_574, k_575, k_576, hbp]
      exact ih (p + 1) rest f (by omega) hs hr h2 (fun j hj => hb j (by omega))
set_option maxHeartbeats 4000000 in
theorem c210 {g : List Nat} (hg : Good A) (hk : KAt KL b (ad b t) = (20, 10)) (hW : 1 ≤ W ∧ W ≤ 40) (hH : 1 ≤ H ∧ H ≤ 20) (hs : g.Pairwise (· < ·)) (hne : g ≠ []) (h2 : ∀ x ∈ g, x < A 6) (hn : g.length ≤ 6) (hl : Lw b I A n) (ho : OS b I t W H T) (hT : T.length ≤ 1680) (hQ : ∀ I', OS b I' t W H (T ++ formT A g) → Ag (pS t) b I I' → Q (.inl none) (KAt KL b, I', RAt RL b q, L, sz, ex)) :
    X z 210 0 [some (.ref (ad b t)), some (.int (nI (maskL g))), some (.ref (ad b 568)), none, none] [] (0, 0) (KAt KL b, I, RAt RL b q, L, sz, ex) Q := by
  have h6 := hg.1.1
  have h20 : ∀ x ∈ g, x < 20 := fun x hx => by have := h2 x hx; omega
  have hm : maskL g < 2147483648 := Nat.lt_of_lt_of_le (maskL_lt (n := 20) h20) (by decide)
  have hf : ∀ p, p < A 6 → I (ad b 568) p = nI (A (33 + p)) := fun p hp => (hl.2.1 p hp).2.1
  have hf3 : ∀ p, p < A 6 → A (33 + p) < 3 := fun p hp => (hg.2.2.1 p hp).2.1
  have fl := fmM_lt (A := A) (g := g) (fun p hp => hf3 p (h2 p hp))
  have hh := head_min hs hne
  have f0 := hf3 _ (h2 _ hh.1)
  have pl := pop_le _ fl
  simp (disch := omega) only [v210_0, v210_1, v210_2, v210_3, Nat.add_zero, n_cl, n_in_t, n_lt_t, n_lt_f, n_eq_t, n_eq_f, n_sub, nI_add, n_mul, n_01, ↓reduceIte, if_true, if_false, eq_self, true_or, or_true, and_self, and_true, true_and, Nat.reduceAdd, Nat.reduceMul, Nat.reduceLeDiff, Nat.zero_le, not_true_eq_false, not_false_eq_true, cat2_n, cat2_i, cat2_r, ws_0, ws_i, ws_r, ws_l, ws_d, aftr_n, aftr_s, bI_ok, bI_t, bI_f, up_s, up_n, n_bit, decide_true, decide_false, Bool.not_true, Bool.not_false, Bool.and_true, Bool.true_and, Bool.false_and, Bool.and_false, n_nlt0, n_neg_t, n_neg_f, k_0, k_566, k_567, k_568, k_569, k_570, k_571, k_572, k_573, k_574, k_575, k_576, l210 hm hf h6 hf3 20 0 g 0 (by omega) hs (fun x _ => Nat.zero_le x) h2 (fun j _ => maskL_t), v210_37, u210_38, c206m]
  unfold formT at hQ
  by_cases e : g.all (fun p => A (33 + p) == A (33 + g.headD 0)) = true
  · rw [if_pos e] at hQ
    have sm : fmM A 0 g = 2 ^ A (33 + g.headD 0) := fmM_same hne (fun p hp => by
      have := List.all_eq_true.mp e p hp
      exact beq_iff_eq.mp this)
    have key : ∀ c, c = fsign (A (33 + g.headD 0)) → c < 1000 → X z 210 87 [some (.ref (ad b t)), some (.int (nI (maskL g))), some (.ref (ad b 568)), some (.int (nI (fmM A 0 g))), some (.int (nI 20))] [.int (nI c), .ref (ad b t)] (0, 0) (KAt KL b, I, RAt RL b q, L, sz, ex) Q := by
      rintro c rfl hc
      simp (disch := omega) only [u210_87, Nat.add_zero, n_cl, n_in_t, n_lt_t, n_lt_f, n_eq_t, n_eq_f, n_sub, nI_add, n_mul, n_01, ↓reduceIte, if_true, if_false, eq_self, true_or, or_true, and_self, and_true, true_and, Nat.reduceAdd, Nat.reduceMul, Nat.reduceLeDiff, Nat.zero_le, not_true_eq_false, not_false_eq_true, cat2_n, cat2_i, cat2_r, ws_0, ws_i, ws_r, ws_l, ws_d, aftr_n, aftr_s, bI_ok, bI_t, bI_f, up_s, up_n, n_bit, decide_true, decide_false, Bool.not_true, Bool.not_false, Bool.and_true, Bool.true_and, Bool.false_and, Bool.and_false, n_nlt0, n_neg_t, n_neg_f, k_0, k_566, k_567, k_568, k_569, k_570, k_571, k_572, k_573, k_574, k_575, k_576]
      refine c202 hk hW hH ho (by omega) hc (fun I1 g1 g2 => ?_)
      by_cases e2 : 1 < g.length
      · rw [if_pos e2] at hQ
        simp (disch := omega) only [v210_90, u210_91, v210_94, v210_95, v210_98, v210_99, u210_101, v210_104, Nat.add_zero, n_cl, n_in_t, n_lt_t, n_lt_f, n_eq_t, n_eq_f, n_sub, nI_add, n_mul, n_01, ↓reduceIte, if_true, if_false, eq_self, true_or, or_true, and_self, and_true, true_and, Nat.reduceAdd, Nat.reduceMul, Nat.reduceLeDiff, Nat.zero_le, not_true_eq_false, not_false_eq_true, cat2_n, cat2_i, cat2_r, ws_0, ws_i, ws_r, ws_l, ws_d, aftr_n, aftr_s, bI_ok, bI_t, bI_f, up_s, up_n, n_bit, decide_true, decide_false, Bool.not_true, Bool.not_false, Bool.and_true, Bool.true_and, Bool.false_and, Bool.and_false, n_nlt0, n_neg_t, n_neg_f, k_0, k_566, k_567, k_568, k_569, k_570, k_571, k_572, k_573, k_574, k_575, k_576, c206 hs h20]
        refine c202 hk hW hH g1 (by rw [List.length_append, List.length_singleton]; omega) (by omega) (fun I2 g3 g4 => ?_)
        simp (disch := omega) only [v210_90, u210_91, v210_94, v210_95, v210_98, v210_99, u210_101, v210_104, Nat.add_zero, n_cl, n_in_t, n_lt_t, n_lt_f, n_eq_t, n_eq_f, n_sub, nI_add, n_mul, n_01, ↓reduceIte, if_true, if_false, eq_self, true_or, or_true, and_self, and_true, true_and, Nat.reduceAdd, Nat.reduceMul, Nat.reduceLeDiff, Nat.zero_le, not_true_eq_false, not_false_eq_true, cat2_n, cat2_i, cat2_r, ws_0, ws_i, ws_r, ws_l, ws_d, aftr_n, aftr_s, bI_ok, bI_t, bI_f, up_s, up_n, n_bit, decide_true, decide_false, Bool.not_true, Bool.not_false, Bool.and_true, Bool.true_and, Bool.false_and, Bool.and_false, n_nlt0, n_neg_t, n_neg_f, k_0, k_566, k_567, k_568, k_569, k_570, k_571, k_572, k_573, k_574, k_575, k_576]
        exact hQ I2 (by rwa [List.append_assoc] at g3) (g2.tr g4)
      · rw [if_neg e2] at hQ
        simp (disch := omega) only [v210_90, u210_91, v210_94, v210_95, v210_98, v210_99, u210_101, v210_104, Nat.add_zero, n_cl, n_in_t, n_lt_t, n_lt_f, n_eq_t, n_eq_f, n_sub, nI_add, n_mul, n_01, ↓reduceIte, if_true, if_false, eq_self, true_or, or_true, and_self, and_true, true_and, Nat.reduceAdd, Nat.reduceMul, Nat.reduceLeDiff, Nat.zero_le, not_true_eq_false, not_false_eq_true, cat2_n, cat2_i, cat2_r, ws_0, ws_i, ws_r, ws_l, ws_d, aftr_n, aftr_s, bI_ok, bI_t, bI_f, up_s, up_n, n_bit, decide_true, decide_false, Bool.not_true, Bool.not_false, Bool.and_true, Bool.true_and, Bool.false_and, Bool.and_false, n_nlt0, n_neg_t, n_neg_f, k_0, k_566, k_567, k_568, k_569, k_570, k_571, k_572, k_573, k_574, k_575, k_576, c206 hs h20]
        exact hQ I1 g1 g2
    rcases (show A (33 + g.headD 0) = 0 ∨ A (33 + g.headD 0) = 1 ∨ A (33 + g.headD 0) = 2 by omega) with e3 | e3 | e3
    · have k := key 102 (by rw [e3]; rfl) (by omega)
      rw [sm, e3] at k ⊢
      have p1 : popN (2 ^ 0) 0 20 = 1 := by decide
      have p2 : (2 : Nat) ^ 0 = 1 := rfl
      rw [p1, p2]
      rw [p2] at k
      simp (disch := omega) only [v210_41, v210_42, v210_45, v210_46, u210_48, v210_51, v210_52, u210_54, v210_57, v210_58, u210_60, v210_63, v210_64, v210_65, v210_66, v210_67, v210_70, v210_72, v210_75, v210_76, v210_77, v210_80, v210_82, v210_85, Nat.add_zero, n_cl, n_in_t, n_lt_t, n_lt_f, n_eq_t, n_eq_f, n_sub, nI_add, n_mul, n_01, ↓reduceIte, if_true, if_false, eq_self, true_or, or_true, and_self, and_true, true_and, Nat.reduceAdd, Nat.reduceMul, Nat.reduceLeDiff, Nat.zero_le, not_true_eq_false, not_false_eq_true, cat2_n, cat2_i, cat2_r, ws_0, ws_i, ws_r, ws_l, ws_d, aftr_n, aftr_s, bI_ok, bI_t, bI_f, up_s, up_n, n_bit, decide_true, decide_false, Bool.not_true, Bool.not_false, Bool.and_true, Bool.true_and, Bool.false_and, Bool.and_false, n_nlt0, n_neg_t, n_neg_f, k_0, k_566, k_567, k_568, k_569, k_570, k_571, k_572, k_573, k_574, k_575, k_576]
      exact k
    · have k := key 109 (by rw [e3]; rfl) (by omega)
      rw [sm, e3] at k ⊢
      have p1 : popN (2 ^ 1) 0 20 = 1 := by decide
      have p2 : (2 : Nat) ^ 1 = 2 := rfl
      rw [p1, p2]
      rw [p2] at k
      simp (disch := omega) only [v210_41, v210_42, v210_45, v210_46, u210_48, v210_51, v210_52, u210_54, v210_57, v210_58, u210_60, v210_63, v210_64, v210_65, v210_66, v210_67, v210_70, v210_72, v210_75, v210_76, v210_77, v210_80, v210_82, v210_85, Nat.add_zero, n_cl, n_in_t, n_lt_t, n_lt_f, n_eq_t, n_eq_f, n_sub, nI_add, n_mul, n_01, ↓reduceIte, if_true, if_false, eq_self, true_or, or_true, and_self, and_true, true_and, Nat.reduceAdd, Nat.reduceMul, Nat.reduceLeDiff, Nat.zero_le, not_true_eq_false, not_false_eq_true, cat2_n, cat2_i, cat2_r, ws_0, ws_i, ws_r, ws_l, ws_d, aftr_n, aftr_s, bI_ok, bI_t, bI_f, up_s, up_n, n_bit, decide_true, decide_false, Bool.not_true, Bool.not_false, Bool.and_true, Bool.true_and, Bool.false_and, Bool.and_false, n_nlt0, n_neg_t, n_neg_f, k_0, k_566, k_567, k_568, k_569, k_570, k_571, k_572, k_573, k_574, k_575, k_576]
      exact k
    · have k := key 120 (by rw [e3]; rfl) (by omega)
      rw [sm, e3] at k ⊢
      have p1 : popN (2 ^ 2) 0 20 = 1 := by decide
      have p2 : (2 : Nat) ^ 2 = 4 := rfl
      rw [p1, p2]
      rw [p2] at k
      simp (disch := omega) only [v210_41, v210_42, v210_45, v210_46, u210_48, v210_51, v210_52, u210_54, v210_57, v210_58, u210_60, v210_63, v210_64, v210_65, v210_66, v210_67, v210_70, v210_72, v210_75, v210_76, v210_77, v210_80, v210_82, v210_85, Nat.add_zero, n_cl, n_in_t, n_lt_t, n_lt_f, n_eq_t, n_eq_f, n_sub, nI_add, n_mul, n_01, ↓reduceIte, if_true, if_false, eq_self, true_or, or_true, and_self, and_true, true_and, Nat.reduceAdd, Nat.reduceMul, Nat.reduceLeDiff, Nat.zero_le, not_true_eq_false, not_false_eq_true, cat2_n, cat2_i, cat2_r, ws_0, ws_i, ws_r, ws_l, ws_d, aftr_n, aftr_s, bI_ok, bI_t, bI_f, up_s, up_n, n_bit, decide_true, decide_false, Bool.not_true, Bool.not_false, Bool.and_true, Bool.true_and, Bool.false_and, Bool.and_false, n_nlt0, n_neg_t, n_neg_f, k_0, k_566, k_567, k_568, k_569, k_570, k_571, k_572, k_573, k_574, k_575, k_576]
      exact k
  · rw [if_neg e] at hQ
    have two : 1 < popN (fmM A 0 g) 0 20 := by
      have : ∃ p ∈ g, A (33 + p) ≠ A (33 + g.headD 0) := by
        refine Classical.byContradiction fun h => e (List.all_eq_true.mpr fun p hp => beq_iff_eq.mpr (Classical.byContradiction fun h1 => h ⟨p, hp, h1⟩))
      obtain ⟨p, hp, h1⟩ := this
      refine pop_two fl (hf3 p (h2 p hp)) f0 h1 ?_ ?_
      · rw [fmM_bit, Nat.zero_testBit, Bool.false_or]
        exact decide_eq_true ⟨p, hp, rfl⟩
      · rw [fmM_bit, Nat.zero_testBit, Bool.false_or]
        exact decide_eq_true ⟨_, hh.1, rfl⟩
    simp (disch := omega) only [v210_41, v210_42, v210_45, v210_46, u210_48, v210_51, v210_52, u210_54, v210_57, v210_58, u210_60, v210_63, Nat.add_zero, n_cl, n_in_t, n_lt_t, n_lt_f, n_eq_t, n_eq_f, n_sub, nI_add, n_mul, n_01, ↓reduceIte, if_true, if_false, eq_self, true_or, or_true, and_self, and_true, true_and, Nat.reduceAdd, Nat.reduceMul, Nat.reduceLeDiff, Nat.zero_le, not_true_eq_false, not_false_eq_true, cat2_n, cat2_i, cat2_r, ws_0, ws_i, ws_r, ws_l, ws_d, aftr_n, aftr_s, bI_ok, bI_t, bI_f, up_s, up_n, n_bit, decide_true, decide_false, Bool.not_true, Bool.not_false, Bool.and_true, Bool.true_and, Bool.false_and, Bool.and_false, n_nlt0, n_neg_t, n_neg_f, k_0, k_566, k_567, k_568, k_569, k_570, k_571, k_572, k_573, k_574, k_575, k_576]
    refine c202 hk hW hH ho (by omega) (by omega) (fun I1 g1 g2 => ?_)
    simp (disch := omega) only [v210_41, v210_42, v210_45, v210_46, u210_48, v210_51, v210_52, u210_54, v210_57, v210_58, u210_60, v210_63, Nat.add_zero, n_cl, n_in_t, n_lt_t, n_lt_f, n_eq_t, n_eq_f, n_sub, nI_add, n_mul, n_01, ↓reduceIte, if_true, if_false, eq_self, true_or, or_true, and_self, and_true, true_and, Nat.reduceAdd, Nat.reduceMul, Nat.reduceLeDiff, Nat.zero_le, not_true_eq_false, not_false_eq_true, cat2_n, cat2_i, cat2_r, ws_0, ws_i, ws_r, ws_l, ws_d, aftr_n, aftr_s, bI_ok, bI_t, bI_f, up_s, up_n, n_bit, decide_true, decide_false, Bool.not_true, Bool.not_false, Bool.and_true, Bool.true_and, Bool.false_and, Bool.and_false, n_nlt0, n_neg_t, n_neg_f, k_0, k_566, k_567, k_568, k_569, k_570, k_571, k_572, k_573, k_574, k_575, k_576]
    refine c202 hk hW hH g1 (by rw [List.length_append, List.length_singleton]; omega) (by omega) (fun I2 g3 g4 => ?_)
    simp (disch := omega) only [v210_41, v210_42, v210_45, v210_46, u210_48, v210_51, v210_52, u210_54, v210_57, v210_58, u210_60, v210_63, Nat.add_zero, n_cl, n_in_t, n_lt_t, n_lt_f, n_eq_t, n_eq_f, n_sub, nI_add, n_mul, n_01, ↓reduceIte, if_true, if_false, eq_self, true_or, or_true, and_self, and_true, true_and, Nat.reduceAdd, Nat.reduceMul, Nat.reduceLeDiff, Nat.zero_le, not_true_eq_false, not_false_eq_true, cat2_n, cat2_i, cat2_r, ws_0, ws_i, ws_r, ws_l, ws_d, aftr_n, aftr_s, bI_ok, bI_t, bI_f, up_s, up_n, n_bit, decide_true, decide_false, Bool.not_true, Bool.not_false, Bool.and_true, Bool.true_and, Bool.false_and, Bool.and_false, n_nlt0, n_neg_t, n_neg_f, k_0, k_566, k_567, k_568, k_569, k_570, k_571, k_572, k_573, k_574, k_575, k_576]
    refine c202 hk hW hH g3 (by simp only [List.length_append, List.length_singleton]; omega) (by omega) (fun I3 g5 g6 => ?_)
    simp (disch := omega) only [v210_41, v210_42, v210_45, v210_46, u210_48, v210_51, v210_52, u210_54, v210_57, v210_58, u210_60, v210_63, Nat.add_zero, n_cl, n_in_t, n_lt_t, n_lt_f, n_eq_t, n_eq_f, n_sub, nI_add, n_mul, n_01, ↓reduceIte, if_true, if_false, eq_self, true_or, or_true, and_self, and_true, true_and, Nat.reduceAdd, Nat.reduceMul, Nat.reduceLeDiff, Nat.zero_le, not_true_eq_false, not_false_eq_true, cat2_n, cat2_i, cat2_r, ws_0, ws_i, ws_r, ws_l, ws_d, aftr_n, aftr_s, bI_ok, bI_t, bI_f, up_s, up_n, n_bit, decide_true, decide_false, Bool.not_true, Bool.not_false, Bool.and_true, Bool.true_and, Bool.false_and, Bool.and_false, n_nlt0, n_neg_t, n_neg_f, k_0, k_566, k_567, k_568, k_569, k_570, k_571, k_572, k_573, k_574, k_575, k_576]
    exact hQ I3 (by simpa [List.append_assoc] using g5) ((g2.tr g4).tr g6)
set_option maxHeartbeats 8000000 in
theorem l211 {g : List Nat} (hg : Good A) (hlt : LwT A) (hk : KAt KL b (ad b t) = (20, 10)) (ht : 577 ≤ t) (h : OkL A g) : ∀ d i (j : Bool) I T, i + d = A 12 → Lw b I A n → OS b I t (A 0) (A 1) T → T.length * 3 + 83 * ((segF (fun k => A (413 + k)) i d).flatMap exT).length ≤ 5000 →
    (∀ I', OE b I' t (A 0) (A 1) (T ++ textF A g j (segF (fun k => A (413 + k)) i d)) → Ag (pS t) b I I' → Q (.inl none) (KAt KL b, I', RAt RL b q, L, sz, ex)) → X z 211 18 [some (.ref (ad b t)), some (.ref (ad b 566)), some (.int (nI (maskL g))), some (.ref (ad b 575)), some (.ref (ad b 569)), some (.ref (ad b 568)), some (.ref (ad b 573)), some (.ref (ad b 574)), some (.int (bI j)), some (.int (nI i))] [] (0, 0) (KAt KL b, I, RAt RL b q, L, sz, ex) Q := by
  have h12 := hlt.2.2.2.2
  have hW : 1 ≤ A 0 ∧ A 0 ≤ 40 := by have := hg.2.1; omega
  have hH : 1 ≤ A 1 ∧ A 1 ≤ 20 := by have := hg.2.1; omega
  have h4 := h.2.2.2.1
  have hs := h.1
  have h6 := hg.1.1
  have h20 : ∀ x ∈ g, x < 20 := fun x hx => by have := h.2.2.1 x hx; omega
  have gl : 1 ≤ g.length := List.length_pos_iff.mpr h.2.1
  intro d
  induction d with
  | zero =>
    intro i j I T hi hl ho hL hQ
    have m2 := hl.1.1.2.2.1
    rw [v211_18]
    simp (disch := omega) only [v211_20, v211_21, v211_22, v211_23, v211_183, u211_184, v211_187, Nat.add_zero, n_cl, n_in_t, n_lt_t, n_lt_f, n_eq_t, n_eq_f, n_sub, nI_add, n_mul, n_01, ↓reduceIte, if_true, if_false, eq_self, true_or, or_true, and_self, and_true, true_and, Nat.reduceAdd, Nat.reduceMul, Nat.reduceLeDiff, Nat.zero_le, not_true_eq_false, not_false_eq_true, cat2_n, cat2_i, cat2_r, ws_0, ws_i, ws_r, ws_l, ws_d, aftr_n, aftr_s, bI_ok, bI_t, bI_f, up_s, up_n, n_bit, decide_true, decide_false, Bool.not_true, Bool.not_false, Bool.and_true, Bool.true_and, Bool.false_and, Bool.and_false, n_nlt0, n_neg_t, n_neg_f, k_0, k_566, k_567, k_568, k_569, k_570, k_571, k_572, k_573, k_574, k_575, k_576, m2]
    refine c203 hk hW hH ho (by omega) (fun I1 g1 g2 => ?_)
    simp (disch := omega) only [v211_183, u211_184, v211_187, Nat.add_zero, n_cl, n_in_t, n_lt_t, n_lt_f, n_eq_t, n_eq_f, n_sub, nI_add, n_mul, n_01, ↓reduceIte, if_true, if_false, eq_self, true_or, or_true, and_self, and_true, true_and, Nat.reduceAdd, Nat.reduceMul, Nat.reduceLeDiff, Nat.zero_le, not_true_eq_false, not_false_eq_true, cat2_n, cat2_i, cat2_r, ws_0, ws_i, ws_r, ws_l, ws_d, aftr_n, aftr_s, bI_ok, bI_t, bI_f, up_s, up_n, n_bit, decide_true, decide_false, Bool.not_true, Bool.not_false, Bool.and_true, Bool.true_and, Bool.false_and, Bool.and_false, n_nlt0, n_neg_t, n_neg_f, k_0, k_566, k_567, k_568, k_569, k_570, k_571, k_572, k_573, k_574, k_575, k_576]
    exact hQ I1 (by unfold segF textF; rwa [List.append_nil]) g2
  | succ d ih =>
    intro i j I T hi hl ho hL hQ
    have m2 := hl.1.1.2.2.1
    have mi := hl.2.2.2 i (by omega)
    have ok := hg.tok (k := i) (by omega)
    have okl := ok.lt
    have hw : A (413 + i) = 375 → hasW A = true := fun e => (toks_ok hg (A (413 + i)) ((segF_mem _ _).mpr ⟨i, by omega, by rw [Nat.zero_add]⟩)).2 e
    unfold segF at hL hQ
    rw [List.flatMap_cons, List.length_append] at hL
    unfold textF at hQ
    have il := itemT_len hg h ok hw
    have il2 : (exT (A (413 + i))).length ≤ 3 := by unfold exT; split <;> simp
    rw [v211_18]
    by_cases e1 : A (413 + i) = 123
    · rw [if_pos e1] at hQ
      simp (disch := omega) only [v211_20, v211_21, v211_22, v211_23, v211_26, v211_27, v211_29, v211_30, v211_32, v211_35, v211_36, v211_38, v211_39, v211_41, v211_44, v211_45, v211_47, v211_48, v211_50, v211_53, v211_54, v211_57, v211_58, v211_60, v211_63, v211_65, v211_68, u211_69, v211_72, v211_73, v211_76, v211_79, v211_80, v211_82, v211_83, v211_86, v211_89, v211_90, v211_91, v211_92, v211_94, v211_96, u211_98, v211_101, v211_104, v211_105, v211_107, v211_108, v211_111, v211_114, v211_115, v211_116, v211_117, v211_119, v211_121, u211_123, v211_126, v211_129, v211_130, v211_132, v211_133, v211_136, v211_139, v211_140, v211_141, u211_143, v211_146, v211_149, v211_150, v211_151, v211_153, v211_154, v211_157, v211_160, v211_162, u211_163, v211_166, v211_167, v211_170, v211_171, v211_173, u211_174, v211_177, v211_180, Nat.add_zero, n_cl, n_in_t, n_lt_t, n_lt_f, n_eq_t, n_eq_f, n_sub, nI_add, n_mul, n_01, ↓reduceIte, if_true, if_false, eq_self, true_or, or_true, and_self, and_true, true_and, Nat.reduceAdd, Nat.reduceMul, Nat.reduceLeDiff, Nat.zero_le, not_true_eq_false, not_false_eq_true, cat2_n, cat2_i, cat2_r, ws_0, ws_i, ws_r, ws_l, ws_d, aftr_n, aftr_s, bI_ok, bI_t, bI_f, up_s, up_n, n_bit, decide_true, decide_false, Bool.not_true, Bool.not_false, Bool.and_true, Bool.true_and, Bool.false_and, Bool.and_false, n_nlt0, n_neg_t, n_neg_f, k_0, k_566, k_567, k_568, k_569, k_570, k_571, k_572, k_573, k_574, k_575, k_576, m2, mi]
      exact ih (i + 1) true I T (by omega) hl ho (by omega) hQ
    · rw [if_neg e1] at hQ
      by_cases e2 : A (413 + i) = 125
      · rw [if_pos e2] at hQ
        simp (disch := omega) only [v211_20, v211_21, v211_22, v211_23, v211_26, v211_27, v211_29, v211_30, v211_32, v211_35, v211_36, v211_38, v211_39, v211_41, v211_44, v211_45, v211_47, v211_48, v211_50, v211_53, v211_54, v211_57, v211_58, v211_60, v211_63, v211_65, v211_68, u211_69, v211_72, v211_73, v211_76, v211_79, v211_80, v211_82, v211_83, v211_86, v211_89, v211_90, v211_91, v211_92, v211_94, v211_96, u211_98, v211_101, v211_104, v211_105, v211_107, v211_108, v211_111, v211_114, v211_115, v211_116, v211_117, v211_119, v211_121, u211_123, v211_126, v211_129, v211_130, v211_132, v211_133, v211_136, v211_139, v211_140, v211_141, u211_143, v211_146, v211_149, v211_150, v211_151, v211_153, v211_154, v211_157, v211_160, v211_162, u211_163, v211_166, v211_167, v211_170, v211_171, v211_173, u211_174, v211_177, v211_180, Nat.add_zero, n_cl, n_in_t, n_lt_t, n_lt_f, n_eq_t, n_eq_f, n_sub, nI_add, n_mul, n_01, ↓reduceIte, if_true, if_false, eq_self, true_or, or_true, and_self, and_true, true_and, Nat.reduceAdd, Nat.reduceMul, Nat.reduceLeDiff, Nat.zero_le, not_true_eq_false, not_false_eq_true, cat2_n, cat2_i, cat2_r, ws_0, ws_i, ws_r, ws_l, ws_d, aftr_n, aftr_s, bI_ok, bI_t, bI_f, up_s, up_n, n_bit, decide_true, decide_false, Bool.not_true, Bool.not_false, Bool.and_true, Bool.true_and, Bool.false_and, Bool.and_false, n_nlt0, n_neg_t, n_neg_f, k_0, k_566, k_567, k_568, k_569, k_570, k_571, k_572, k_573, k_574, k_575, k_576, m2, mi]
        exact ih (i + 1) false I T (by omega) hl ho (by omega) hQ
      · rw [if_neg e2] at hQ
        have said : (j = false ∨ 1 < g.length) → X z 211 79 [some (.ref (ad b t)), some (.ref (ad b 566)), some (.int (nI (maskL g))), some (.ref (ad b 575)), some (.ref (ad b 569)), some (.ref (ad b 568)), some (.ref (ad b 573)), some (.ref (ad b 574)), some (.int (bI j)), some (.int (nI i))] [] (0, 0) (KAt KL b, I, RAt RL b q, L, sz, ex) Q := by
          intro hj
          rw [if_pos hj] at hQ
          have nx : ∀ I1, OS b I1 t (A 0) (A 1) (T ++ itemT A g (A (413 + i))) → Ag (pS t) b I I1 → X z 211 177 [some (.ref (ad b t)), some (.ref (ad b 566)), some (.int (nI (maskL g))), some (.ref (ad b 575)), some (.ref (ad b 569)), some (.ref (ad b 568)), some (.ref (ad b 573)), some (.ref (ad b 574)), some (.int (bI j)), some (.int (nI i))] [] (0, 0) (KAt KL b, I1, RAt RL b q, L, sz, ex) Q := by
            intro I1 g1 g2
            simp (disch := omega) only [v211_177, v211_180, Nat.add_zero, n_cl, n_in_t, n_lt_t, n_lt_f, n_eq_t, n_eq_f, n_sub, nI_add, n_mul, n_01, ↓reduceIte, if_true, if_false, eq_self, true_or, or_true, and_self, and_true, true_and, Nat.reduceAdd, Nat.reduceMul, Nat.reduceLeDiff, Nat.zero_le, not_true_eq_false, not_false_eq_true, cat2_n, cat2_i, cat2_r, ws_0, ws_i, ws_r, ws_l, ws_d, aftr_n, aftr_s, bI_ok, bI_t, bI_f, up_s, up_n, n_bit, decide_true, decide_false, Bool.not_true, Bool.not_false, Bool.and_true, Bool.true_and, Bool.false_and, Bool.and_false, n_nlt0, n_neg_t, n_neg_f, k_0, k_566, k_567, k_568, k_569, k_570, k_571, k_572, k_573, k_574, k_575, k_576]
            refine ih (i + 1) j I1 _ (by omega) (hl.ag g2 (pLw_s ht)) g1 (by rw [List.length_append]; omega) (fun I2 g3 g4 => hQ I2 ?_ (g2.tr g4))
            unfold itemT at g3
            rwa [List.append_assoc] at g3
          unfold itemT at nx
          rcases ok with ok | ok | ok | ok | ok
          · rw [if_pos ok.1] at nx
            simp (disch := omega) only [v211_79, v211_80, v211_82, v211_83, v211_86, v211_89, v211_90, v211_91, v211_92, v211_94, v211_96, u211_98, v211_101, v211_104, v211_105, v211_107, v211_108, v211_111, v211_114, v211_115, v211_116, v211_117, v211_119, v211_121, u211_123, v211_126, v211_129, v211_130, v211_132, v211_133, v211_136, v211_139, v211_140, v211_141, u211_143, v211_146, v211_149, v211_150, v211_151, v211_153, v211_154, v211_157, v211_160, v211_162, u211_163, v211_166, v211_167, v211_170, v211_171, v211_173, u211_174, Nat.add_zero, n_cl, n_in_t, n_lt_t, n_lt_f, n_eq_t, n_eq_f, n_sub, nI_add, n_mul, n_01, ↓reduceIte, if_true, if_false, eq_self, true_or, or_true, and_self, and_true, true_and, Nat.reduceAdd, Nat.reduceMul, Nat.reduceLeDiff, Nat.zero_le, not_true_eq_false, not_false_eq_true, cat2_n, cat2_i, cat2_r, ws_0, ws_i, ws_r, ws_l, ws_d, aftr_n, aftr_s, bI_ok, bI_t, bI_f, up_s, up_n, n_bit, decide_true, decide_false, Bool.not_true, Bool.not_false, Bool.and_true, Bool.true_and, Bool.false_and, Bool.and_false, n_nlt0, n_neg_t, n_neg_f, k_0, k_566, k_567, k_568, k_569, k_570, k_571, k_572, k_573, k_574, k_575, k_576, mi]
            refine c202 hk hW hH ho (by omega) (by omega) (fun I1 g1 g2 => ?_)
            simp only [aftr_n, Nat.reduceAdd]
            exact nx I1 g1 g2
          · rw [if_neg (by omega)] at nx
            have ft : fieldT A g (A (413 + i) - 256) = [48 + g.length] := by
              rw [ok]; rfl
            rw [ft] at nx
            unfold itemT at il
            rw [if_neg (by omega), ft] at il
            simp (disch := omega) only [v211_79, v211_80, v211_82, v211_83, v211_86, v211_89, v211_90, v211_91, v211_92, v211_94, v211_96, u211_98, v211_101, v211_104, v211_105, v211_107, v211_108, v211_111, v211_114, v211_115, v211_116, v211_117, v211_119, v211_121, u211_123, v211_126, v211_129, v211_130, v211_132, v211_133, v211_136, v211_139, v211_140, v211_141, u211_143, v211_146, v211_149, v211_150, v211_151, v211_153, v211_154, v211_157, v211_160, v211_162, u211_163, v211_166, v211_167, v211_170, v211_171, v211_173, u211_174, Nat.add_zero, n_cl, n_in_t, n_lt_t, n_lt_f, n_eq_t, n_eq_f, n_sub, nI_add, n_mul, n_01, ↓reduceIte, if_true, if_false, eq_self, true_or, or_true, and_self, and_true, true_and, Nat.reduceAdd, Nat.reduceMul, Nat.reduceLeDiff, Nat.zero_le, not_true_eq_false, not_false_eq_true, cat2_n, cat2_i, cat2_r, ws_0, ws_i, ws_r, ws_l, ws_d, aftr_n, aftr_s, bI_ok, bI_t, bI_f, up_s, up_n, n_bit, decide_true, decide_false, Bool.not_true, Bool.not_false, Bool.and_true, Bool.true_and, Bool.false_and, Bool.and_false, n_nlt0, n_neg_t, n_neg_f, k_0, k_566, k_567, k_568, k_569, k_570, k_571, k_572, k_573, k_574, k_575, k_576, mi, ok, c206 hs h20]
            refine c202 hk hW hH ho (by omega) (by omega) (fun I1 g1 g2 => ?_)
            simp only [aftr_n, Nat.reduceAdd]
            exact nx I1 g1 g2
          · rw [if_neg (by omega)] at nx
            have ft : fieldT A g (A (413 + i) - 256) = formT A g := by
              rw [ok]; rfl
            rw [ft] at nx
            unfold itemT at il
            rw [if_neg (by omega), ft] at il
            simp (disch := omega) only [v211_79, v211_80, v211_82, v211_83, v211_86, v211_89, v211_90, v211_91, v211_92, v211_94, v211_96, u211_98, v211_101, v211_104, v211_105, v211_107, v211_108, v211_111, v211_114, v211_115, v211_116, v211_117, v211_119, v211_121, u211_123, v211_126, v211_129, v211_130, v211_132, v211_133, v211_136, v211_139, v211_140, v211_141, u211_143, v211_146, Nat.add_zero, n_cl, n_in_t, n_lt_t, n_lt_f, n_eq_t, n_eq_f, n_sub, nI_add, n_mul, n_01, ↓reduceIte, if_true, if_false, eq_self, true_or, or_true, and_self, and_true, true_and, Nat.reduceAdd, Nat.reduceMul, Nat.reduceLeDiff, Nat.zero_le, not_true_eq_false, not_false_eq_true, cat2_n, cat2_i, cat2_r, ws_0, ws_i, ws_r, ws_l, ws_d, aftr_n, aftr_s, bI_ok, bI_t, bI_f, up_s, up_n, n_bit, decide_true, decide_false, Bool.not_true, Bool.not_false, Bool.and_true, Bool.true_and, Bool.false_and, Bool.and_false, n_nlt0, n_neg_t, n_neg_f, k_0, k_566, k_567, k_568, k_569, k_570, k_571, k_572, k_573, k_574, k_575, k_576, mi, ok]
            refine c210 hg hk hW hH hs h.2.1 h.2.2.1 h4 hl ho (by omega) (fun I1 g1 g2 => ?_)
            simp (disch := omega) only [v211_79, v211_80, v211_82, v211_83, v211_86, v211_89, v211_90, v211_91, v211_92, v211_94, v211_96, u211_98, v211_101, v211_104, v211_105, v211_107, v211_108, v211_111, v211_114, v211_115, v211_116, v211_117, v211_119, v211_121, u211_123, v211_126, v211_129, v211_130, v211_132, v211_133, v211_136, v211_139, v211_140, v211_141, u211_143, v211_146, Nat.add_zero, n_cl, n_in_t, n_lt_t, n_lt_f, n_eq_t, n_eq_f, n_sub, nI_add, n_mul, n_01, ↓reduceIte, if_true, if_false, eq_self, true_or, or_true, and_self, and_true, true_and, Nat.reduceAdd, Nat.reduceMul, Nat.reduceLeDiff, Nat.zero_le, not_true_eq_false, not_false_eq_true, cat2_n, cat2_i, cat2_r, ws_0, ws_i, ws_r, ws_l, ws_d, aftr_n, aftr_s, bI_ok, bI_t, bI_f, up_s, up_n, n_bit, decide_true, decide_false, Bool.not_true, Bool.not_false, Bool.and_true, Bool.true_and, Bool.false_and, Bool.and_false, n_nlt0, n_neg_t, n_neg_f, k_0, k_566, k_567, k_568, k_569, k_570, k_571, k_572, k_573, k_574, k_575, k_576]
            exact nx I1 g1 g2
          · rw [if_neg (by omega)] at nx
            have ft : fieldT A g (A (413 + i) - 256) = namesT A g := by
              rw [ok]; rfl
            rw [ft] at nx
            unfold itemT at il
            rw [if_neg (by omega), ft] at il
            have nl := namesT_len hg h
            simp (disch := omega) only [v211_79, v211_80, v211_82, v211_83, v211_86, v211_89, v211_90, v211_91, v211_92, v211_94, v211_96, u211_98, v211_101, Nat.add_zero, n_cl, n_in_t, n_lt_t, n_lt_f, n_eq_t, n_eq_f, n_sub, nI_add, n_mul, n_01, ↓reduceIte, if_true, if_false, eq_self, true_or, or_true, and_self, and_true, true_and, Nat.reduceAdd, Nat.reduceMul, Nat.reduceLeDiff, Nat.zero_le, not_true_eq_false, not_false_eq_true, cat2_n, cat2_i, cat2_r, ws_0, ws_i, ws_r, ws_l, ws_d, aftr_n, aftr_s, bI_ok, bI_t, bI_f, up_s, up_n, n_bit, decide_true, decide_false, Bool.not_true, Bool.not_false, Bool.and_true, Bool.true_and, Bool.false_and, Bool.and_false, n_nlt0, n_neg_t, n_neg_f, k_0, k_566, k_567, k_568, k_569, k_570, k_571, k_572, k_573, k_574, k_575, k_576, mi, ok]
            refine c209n hg hlt hk hW hH ht hs h.2.2.1 h4 hl ho (by omega) (fun I1 g1 g2 => ?_)
            simp (disch := omega) only [v211_79, v211_80, v211_82, v211_83, v211_86, v211_89, v211_90, v211_91, v211_92, v211_94, v211_96, u211_98, v211_101, Nat.add_zero, n_cl, n_in_t, n_lt_t, n_lt_f, n_eq_t, n_eq_f, n_sub, nI_add, n_mul, n_01, ↓reduceIte, if_true, if_false, eq_self, true_or, or_true, and_self, and_true, true_and, Nat.reduceAdd, Nat.reduceMul, Nat.reduceLeDiff, Nat.zero_le, not_true_eq_false, not_false_eq_true, cat2_n, cat2_i, cat2_r, ws_0, ws_i, ws_r, ws_l, ws_d, aftr_n, aftr_s, bI_ok, bI_t, bI_f, up_s, up_n, n_bit, decide_true, decide_false, Bool.not_true, Bool.not_false, Bool.and_true, Bool.true_and, Bool.false_and, Bool.and_false, n_nlt0, n_neg_t, n_neg_f, k_0, k_566, k_567, k_568, k_569, k_570, k_571, k_572, k_573, k_574, k_575, k_576]
            exact nx I1 g1 g2
          · have hw' := hw ok
            rw [if_neg (by omega)] at nx
            have ft : fieldT A g (A (413 + i) - 256) = wordsT A g := by
              rw [ok]; rfl
            rw [ft] at nx
            unfold itemT at il
            rw [if_neg (by omega), ft] at il
            have nl := wordsT_len hg h hw'
            simp (disch := omega) only [v211_79, v211_80, v211_82, v211_83, v211_86, v211_89, v211_90, v211_91, v211_92, v211_94, v211_96, u211_98, v211_101, v211_104, v211_105, v211_107, v211_108, v211_111, v211_114, v211_115, v211_116, v211_117, v211_119, v211_121, u211_123, v211_126, Nat.add_zero, n_cl, n_in_t, n_lt_t, n_lt_f, n_eq_t, n_eq_f, n_sub, nI_add, n_mul, n_01, ↓reduceIte, if_true, if_false, eq_self, true_or, or_true, and_self, and_true, true_and, Nat.reduceAdd, Nat.reduceMul, Nat.reduceLeDiff, Nat.zero_le, not_true_eq_false, not_false_eq_true, cat2_n, cat2_i, cat2_r, ws_0, ws_i, ws_r, ws_l, ws_d, aftr_n, aftr_s, bI_ok, bI_t, bI_f, up_s, up_n, n_bit, decide_true, decide_false, Bool.not_true, Bool.not_false, Bool.and_true, Bool.true_and, Bool.false_and, Bool.and_false, n_nlt0, n_neg_t, n_neg_f, k_0, k_566, k_567, k_568, k_569, k_570, k_571, k_572, k_573, k_574, k_575, k_576, mi, ok]
            refine c209w hg hlt hk hW hH ht hs h.2.2.1 (h.2.2.2.2 hw') h4 hl ho (by omega) (fun I1 g1 g2 => ?_)
            simp (disch := omega) only [v211_79, v211_80, v211_82, v211_83, v211_86, v211_89, v211_90, v211_91, v211_92, v211_94, v211_96, u211_98, v211_101, v211_104, v211_105, v211_107, v211_108, v211_111, v211_114, v211_115, v211_116, v211_117, v211_119, v211_121, u211_123, v211_126, Nat.add_zero, n_cl, n_in_t, n_lt_t, n_lt_f, n_eq_t, n_eq_f, n_sub, nI_add, n_mul, n_01, ↓reduceIte, if_true, if_false, eq_self, true_or, or_true, and_self, and_true, true_and, Nat.reduceAdd, Nat.reduceMul, Nat.reduceLeDiff, Nat.zero_le, not_true_eq_false, not_false_eq_true, cat2_n, cat2_i, cat2_r, ws_0, ws_i, ws_r, ws_l, ws_d, aftr_n, aftr_s, bI_ok, bI_t, bI_f, up_s, up_n, n_bit, decide_true, decide_false, Bool.not_true, Bool.not_false, Bool.and_true, Bool.true_and, Bool.false_and, Bool.and_false, n_nlt0, n_neg_t, n_neg_f, k_0, k_566, k_567, k_568, k_569, k_570, k_571, k_572, k_573, k_574, k_575, k_576]
            exact nx I1 g1 g2
        cases j with
        | false =>
          have := said (Or.inl rfl)
          rw [bI_f] at this ⊢
          simp (disch := omega) only [v211_20, v211_21, v211_22, v211_23, v211_26, v211_27, v211_29, v211_30, v211_32, v211_35, v211_36, v211_38, v211_39, v211_41, v211_44, v211_45, v211_47, v211_48, v211_50, v211_53, v211_54, v211_57, v211_58, v211_60, v211_63, v211_65, v211_68, u211_69, v211_72, v211_73, v211_76, Nat.add_zero, n_cl, n_in_t, n_lt_t, n_lt_f, n_eq_t, n_eq_f, n_sub, nI_add, n_mul, n_01, ↓reduceIte, if_true, if_false, eq_self, true_or, or_true, and_self, and_true, true_and, Nat.reduceAdd, Nat.reduceMul, Nat.reduceLeDiff, Nat.zero_le, not_true_eq_false, not_false_eq_true, cat2_n, cat2_i, cat2_r, ws_0, ws_i, ws_r, ws_l, ws_d, aftr_n, aftr_s, bI_ok, bI_t, bI_f, up_s, up_n, n_bit, decide_true, decide_false, Bool.not_true, Bool.not_false, Bool.and_true, Bool.true_and, Bool.false_and, Bool.and_false, n_nlt0, n_neg_t, n_neg_f, k_0, k_566, k_567, k_568, k_569, k_570, k_571, k_572, k_573, k_574, k_575, k_576, m2, mi]
          exact this
        | true =>
          by_cases e3 : 1 < g.length
          · have := said (Or.inr e3)
            rw [bI_t] at this ⊢
            simp (disch := omega) only [v211_20, v211_21, v211_22, v211_23, v211_26, v211_27, v211_29, v211_30, v211_32, v211_35, v211_36, v211_38, v211_39, v211_41, v211_44, v211_45, v211_47, v211_48, v211_50, v211_53, v211_54, v211_57, v211_58, v211_60, v211_63, v211_65, v211_68, u211_69, v211_72, v211_73, v211_76, Nat.add_zero, n_cl, n_in_t, n_lt_t, n_lt_f, n_eq_t, n_eq_f, n_sub, nI_add, n_mul, n_01, ↓reduceIte, if_true, if_false, eq_self, true_or, or_true, and_self, and_true, true_and, Nat.reduceAdd, Nat.reduceMul, Nat.reduceLeDiff, Nat.zero_le, not_true_eq_false, not_false_eq_true, cat2_n, cat2_i, cat2_r, ws_0, ws_i, ws_r, ws_l, ws_d, aftr_n, aftr_s, bI_ok, bI_t, bI_f, up_s, up_n, n_bit, decide_true, decide_false, Bool.not_true, Bool.not_false, Bool.and_true, Bool.true_and, Bool.false_and, Bool.and_false, n_nlt0, n_neg_t, n_neg_f, k_0, k_566, k_567, k_568, k_569, k_570, k_571, k_572, k_573, k_574, k_575, k_576, m2, mi, c206 hs h20]
            exact this
          · rw [if_neg (fun x => x.elim (fun y => by cases y) e3), List.nil_append] at hQ
            simp (disch := omega) only [v211_20, v211_21, v211_22, v211_23, v211_26, v211_27, v211_29, v211_30, v211_32, v211_35, v211_36, v211_38, v211_39, v211_41, v211_44, v211_45, v211_47, v211_48, v211_50, v211_53, v211_54, v211_57, v211_58, v211_60, v211_63, v211_65, v211_68, u211_69, v211_72, v211_73, v211_76, v211_177, v211_180, Nat.add_zero, n_cl, n_in_t, n_lt_t, n_lt_f, n_eq_t, n_eq_f, n_sub, nI_add, n_mul, n_01, ↓reduceIte, if_true, if_false, eq_self, true_or, or_true, and_self, and_true, true_and, Nat.reduceAdd, Nat.reduceMul, Nat.reduceLeDiff, Nat.zero_le, not_true_eq_false, not_false_eq_true, cat2_n, cat2_i, cat2_r, ws_0, ws_i, ws_r, ws_l, ws_d, aftr_n, aftr_s, bI_ok, bI_t, bI_f, up_s, up_n, n_bit, decide_true, decide_false, Bool.not_true, Bool.not_false, Bool.and_true, Bool.true_and, Bool.false_and, Bool.and_false, n_nlt0, n_neg_t, n_neg_f, k_0, k_566, k_567, k_568, k_569, k_570, k_571, k_572, k_573, k_574, k_575, k_576, m2, mi, c206 hs h20]
            exact ih (i + 1) true I T (by omega) hl ho (by omega) hQ
theorem c211 {g : List Nat} (hg : Good A) (hlt : LwT A) (hk : KAt KL b (ad b t) = (20, 10)) (ht : 577 ≤ t) (h : OkL A g) (hl : Lw b I A n) (hQ : ∀ I', OE b I' t (A 0) (A 1) (textT A g) → Ag (pS t) b I I' → Q (.inl none) (KAt KL b, I', RAt RL b q, L, sz, ex)) : X z 211 0 [some (.ref (ad b t)), some (.ref (ad b 566)), some (.int (nI (maskL g))), some (.ref (ad b 575)), some (.ref (ad b 569)), some (.ref (ad b 568)), some (.ref (ad b 573)), some (.ref (ad b 574)), none, none] [] (0, 0) (KAt KL b, I, RAt RL b q, L, sz, ex) Q := by
  have h2 := hg.2.2.2.2.2
  unfold raw toks at h2
  have m8 : I (ad b 566) 8 = nI (A 0) := hl.1.2 0 (by omega)
  have m9 : I (ad b 566) 9 = nI (A 1) := hl.1.2 1 (by omega)
  simp (disch := omega) only [v211_0, v211_1, v211_2, v211_4, v211_5, v211_6, v211_8, u211_9, Nat.add_zero, n_cl, n_in_t, n_lt_t, n_lt_f, n_eq_t, n_eq_f, n_sub, nI_add, n_mul, n_01, ↓reduceIte, if_true, if_false, eq_self, true_or, or_true, and_self, and_true, true_and, Nat.reduceAdd, Nat.reduceMul, Nat.reduceLeDiff, Nat.zero_le, not_true_eq_false, not_false_eq_true, cat2_n, cat2_i, cat2_r, ws_0, ws_i, ws_r, ws_l, ws_d, aftr_n, aftr_s, bI_ok, bI_t, bI_f, up_s, up_n, n_bit, decide_true, decide_false, Bool.not_true, Bool.not_false, Bool.and_true, Bool.true_and, Bool.false_and, Bool.and_false, n_nlt0, n_neg_t, n_neg_f, k_0, k_566, k_567, k_568, k_569, k_570, k_571, k_572, k_573, k_574, k_575, k_576, m8, m9]
  refine c198 hk (fun I1 g1 g2 => ?_)
  simp (disch := omega) only [v211_12, v211_13, v211_15, v211_16, Nat.add_zero, n_cl, n_in_t, n_lt_t, n_lt_f, n_eq_t, n_eq_f, n_sub, nI_add, n_mul, n_01, ↓reduceIte, if_true, if_false, eq_self, true_or, or_true, and_self, and_true, true_and, Nat.reduceAdd, Nat.reduceMul, Nat.reduceLeDiff, Nat.zero_le, not_true_eq_false, not_false_eq_true, cat2_n, cat2_i, cat2_r, ws_0, ws_i, ws_r, ws_l, ws_d, aftr_n, aftr_s, bI_ok, bI_t, bI_f, up_s, up_n, n_bit, decide_true, decide_false, Bool.not_true, Bool.not_false, Bool.and_true, Bool.true_and, Bool.false_and, Bool.and_false, n_nlt0, n_neg_t, n_neg_f, k_0, k_566, k_567, k_568, k_569, k_570, k_571, k_572, k_573, k_574, k_575, k_576]
  have := l211 (Q := Q) (z := z) (KL := KL) (RL := RL) (q := q) (L := L) (sz := sz) (ex := ex) hg hlt hk ht h (A 12) 0 false I1 [] (by omega) (hl.ag g2 (pLw_s ht)) g1 (by rw [List.length_nil]; omega) (fun I' g3 g4 => hQ I' (by rwa [List.nil_append] at g3) (g2.tr g4))
  rwa [bI_f] at this
/-- whether the letter has the field of words -/
theorem l204 (hl : Lw b I A n) (hg : Good A) (h12 : A 12 ≤ 24) : ∀ d i, i + d = A 12 → X z 204 2 [some (.ref (ad b 566)), some (.ref (ad b 575)), some (.int (nI 119)), some (.int (nI i))] [] (0, 0) (KAt KL b, I, RAt RL b q, L, sz, ex) Q = Q (.inl (some (.int (bI ((segF (fun k => A (413 + k)) i d).any (fun t => t == 375)))))) (KAt KL b, I, RAt RL b q, L, sz, ex) := by
  have m2 := hl.1.1.2.2.1
  intro d
  induction d with
  | zero =>
    intro i h
    rw [v204_2]
    simp (disch := omega) only [v204_3, v204_4, v204_5, v204_6, v204_9, v204_10, v204_11, v204_12, v204_15, v204_16, v204_17, v204_20, v204_21, v204_22, v204_25, v204_28, v204_29, Nat.add_zero, n_cl, n_in_t, n_lt_t, n_lt_f, n_eq_t, n_eq_f, n_sub, nI_add, n_mul, n_01, ↓reduceIte, if_true, if_false, eq_self, true_or, or_true, and_self, and_true, true_and, Nat.reduceAdd, Nat.reduceMul, Nat.reduceLeDiff, Nat.zero_le, not_true_eq_false, not_false_eq_true, cat2_n, cat2_i, cat2_r, ws_0, ws_i, ws_r, ws_l, ws_d, aftr_n, aftr_s, bI_ok, bI_t, bI_f, up_s, up_n, n_bit, decide_true, decide_false, Bool.not_true, Bool.not_false, Bool.and_true, Bool.true_and, Bool.false_and, Bool.and_false, n_nlt0, n_neg_t, n_neg_f, k_0, k_566, k_567, k_568, k_569, k_570, k_571, k_572, k_573, k_574, k_575, k_576, m2]
    rfl
  | succ d ih =>
    intro i h
    have mi := hl.2.2.2 i (by omega)
    have okl := (hg.tok (k := i) (by omega)).lt
    rw [v204_2]
    unfold segF
    rw [List.any_cons]
    by_cases e : A (413 + i) = 375
    · rw [show (A (413 + i) == 375) = true from beq_iff_eq.mpr e, Bool.true_or]
      simp (disch := omega) only [v204_3, v204_4, v204_5, v204_6, v204_9, v204_10, v204_11, v204_12, v204_15, v204_16, v204_17, v204_20, v204_21, v204_22, v204_25, v204_28, v204_29, Nat.add_zero, n_cl, n_in_t, n_lt_t, n_lt_f, n_eq_t, n_eq_f, n_sub, nI_add, n_mul, n_01, ↓reduceIte, if_true, if_false, eq_self, true_or, or_true, and_self, and_true, true_and, Nat.reduceAdd, Nat.reduceMul, Nat.reduceLeDiff, Nat.zero_le, not_true_eq_false, not_false_eq_true, cat2_n, cat2_i, cat2_r, ws_0, ws_i, ws_r, ws_l, ws_d, aftr_n, aftr_s, bI_ok, bI_t, bI_f, up_s, up_n, n_bit, decide_true, decide_false, Bool.not_true, Bool.not_false, Bool.and_true, Bool.true_and, Bool.false_and, Bool.and_false, n_nlt0, n_neg_t, n_neg_f, k_0, k_566, k_567, k_568, k_569, k_570, k_571, k_572, k_573, k_574, k_575, k_576, m2, mi]
    · rw [show (A (413 + i) == 375) = false from beq_eq_false_iff_ne.mpr e, Bool.false_or]
      simp (disch := omega) only [v204_3, v204_4, v204_5, v204_6, v204_9, v204_10, v204_11, v204_12, v204_15, v204_16, v204_17, v204_20, v204_21, v204_22, v204_25, v204_28, v204_29, Nat.add_zero, n_cl, n_in_t, n_lt_t, n_lt_f, n_eq_t, n_eq_f, n_sub, nI_add, n_mul, n_01, ↓reduceIte, if_true, if_false, eq_self, true_or, or_true, and_self, and_true, true_and, Nat.reduceAdd, Nat.reduceMul, Nat.reduceLeDiff, Nat.zero_le, not_true_eq_false, not_false_eq_true, cat2_n, cat2_i, cat2_r, ws_0, ws_i, ws_r, ws_l, ws_d, aftr_n, aftr_s, bI_ok, bI_t, bI_f, up_s, up_n, n_bit, decide_true, decide_false, Bool.not_true, Bool.not_false, Bool.and_true, Bool.true_and, Bool.false_and, Bool.and_false, n_nlt0, n_neg_t, n_neg_f, k_0, k_566, k_567, k_568, k_569, k_570, k_571, k_572, k_573, k_574, k_575, k_576, m2, mi, ih (i + 1)]
theorem c204 (hl : Lw b I A n) (hg : Good A) (h12 : A 12 ≤ 24) : X z 204 0 [some (.ref (ad b 566)), some (.ref (ad b 575)), some (.int (nI 119)), none] [] (0, 0) (KAt KL b, I, RAt RL b q, L, sz, ex) Q = Q (.inl (some (.int (bI (hasW A))))) (KAt KL b, I, RAt RL b q, L, sz, ex) := by
  simp (disch := omega) only [v204_0, v204_1, Nat.add_zero, n_cl, n_in_t, n_lt_t, n_lt_f, n_eq_t, n_eq_f, n_sub, nI_add, n_mul, n_01, ↓reduceIte, if_true, if_false, eq_self, true_or, or_true, and_self, and_true, true_and, Nat.reduceAdd, Nat.reduceMul, Nat.reduceLeDiff, Nat.zero_le, not_true_eq_false, not_false_eq_true, cat2_n, cat2_i, cat2_r, ws_0, ws_i, ws_r, ws_l, ws_d, aftr_n, aftr_s, bI_ok, bI_t, bI_f, up_s, up_n, n_bit, decide_true, decide_false, Bool.not_true, Bool.not_false, Bool.and_true, Bool.true_and, Bool.false_and, Bool.and_false, n_nlt0, n_neg_t, n_neg_f, k_0, k_566, k_567, k_568, k_569, k_570, k_571, k_572, k_573, k_574, k_575, k_576, l204 hl hg h12 (A 12) 0]
  rfl
theorem c205 {p : Nat} (hl : Lw b I A n) (hg : Good A) (hm : Sm A) (h12 : A 12 ≤ 24) (hp : p < A 6) : X z 205 0 [some (.ref (ad b 566)), some (.ref (ad b 569)), some (.ref (ad b 570)), some (.ref (ad b 571)), some (.ref (ad b 575)), some (.int (nI p))] [] (0, 0) (KAt KL b, I, RAt RL b q, L, sz, ex) Q = Q (.inl (some (.int (nI (reas A p (A 8)))))) (KAt KL b, I, RAt RL b q, L, sz, ex) := by
  have h6 := hg.1.1
  have h7 := hg.1.2.1
  have h8 := hg.1.2.2.2
  have h3 := hg.2.1
  have ml := hl.2.1 p hp
  obtain ⟨-, -, n1, n2, n3, -, -⟩ := ml
  have m3 := hl.1.1.2.2.2.1
  have m11 : I (ad b 566) 11 = nI (A 3) := hl.1.2 3 (by omega)
  obtain ⟨-, -, g1, g2, g3, -⟩ := hg.2.2.1 p hp
  unfold reas
  by_cases e1 : A (73 + p) = 1
  · rw [if_pos e1]
    simp (disch := omega) only [v205_0, v205_1, v205_3, v205_4, v205_5, v205_8, v205_9, v205_10, v205_11, v205_13, v205_14, v205_17, v205_18, v205_20, v205_21, v205_22, v205_24, v205_25, v205_26, v205_27, v205_28, v205_29, v205_32, v205_33, v205_34, v205_35, v205_37, v205_38, v205_41, v205_42, v205_44, u205_46, v205_49, v205_52, v205_53, v205_56, v205_57, Nat.add_zero, n_cl, n_in_t, n_lt_t, n_lt_f, n_eq_t, n_eq_f, n_sub, nI_add, n_mul, n_01, ↓reduceIte, if_true, if_false, eq_self, true_or, or_true, and_self, and_true, true_and, Nat.reduceAdd, Nat.reduceMul, Nat.reduceLeDiff, Nat.zero_le, not_true_eq_false, not_false_eq_true, cat2_n, cat2_i, cat2_r, ws_0, ws_i, ws_r, ws_l, ws_d, aftr_n, aftr_s, bI_ok, bI_t, bI_f, up_s, up_n, n_bit, decide_true, decide_false, Bool.not_true, Bool.not_false, Bool.and_true, Bool.true_and, Bool.false_and, Bool.and_false, n_nlt0, n_neg_t, n_neg_f, k_0, k_566, k_567, k_568, k_569, k_570, k_571, k_572, k_573, k_574, k_575, k_576, n2]
  · rw [if_neg e1]
    by_cases e2 : A (93 + p) = 4294967295
    · rw [if_neg (fun x => x.1 e2)]
      by_cases e4 : A (53 + p) = 4294967295
      · cases e5 : hasW A with
        | true =>
          rw [if_pos ⟨e4, rfl⟩]
          simp (disch := omega) only [v205_0, v205_1, v205_3, v205_4, v205_5, v205_8, v205_9, v205_10, v205_11, v205_13, v205_14, v205_17, v205_18, v205_20, v205_21, v205_22, v205_24, v205_25, v205_26, v205_27, v205_28, v205_29, v205_32, v205_33, v205_34, v205_35, v205_37, v205_38, v205_41, v205_42, v205_44, u205_46, v205_49, v205_52, v205_53, v205_56, v205_57, Nat.add_zero, n_cl, n_in_t, n_lt_t, n_lt_f, n_eq_t, n_eq_f, n_sub, nI_add, n_mul, n_01, ↓reduceIte, if_true, if_false, eq_self, true_or, or_true, and_self, and_true, true_and, Nat.reduceAdd, Nat.reduceMul, Nat.reduceLeDiff, Nat.zero_le, not_true_eq_false, not_false_eq_true, cat2_n, cat2_i, cat2_r, ws_0, ws_i, ws_r, ws_l, ws_d, aftr_n, aftr_s, bI_ok, bI_t, bI_f, up_s, up_n, n_bit, decide_true, decide_false, Bool.not_true, Bool.not_false, Bool.and_true, Bool.true_and, Bool.false_and, Bool.and_false, n_nlt0, n_neg_t, n_neg_f, k_0, k_566, k_567, k_568, k_569, k_570, k_571, k_572, k_573, k_574, k_575, k_576, n1, n2, n3, e2, e4, c204 hl hg h12, e5]
        | false =>
          rw [if_neg (fun x => by cases x.2)]
          simp (disch := omega) only [v205_0, v205_1, v205_3, v205_4, v205_5, v205_8, v205_9, v205_10, v205_11, v205_13, v205_14, v205_17, v205_18, v205_20, v205_21, v205_22, v205_24, v205_25, v205_26, v205_27, v205_28, v205_29, v205_32, v205_33, v205_34, v205_35, v205_37, v205_38, v205_41, v205_42, v205_44, u205_46, v205_49, v205_52, v205_53, v205_56, v205_57, Nat.add_zero, n_cl, n_in_t, n_lt_t, n_lt_f, n_eq_t, n_eq_f, n_sub, nI_add, n_mul, n_01, ↓reduceIte, if_true, if_false, eq_self, true_or, or_true, and_self, and_true, true_and, Nat.reduceAdd, Nat.reduceMul, Nat.reduceLeDiff, Nat.zero_le, not_true_eq_false, not_false_eq_true, cat2_n, cat2_i, cat2_r, ws_0, ws_i, ws_r, ws_l, ws_d, aftr_n, aftr_s, bI_ok, bI_t, bI_f, up_s, up_n, n_bit, decide_true, decide_false, Bool.not_true, Bool.not_false, Bool.and_true, Bool.true_and, Bool.false_and, Bool.and_false, n_nlt0, n_neg_t, n_neg_f, k_0, k_566, k_567, k_568, k_569, k_570, k_571, k_572, k_573, k_574, k_575, k_576, n1, n2, n3, e2, e4, c204 hl hg h12, e5]
      · rw [if_neg (fun x => e4 x.1)]
        simp (disch := omega) only [v205_0, v205_1, v205_3, v205_4, v205_5, v205_8, v205_9, v205_10, v205_11, v205_13, v205_14, v205_17, v205_18, v205_20, v205_21, v205_22, v205_24, v205_25, v205_26, v205_27, v205_28, v205_29, v205_32, v205_33, v205_34, v205_35, v205_37, v205_38, v205_41, v205_42, v205_44, u205_46, v205_49, v205_52, v205_53, v205_56, v205_57, Nat.add_zero, n_cl, n_in_t, n_lt_t, n_lt_f, n_eq_t, n_eq_f, n_sub, nI_add, n_mul, n_01, ↓reduceIte, if_true, if_false, eq_self, true_or, or_true, and_self, and_true, true_and, Nat.reduceAdd, Nat.reduceMul, Nat.reduceLeDiff, Nat.zero_le, not_true_eq_false, not_false_eq_true, cat2_n, cat2_i, cat2_r, ws_0, ws_i, ws_r, ws_l, ws_d, aftr_n, aftr_s, bI_ok, bI_t, bI_f, up_s, up_n, n_bit, decide_true, decide_false, Bool.not_true, Bool.not_false, Bool.and_true, Bool.true_and, Bool.false_and, Bool.and_false, n_nlt0, n_neg_t, n_neg_f, k_0, k_566, k_567, k_568, k_569, k_570, k_571, k_572, k_573, k_574, k_575, k_576, n1, n2, n3, e2]
    · by_cases e3 : A 8 - A (93 + p) < A 3
      · rw [if_pos ⟨e2, e3⟩]
        simp (disch := omega) only [v205_0, v205_1, v205_3, v205_4, v205_5, v205_8, v205_9, v205_10, v205_11, v205_13, v205_14, v205_17, v205_18, v205_20, v205_21, v205_22, v205_24, v205_25, v205_26, v205_27, v205_28, v205_29, v205_32, v205_33, v205_34, v205_35, v205_37, v205_38, v205_41, v205_42, v205_44, u205_46, v205_49, v205_52, v205_53, v205_56, v205_57, Nat.add_zero, n_cl, n_in_t, n_lt_t, n_lt_f, n_eq_t, n_eq_f, n_sub, nI_add, n_mul, n_01, ↓reduceIte, if_true, if_false, eq_self, true_or, or_true, and_self, and_true, true_and, Nat.reduceAdd, Nat.reduceMul, Nat.reduceLeDiff, Nat.zero_le, not_true_eq_false, not_false_eq_true, cat2_n, cat2_i, cat2_r, ws_0, ws_i, ws_r, ws_l, ws_d, aftr_n, aftr_s, bI_ok, bI_t, bI_f, up_s, up_n, n_bit, decide_true, decide_false, Bool.not_true, Bool.not_false, Bool.and_true, Bool.true_and, Bool.false_and, Bool.and_false, n_nlt0, n_neg_t, n_neg_f, k_0, k_566, k_567, k_568, k_569, k_570, k_571, k_572, k_573, k_574, k_575, k_576, n2, n3, m3, m11]
      · rw [if_neg (fun x => e3 x.2)]
        by_cases e4 : A (53 + p) = 4294967295
        · cases e5 : hasW A with
          | true =>
            rw [if_pos ⟨e4, rfl⟩]
            simp (disch := omega) only [v205_0, v205_1, v205_3, v205_4, v205_5, v205_8, v205_9, v205_10, v205_11, v205_13, v205_14, v205_17, v205_18, v205_20, v205_21, v205_22, v205_24, v205_25, v205_26, v205_27, v205_28, v205_29, v205_32, v205_33, v205_34, v205_35, v205_37, v205_38, v205_41, v205_42, v205_44, u205_46, v205_49, v205_52, v205_53, v205_56, v205_57, Nat.add_zero, n_cl, n_in_t, n_lt_t, n_lt_f, n_eq_t, n_eq_f, n_sub, nI_add, n_mul, n_01, ↓reduceIte, if_true, if_false, eq_self, true_or, or_true, and_self, and_true, true_and, Nat.reduceAdd, Nat.reduceMul, Nat.reduceLeDiff, Nat.zero_le, not_true_eq_false, not_false_eq_true, cat2_n, cat2_i, cat2_r, ws_0, ws_i, ws_r, ws_l, ws_d, aftr_n, aftr_s, bI_ok, bI_t, bI_f, up_s, up_n, n_bit, decide_true, decide_false, Bool.not_true, Bool.not_false, Bool.and_true, Bool.true_and, Bool.false_and, Bool.and_false, n_nlt0, n_neg_t, n_neg_f, k_0, k_566, k_567, k_568, k_569, k_570, k_571, k_572, k_573, k_574, k_575, k_576, n1, n2, n3, m3, m11, e4, c204 hl hg h12, e5]
          | false =>
            rw [if_neg (fun x => by cases x.2)]
            simp (disch := omega) only [v205_0, v205_1, v205_3, v205_4, v205_5, v205_8, v205_9, v205_10, v205_11, v205_13, v205_14, v205_17, v205_18, v205_20, v205_21, v205_22, v205_24, v205_25, v205_26, v205_27, v205_28, v205_29, v205_32, v205_33, v205_34, v205_35, v205_37, v205_38, v205_41, v205_42, v205_44, u205_46, v205_49, v205_52, v205_53, v205_56, v205_57, Nat.add_zero, n_cl, n_in_t, n_lt_t, n_lt_f, n_eq_t, n_eq_f, n_sub, nI_add, n_mul, n_01, ↓reduceIte, if_true, if_false, eq_self, true_or, or_true, and_self, and_true, true_and, Nat.reduceAdd, Nat.reduceMul, Nat.reduceLeDiff, Nat.zero_le, not_true_eq_false, not_false_eq_true, cat2_n, cat2_i, cat2_r, ws_0, ws_i, ws_r, ws_l, ws_d, aftr_n, aftr_s, bI_ok, bI_t, bI_f, up_s, up_n, n_bit, decide_true, decide_false, Bool.not_true, Bool.not_false, Bool.and_true, Bool.true_and, Bool.false_and, Bool.and_false, n_nlt0, n_neg_t, n_neg_f, k_0, k_566, k_567, k_568, k_569, k_570, k_571, k_572, k_573, k_574, k_575, k_576, n1, n2, n3, m3, m11, e4, c204 hl hg h12, e5]
        · rw [if_neg (fun x => e4 x.1)]
          simp (disch := omega) only [v205_0, v205_1, v205_3, v205_4, v205_5, v205_8, v205_9, v205_10, v205_11, v205_13, v205_14, v205_17, v205_18, v205_20, v205_21, v205_22, v205_24, v205_25, v205_26, v205_27, v205_28, v205_29, v205_32, v205_33, v205_34, v205_35, v205_37, v205_38, v205_41, v205_42, v205_44, u205_46, v205_49, v205_52, v205_53, v205_56, v205_57, Nat.add_zero, n_cl, n_in_t, n_lt_t, n_lt_f, n_eq_t, n_eq_f, n_sub, nI_add, n_mul, n_01, ↓reduceIte, if_true, if_false, eq_self, true_or, or_true, and_self, and_true, true_and, Nat.reduceAdd, Nat.reduceMul, Nat.reduceLeDiff, Nat.zero_le, not_true_eq_false, not_false_eq_true, cat2_n, cat2_i, cat2_r, ws_0, ws_i, ws_r, ws_l, ws_d, aftr_n, aftr_s, bI_ok, bI_t, bI_f, up_s, up_n, n_bit, decide_true, decide_false, Bool.not_true, Bool.not_false, Bool.and_true, Bool.true_and, Bool.false_and, Bool.and_false, n_nlt0, n_neg_t, n_neg_f, k_0, k_566, k_567, k_568, k_569, k_570, k_571, k_572, k_573, k_574, k_575, k_576, n1, n2, n3, m3, m11]
end LF
