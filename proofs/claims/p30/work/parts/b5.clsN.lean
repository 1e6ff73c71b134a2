/-! THE CLASS: its state, its simple calls -/
def leastV (k : Nat) : Nat := if k = 0 then 5 else if k = 3 then 0 else 1
def mostV (k : Nat) : Nat := if k = 0 then 40 else if k = 1 then 20 else if k = 2 then 6 else if k = 3 then 30 else if k = 4 then 9 else 20
theorem okV_lm {k v : Nat} (hk : k ≤ 5) : okV k v = decide (leastV k ≤ v ∧ v ≤ mostV k) := by
  unfold okV leastV mostV
  rcases (show k = 0 ∨ k = 1 ∨ k = 2 ∨ k = 3 ∨ k = 4 ∨ k = 5 by omega) with rfl | rfl | rfl | rfl | rfl | rfl <;> simp
/-- the class's fixed rows -/
def SV (KL : Nat → Nat × Nat) (b : Nat) (I : Nat → Nat → Int32) (z : P0) : Prop := (z.1 1 < b ∧ KL (z.1 1) = (50, 6) ∧ ∀ k, k < 6 → I (z.1 1) k = nI (leastV k)) ∧ (z.1 2 < b ∧ KL (z.1 2) = (50, 6) ∧ ∀ k, k < 6 → I (z.1 2) k = nI (mostV k))
def CSt (b : Nat) (I : Nat → Nat → Int32) (q : Nat → Nat) (w : Wd) : Prop := SR b I sN w.1 ∧ QK q ∧ HS b I q w.2.1 w.2.2.1 ∧ BR b I w.2.2.2
def pCls (o _j : Nat) : Prop := o < 566
/-- the answer of the class: its return, its throw (by number) -/
def CQ (b : Nat) (I : Nat → Nat → Int32) (q : Nat → Nat) (s : Ans) (P : Nat → (Nat → Nat → Int32) → (Nat → Nat) → Prop) (X : Nat → (Nat → Nat → Int32) → Prop) : Prop :=
  (s.1 = 0 → ∀ I' q', CSt b I' q' s.2.2 → Ag pCls b I I' → P s.2.1 I' q') ∧ (s.1 ≠ 0 → ∀ I', CSt b I' q s.2.2 → Ag pCls b I I' → X s.1 I')
theorem toks_upr {A : Row} {k v : Nat} (hk : k ≠ 12 ∧ k < 413) : toks (upr A k v) = toks A := by
  unfold toks
  rw [upr_n (by omega)]
  have key : ∀ d i, segF (fun j => upr A k v (413 + j)) i d = segF (fun j => A (413 + j)) i d := by
    intro d
    induction d with
    | zero => intro i; rfl
    | succ d ih => intro i; unfold segF; rw [ih, upr_n (by omega)]
  exact key _ _
section CN
variable {z : P0} {KL : Nat → Nat × Nat} {RL : Nat → Nat → Option Nat} {q : Nat → Nat} {b : Nat} {I : Nat → Nat → Int32} {L : Nat → Nat → Int64} {sz : Nat} {ex : Bool} {Q : Res → Mem → Prop} {A : Row}
variable {n : Nat} {H : Nat → Row} {B : List Nat} {s : Nat}
theorem SP.fld {f base p v : Nat} (hf : (f = 2 ∧ base = 13) ∨ (f = 4 ∧ base = 53) ∨ (f = 5 ∧ base = 73) ∨ (f = 6 ∧ base = 93) ∨ (f = 7 ∧ base = 113)) (h : SP b I s A) (hp : p < A 6) (h6 : A 6 ≤ 20) (h7 : A 7 ≤ 10) : SP b (up2 I (ad b (s + 6 + 2 * p)) f (nI v)) s (upr A (base + p) v) := by
  obtain ⟨⟨a1, a2, a3, a4, a5, a6⟩, a7, a8, a9⟩ := h
  refine ⟨⟨?_, ?_, ?_, ?_, ?_, ?_⟩, fun i hi => ?_, fun w hw => ?_, ?_⟩
  · rw [up_n (by omega), upr_n (by omega)]; exact a1
  · rw [up_n (by omega), upr_n (by omega)]; exact a2
  · rw [up_n (by omega), upr_n (by omega)]; exact a3
  · rw [up_n (by omega), upr_n (by omega)]; exact a4
  · rw [up_n (by omega), upr_n (by omega)]; exact a5
  · rw [up_n (by omega), upr_n (by omega)]; exact a6
  · rw [upr_n (by omega)] at hi
    obtain ⟨b1, b2, b3, b4, b5, b6, b7, b8⟩ := a7 i hi
    have fl : ∀ f' base', ((f' = 2 ∧ base' = 13) ∨ (f' = 4 ∧ base' = 53) ∨ (f' = 5 ∧ base' = 73) ∨ (f' = 6 ∧ base' = 93) ∨ (f' = 7 ∧ base' = 113)) → I (ad b (s + 6 + 2 * i)) f' = nI (A (base' + i)) → up2 I (ad b (s + 6 + 2 * p)) f (nI v) (ad b (s + 6 + 2 * i)) f' = nI (upr A (base + p) v (base' + i)) := by
      intro f' base' hf' hv
      by_cases e : i = p ∧ f' = f
      · obtain ⟨e1, e2⟩ := e
        have e3 : base' = base := by omega
        rw [e1, e2, e3, up_s, upr_s]
      · rw [up_n (by omega), upr_n (by omega)]; exact hv
    refine ⟨by rw [up_n (by omega), upr_n (by omega)]; exact b1, fl 2 13 (by omega) b2, by rw [up_n (by omega), upr_n (by omega)]; exact b3, fl 4 53 (by omega) b4, fl 5 73 (by omega) b5, fl 6 93 (by omega) b6, fl 7 113 (by omega) b7, fun k hk => ?_⟩
    rw [upr_n (by omega)] at hk
    rw [up_n (by omega), upr_n (by omega)]
    exact b8 k hk
  · rw [upr_n (by omega)] at hw
    obtain ⟨b1, b2, b3⟩ := a8 w hw
    refine ⟨by rw [up_n (by omega), upr_n (by omega)]; exact b1, by rw [up_n (by omega), upr_n (by omega)]; exact b2, fun k hk => ?_⟩
    rw [upr_n (by omega)] at hk
    rw [up_n (by omega), upr_n (by omega)]
    exact b3 k hk
  · unfold IR raw
    rw [toks_upr (by omega)]
    exact ⟨by rw [up_n (by omega)]; exact a9.1, fun k hk => by rw [up_n (by omega)]; exact a9.2 k hk⟩
theorem SR.fld {f base p v : Nat} (hf : (f = 2 ∧ base = 13) ∨ (f = 4 ∧ base = 53) ∨ (f = 5 ∧ base = 73) ∨ (f = 6 ∧ base = 93) ∨ (f = 7 ∧ base = 113)) (h : SR b I s A) (hp : p < A 6) (h6 : A 6 ≤ 20) (h7 : A 7 ≤ 10) : SR b (up2 I (ad b (s + 6 + 2 * p)) f (nI v)) s (upr A (base + p) v) :=
  ⟨h.1.fld hf hp h6 h7, fun k hk => by rw [up_n (by omega), upr_n (by omega)]; exact h.2 k hk⟩
theorem BR.ag {P : Nat → Nat → Prop} {I' : Nat → Nat → Int32} (h : BR b I B) (hg : Ag P b I I') (h1 : ¬ P 465 1) (h2 : ∀ j, ¬ P 466 j) : BR b I' B := ⟨(hg.at h1).trans h.1, h.2.1, fun k hk => (hg.at (h2 k)).trans (h.2.2.1 k hk), h.2.2.2⟩
theorem HS.ag {P : Nat → Nat → Prop} {I' : Nat → Nat → Int32} (hq : QK q) (hH : ∀ j, j < n → Good (H j)) (h : HS b I q n H) (hg : Ag P b I I') (hP : ∀ o j, P o j → ¬ (o = 67 ∧ j = 1) ∧ ¬ (69 ≤ o ∧ o < 465)) : HS b I' q n H := by
  refine ⟨⟨(hg.at (fun x => (hP _ _ x).1 ⟨rfl, rfl⟩)).trans h.1.1, h.1.2⟩, fun j hj => ?_⟩
  have gj := hH j hj
  have hn := h.1.2
  have sp := hq.sep (j := j) (by omega)
  exact (h.2 j hj).ag gj.1.1 gj.1.2.1 hg (fun o j' x y w => (hP _ _ w).2 ⟨by omega, by omega⟩)
/-- nothing but the scratch rows is changed -/
theorem CSt.scr {w : Wd} {I' : Nat → Nat → Int32} {P : Nat → Nat → Prop} (hg : GoodW w) (h : CSt b I q w) (ha : Ag P b I I') (hP : ∀ o j, P o j → 467 ≤ o) : CSt b I' q w := by
  obtain ⟨h1, h2, h3, h4⟩ := h
  have sn : sN = 1 := rfl
  exact ⟨h1.ag hg.1.1.1 hg.1.1.2.1 ha (fun o j x y z => by have := hP o j z; omega), h2, h3.ag h2 hg.2 ha (fun o j z => by have := hP o j z; omega), h4.ag ha (fun z => by have := hP _ _ z; omega) (fun j z => by have := hP _ _ z; omega)⟩
theorem pKp_c : ∀ o j, pKp o j → pCls o j := fun o j h => by unfold pKp at h; unfold pCls; omega
theorem c85 {a : Nat} {σ : Mem} (ha : a < 4294967296) : X z 85 0 [some (.int (nI a))] [] (0, 0) σ Q = Q (.inl (some (.int (bI (decide (a ≤ 19)))))) σ := by
  obtain ⟨K, I, R, L, sz, ex⟩ := σ
  by_cases e : a ≤ 19
  · rw [decide_eq_true e]; simp (disch := omega) only [v85_0, v85_1, v85_4, v85_5, v85_7, v85_10, v85_11, v85_14, v85_15, n_cl, n_in_t, n_lt_t, n_lt_f, n_eq_t, n_eq_f, n_sub, nI_add, n_mul, n_01, ↓reduceIte, if_true, if_false, eq_self, true_or, or_true, and_self, and_true, true_and, Nat.reduceAdd, Nat.reduceMul, Nat.reduceLeDiff, Nat.zero_le, not_true_eq_false, not_false_eq_true, cat2_n, cat2_i, cat2_r, ws_0, ws_i, ws_r, ws_l, ws_d, aftr_n, aftr_s, bI_ok, bI_t, bI_f, up_s, up_n, n_bit, decide_true, decide_false, Bool.not_true, Bool.not_false, Bool.and_true, Bool.true_and, Bool.false_and, Bool.and_false, va_rf_s, n_nlt0, k_0, k_67, k_68, k_465, k_466, k_467, k_468, k_469, k_470, k_471, k_472, k_565, r_0_0, r_0_1, r_0_2, r_0_3, r_0_4, r_0_5, r_67_0, r_465_0, r_467_0, r_467_2, r_470_0, r_470_1, va_rf_s, n_neg_t, n_neg_f]
  · rw [decide_eq_false e]
    by_cases e2 : a < 2147483648
    · simp (disch := omega) only [v85_0, v85_1, v85_4, v85_5, v85_7, v85_10, v85_11, v85_14, v85_15, n_cl, n_in_t, n_lt_t, n_lt_f, n_eq_t, n_eq_f, n_sub, nI_add, n_mul, n_01, ↓reduceIte, if_true, if_false, eq_self, true_or, or_true, and_self, and_true, true_and, Nat.reduceAdd, Nat.reduceMul, Nat.reduceLeDiff, Nat.zero_le, not_true_eq_false, not_false_eq_true, cat2_n, cat2_i, cat2_r, ws_0, ws_i, ws_r, ws_l, ws_d, aftr_n, aftr_s, bI_ok, bI_t, bI_f, up_s, up_n, n_bit, decide_true, decide_false, Bool.not_true, Bool.not_false, Bool.and_true, Bool.true_and, Bool.false_and, Bool.and_false, va_rf_s, n_nlt0, k_0, k_67, k_68, k_465, k_466, k_467, k_468, k_469, k_470, k_471, k_472, k_565, r_0_0, r_0_1, r_0_2, r_0_3, r_0_4, r_0_5, r_67_0, r_465_0, r_467_0, r_467_2, r_470_0, r_470_1, va_rf_s, n_neg_t, n_neg_f]
    · simp (disch := omega) only [v85_0, v85_1, v85_4, v85_5, v85_7, v85_10, v85_11, v85_14, v85_15, n_cl, n_in_t, n_lt_t, n_lt_f, n_eq_t, n_eq_f, n_sub, nI_add, n_mul, n_01, ↓reduceIte, if_true, if_false, eq_self, true_or, or_true, and_self, and_true, true_and, Nat.reduceAdd, Nat.reduceMul, Nat.reduceLeDiff, Nat.zero_le, not_true_eq_false, not_false_eq_true, cat2_n, cat2_i, cat2_r, ws_0, ws_i, ws_r, ws_l, ws_d, aftr_n, aftr_s, bI_ok, bI_t, bI_f, up_s, up_n, n_bit, decide_true, decide_false, Bool.not_true, Bool.not_false, Bool.and_true, Bool.true_and, Bool.false_and, Bool.and_false, va_rf_s, n_nlt0, k_0, k_67, k_68, k_465, k_466, k_467, k_468, k_469, k_470, k_471, k_472, k_565, r_0_0, r_0_1, r_0_2, r_0_3, r_0_4, r_0_5, r_67_0, r_465_0, r_467_0, r_467_2, r_470_0, r_470_1, va_rf_s, n_neg_t, n_neg_f]
theorem c86 {a : Nat} {σ : Mem} (ha : a < 4294967296) : X z 86 0 [some (.int (nI a))] [] (0, 0) σ Q = Q (.inl (some (.int (bI (decide (a ≤ 5)))))) σ := by
  obtain ⟨K, I, R, L, sz, ex⟩ := σ
  by_cases e : a ≤ 5
  · rw [decide_eq_true e]; simp (disch := omega) only [v86_0, v86_1, v86_4, v86_5, v86_7, v86_10, v86_11, v86_14, v86_15, n_cl, n_in_t, n_lt_t, n_lt_f, n_eq_t, n_eq_f, n_sub, nI_add, n_mul, n_01, ↓reduceIte, if_true, if_false, eq_self, true_or, or_true, and_self, and_true, true_and, Nat.reduceAdd, Nat.reduceMul, Nat.reduceLeDiff, Nat.zero_le, not_true_eq_false, not_false_eq_true, cat2_n, cat2_i, cat2_r, ws_0, ws_i, ws_r, ws_l, ws_d, aftr_n, aftr_s, bI_ok, bI_t, bI_f, up_s, up_n, n_bit, decide_true, decide_false, Bool.not_true, Bool.not_false, Bool.and_true, Bool.true_and, Bool.false_and, Bool.and_false, va_rf_s, n_nlt0, k_0, k_67, k_68, k_465, k_466, k_467, k_468, k_469, k_470, k_471, k_472, k_565, r_0_0, r_0_1, r_0_2, r_0_3, r_0_4, r_0_5, r_67_0, r_465_0, r_467_0, r_467_2, r_470_0, r_470_1, va_rf_s, n_neg_t, n_neg_f]
  · rw [decide_eq_false e]
    by_cases e2 : a < 2147483648
    · simp (disch := omega) only [v86_0, v86_1, v86_4, v86_5, v86_7, v86_10, v86_11, v86_14, v86_15, n_cl, n_in_t, n_lt_t, n_lt_f, n_eq_t, n_eq_f, n_sub, nI_add, n_mul, n_01, ↓reduceIte, if_true, if_false, eq_self, true_or, or_true, and_self, and_true, true_and, Nat.reduceAdd, Nat.reduceMul, Nat.reduceLeDiff, Nat.zero_le, not_true_eq_false, not_false_eq_true, cat2_n, cat2_i, cat2_r, ws_0, ws_i, ws_r, ws_l, ws_d, aftr_n, aftr_s, bI_ok, bI_t, bI_f, up_s, up_n, n_bit, decide_true, decide_false, Bool.not_true, Bool.not_false, Bool.and_true, Bool.true_and, Bool.false_and, Bool.and_false, va_rf_s, n_nlt0, k_0, k_67, k_68, k_465, k_466, k_467, k_468, k_469, k_470, k_471, k_472, k_565, r_0_0, r_0_1, r_0_2, r_0_3, r_0_4, r_0_5, r_67_0, r_465_0, r_467_0, r_467_2, r_470_0, r_470_1, va_rf_s, n_neg_t, n_neg_f]
    · simp (disch := omega) only [v86_0, v86_1, v86_4, v86_5, v86_7, v86_10, v86_11, v86_14, v86_15, n_cl, n_in_t, n_lt_t, n_lt_f, n_eq_t, n_eq_f, n_sub, nI_add, n_mul, n_01, ↓reduceIte, if_true, if_false, eq_self, true_or, or_true, and_self, and_true, true_and, Nat.reduceAdd, Nat.reduceMul, Nat.reduceLeDiff, Nat.zero_le, not_true_eq_false, not_false_eq_true, cat2_n, cat2_i, cat2_r, ws_0, ws_i, ws_r, ws_l, ws_d, aftr_n, aftr_s, bI_ok, bI_t, bI_f, up_s, up_n, n_bit, decide_true, decide_false, Bool.not_true, Bool.not_false, Bool.and_true, Bool.true_and, Bool.false_and, Bool.and_false, va_rf_s, n_nlt0, k_0, k_67, k_68, k_465, k_466, k_467, k_468, k_469, k_470, k_471, k_472, k_565, r_0_0, r_0_1, r_0_2, r_0_3, r_0_4, r_0_5, r_67_0, r_465_0, r_467_0, r_467_2, r_470_0, r_470_1, va_rf_s, n_neg_t, n_neg_f]
theorem c87 {k v : Nat} (hk : k ≤ 5) (hv : v < 4294967296) (h : SV KL b I z) : X z 87 0 [some (.int (nI k)), some (.int (nI v))] [] (0, 0) (KAt KL b, I, RAt RL b q, L, sz, ex) Q = Q (.inl (some (.int (bI (okV k v))))) (KAt KL b, I, RAt RL b q, L, sz, ex) := by
  obtain ⟨⟨l1, l2, l3⟩, m1, m2, m3⟩ := h
  have k1 := (kw_lo (KL := KL) l1).trans l2
  have k2 := (kw_lo (KL := KL) m1).trans m2
  have e1 := l3 k (by omega)
  have e2 := m3 k (by omega)
  have b1 : leastV k ≤ 5 := by unfold leastV; split <;> (try split) <;> omega
  have b2 : mostV k ≤ 40 := by unfold mostV; repeat' split
                               all_goals omega
  rw [okV_lm hk]
  by_cases c1 : v < 2147483648
  · by_cases c2 : v < leastV k
    · rw [decide_eq_false (by omega)]
      simp (disch := omega) only [v87_0, v87_1, v87_4, v87_5, v87_6, v87_9, v87_10, v87_13, v87_14, v87_15, v87_18, v87_19, v87_22, v87_23, n_cl, n_in_t, n_lt_t, n_lt_f, n_eq_t, n_eq_f, n_sub, nI_add, n_mul, n_01, ↓reduceIte, if_true, if_false, eq_self, true_or, or_true, and_self, and_true, true_and, Nat.reduceAdd, Nat.reduceMul, Nat.reduceLeDiff, Nat.zero_le, not_true_eq_false, not_false_eq_true, cat2_n, cat2_i, cat2_r, ws_0, ws_i, ws_r, ws_l, ws_d, aftr_n, aftr_s, bI_ok, bI_t, bI_f, up_s, up_n, n_bit, decide_true, decide_false, Bool.not_true, Bool.not_false, Bool.and_true, Bool.true_and, Bool.false_and, Bool.and_false, va_rf_s, n_nlt0, k_0, k_67, k_68, k_465, k_466, k_467, k_468, k_469, k_470, k_471, k_472, k_565, r_0_0, r_0_1, r_0_2, r_0_3, r_0_4, r_0_5, r_67_0, r_465_0, r_467_0, r_467_2, r_470_0, r_470_1, va_rf_s, n_neg_t, n_neg_f, k1, k2, e1, e2]
    · by_cases c3 : mostV k < v
      · rw [decide_eq_false (by omega)]
        simp (disch := omega) only [v87_0, v87_1, v87_4, v87_5, v87_6, v87_9, v87_10, v87_13, v87_14, v87_15, v87_18, v87_19, v87_22, v87_23, n_cl, n_in_t, n_lt_t, n_lt_f, n_eq_t, n_eq_f, n_sub, nI_add, n_mul, n_01, ↓reduceIte, if_true, if_false, eq_self, true_or, or_true, and_self, and_true, true_and, Nat.reduceAdd, Nat.reduceMul, Nat.reduceLeDiff, Nat.zero_le, not_true_eq_false, not_false_eq_true, cat2_n, cat2_i, cat2_r, ws_0, ws_i, ws_r, ws_l, ws_d, aftr_n, aftr_s, bI_ok, bI_t, bI_f, up_s, up_n, n_bit, decide_true, decide_false, Bool.not_true, Bool.not_false, Bool.and_true, Bool.true_and, Bool.false_and, Bool.and_false, va_rf_s, n_nlt0, k_0, k_67, k_68, k_465, k_466, k_467, k_468, k_469, k_470, k_471, k_472, k_565, r_0_0, r_0_1, r_0_2, r_0_3, r_0_4, r_0_5, r_67_0, r_465_0, r_467_0, r_467_2, r_470_0, r_470_1, va_rf_s, n_neg_t, n_neg_f, k1, k2, e1, e2]
      · rw [decide_eq_true (by omega)]
        simp (disch := omega) only [v87_0, v87_1, v87_4, v87_5, v87_6, v87_9, v87_10, v87_13, v87_14, v87_15, v87_18, v87_19, v87_22, v87_23, n_cl, n_in_t, n_lt_t, n_lt_f, n_eq_t, n_eq_f, n_sub, nI_add, n_mul, n_01, ↓reduceIte, if_true, if_false, eq_self, true_or, or_true, and_self, and_true, true_and, Nat.reduceAdd, Nat.reduceMul, Nat.reduceLeDiff, Nat.zero_le, not_true_eq_false, not_false_eq_true, cat2_n, cat2_i, cat2_r, ws_0, ws_i, ws_r, ws_l, ws_d, aftr_n, aftr_s, bI_ok, bI_t, bI_f, up_s, up_n, n_bit, decide_true, decide_false, Bool.not_true, Bool.not_false, Bool.and_true, Bool.true_and, Bool.false_and, Bool.and_false, va_rf_s, n_nlt0, k_0, k_67, k_68, k_465, k_466, k_467, k_468, k_469, k_470, k_471, k_472, k_565, r_0_0, r_0_1, r_0_2, r_0_3, r_0_4, r_0_5, r_67_0, r_465_0, r_467_0, r_467_2, r_470_0, r_470_1, va_rf_s, n_neg_t, n_neg_f, k1, k2, e1, e2]
  · rw [decide_eq_false (by omega)]
    simp (disch := omega) only [v87_0, v87_1, v87_4, v87_5, v87_6, v87_9, v87_10, v87_13, v87_14, v87_15, v87_18, v87_19, v87_22, v87_23, n_cl, n_in_t, n_lt_t, n_lt_f, n_eq_t, n_eq_f, n_sub, nI_add, n_mul, n_01, ↓reduceIte, if_true, if_false, eq_self, true_or, or_true, and_self, and_true, true_and, Nat.reduceAdd, Nat.reduceMul, Nat.reduceLeDiff, Nat.zero_le, not_true_eq_false, not_false_eq_true, cat2_n, cat2_i, cat2_r, ws_0, ws_i, ws_r, ws_l, ws_d, aftr_n, aftr_s, bI_ok, bI_t, bI_f, up_s, up_n, n_bit, decide_true, decide_false, Bool.not_true, Bool.not_false, Bool.and_true, Bool.true_and, Bool.false_and, Bool.and_false, va_rf_s, n_nlt0, k_0, k_67, k_68, k_465, k_466, k_467, k_468, k_469, k_470, k_471, k_472, k_565, r_0_0, r_0_1, r_0_2, r_0_3, r_0_4, r_0_5, r_67_0, r_465_0, r_467_0, r_467_2, r_470_0, r_470_1, va_rf_s, n_neg_t, n_neg_f, k1, k2, e1, e2]
theorem c89 {p : Nat} (hp : p < 4294967296) (h6 : A 6 ≤ 20) (h : SR b I sN A) : X z 89 0 [some (.ref (ad b 0)), some (.int (nI p))] [] (0, 0) (KAt KL b, I, RAt RL b q, L, sz, ex) Q = Q (.inl (some (.int (bI (decide (p < A 6)))))) (KAt KL b, I, RAt RL b q, L, sz, ex) := by
  have hs := isS_N
  have m6 := h.1.1.1
  by_cases e : p < A 6
  · rw [decide_eq_true e]; simp (disch := omega) only [v89_0, v89_1, v89_4, v89_5, v89_6, v89_9, v89_12, v89_15, v89_16, v89_19, v89_20, n_cl, n_in_t, n_lt_t, n_lt_f, n_eq_t, n_eq_f, n_sub, nI_add, n_mul, n_01, ↓reduceIte, if_true, if_false, eq_self, true_or, or_true, and_self, and_true, true_and, Nat.reduceAdd, Nat.reduceMul, Nat.reduceLeDiff, Nat.zero_le, not_true_eq_false, not_false_eq_true, cat2_n, cat2_i, cat2_r, ws_0, ws_i, ws_r, ws_l, ws_d, aftr_n, aftr_s, bI_ok, bI_t, bI_f, up_s, up_n, n_bit, decide_true, decide_false, Bool.not_true, Bool.not_false, Bool.and_true, Bool.true_and, Bool.false_and, Bool.and_false, va_rf_s, n_nlt0, k_0, k_67, k_68, k_465, k_466, k_467, k_468, k_469, k_470, k_471, k_472, k_565, r_0_0, r_0_1, r_0_2, r_0_3, r_0_4, r_0_5, r_67_0, r_465_0, r_467_0, r_467_2, r_470_0, r_470_1, va_rf_s, n_neg_t, n_neg_f, kS0 hs, kS1 hs, kS2 hs, kS3 hs, kS4 hs, kS5 hs, kSp hs, kSn hs, kSw hs, kSl hs, rS0_0 hs, rS0_2 hs, rS0_4 hs, rS0_5 hs, rS3_0 hs, rS1 hs, rS2 hs, rSp hs, rSw hs, m6]
  · rw [decide_eq_false e]
    by_cases e2 : p < 2147483648
    · simp (disch := omega) only [v89_0, v89_1, v89_4, v89_5, v89_6, v89_9, v89_12, v89_15, v89_16, v89_19, v89_20, n_cl, n_in_t, n_lt_t, n_lt_f, n_eq_t, n_eq_f, n_sub, nI_add, n_mul, n_01, ↓reduceIte, if_true, if_false, eq_self, true_or, or_true, and_self, and_true, true_and, Nat.reduceAdd, Nat.reduceMul, Nat.reduceLeDiff, Nat.zero_le, not_true_eq_false, not_false_eq_true, cat2_n, cat2_i, cat2_r, ws_0, ws_i, ws_r, ws_l, ws_d, aftr_n, aftr_s, bI_ok, bI_t, bI_f, up_s, up_n, n_bit, decide_true, decide_false, Bool.not_true, Bool.not_false, Bool.and_true, Bool.true_and, Bool.false_and, Bool.and_false, va_rf_s, n_nlt0, k_0, k_67, k_68, k_465, k_466, k_467, k_468, k_469, k_470, k_471, k_472, k_565, r_0_0, r_0_1, r_0_2, r_0_3, r_0_4, r_0_5, r_67_0, r_465_0, r_467_0, r_467_2, r_470_0, r_470_1, va_rf_s, n_neg_t, n_neg_f, kS0 hs, kS1 hs, kS2 hs, kS3 hs, kS4 hs, kS5 hs, kSp hs, kSn hs, kSw hs, kSl hs, rS0_0 hs, rS0_2 hs, rS0_4 hs, rS0_5 hs, rS3_0 hs, rS1 hs, rS2 hs, rSp hs, rSw hs, m6]
    · simp (disch := omega) only [v89_0, v89_1, v89_4, v89_5, v89_6, v89_9, v89_12, v89_15, v89_16, v89_19, v89_20, n_cl, n_in_t, n_lt_t, n_lt_f, n_eq_t, n_eq_f, n_sub, nI_add, n_mul, n_01, ↓reduceIte, if_true, if_false, eq_self, true_or, or_true, and_self, and_true, true_and, Nat.reduceAdd, Nat.reduceMul, Nat.reduceLeDiff, Nat.zero_le, not_true_eq_false, not_false_eq_true, cat2_n, cat2_i, cat2_r, ws_0, ws_i, ws_r, ws_l, ws_d, aftr_n, aftr_s, bI_ok, bI_t, bI_f, up_s, up_n, n_bit, decide_true, decide_false, Bool.not_true, Bool.not_false, Bool.and_true, Bool.true_and, Bool.false_and, Bool.and_false, va_rf_s, n_nlt0, k_0, k_67, k_68, k_465, k_466, k_467, k_468, k_469, k_470, k_471, k_472, k_565, r_0_0, r_0_1, r_0_2, r_0_3, r_0_4, r_0_5, r_67_0, r_465_0, r_467_0, r_467_2, r_470_0, r_470_1, va_rf_s, n_neg_t, n_neg_f, kS0 hs, kS1 hs, kS2 hs, kS3 hs, kS4 hs, kS5 hs, kSp hs, kSn hs, kSw hs, kSl hs, rS0_0 hs, rS0_2 hs, rS0_4 hs, rS0_5 hs, rS3_0 hs, rS1 hs, rS2 hs, rSp hs, rSw hs, m6]
theorem c90 {p : Nat} (hp : p < 4294967296) (h6 : A 7 ≤ 10) (h : SR b I sN A) : X z 90 0 [some (.ref (ad b 0)), some (.int (nI p))] [] (0, 0) (KAt KL b, I, RAt RL b q, L, sz, ex) Q = Q (.inl (some (.int (bI (decide (p < A 7)))))) (KAt KL b, I, RAt RL b q, L, sz, ex) := by
  have hs := isS_N
  have m7 := h.1.1.2.1
  by_cases e : p < A 7
  · rw [decide_eq_true e]; simp (disch := omega) only [v90_0, v90_1, v90_4, v90_5, v90_6, v90_9, v90_12, v90_15, v90_16, v90_19, v90_20, n_cl, n_in_t, n_lt_t, n_lt_f, n_eq_t, n_eq_f, n_sub, nI_add, n_mul, n_01, ↓reduceIte, if_true, if_false, eq_self, true_or, or_true, and_self, and_true, true_and, Nat.reduceAdd, Nat.reduceMul, Nat.reduceLeDiff, Nat.zero_le, not_true_eq_false, not_false_eq_true, cat2_n, cat2_i, cat2_r, ws_0, ws_i, ws_r, ws_l, ws_d, aftr_n, aftr_s, bI_ok, bI_t, bI_f, up_s, up_n, n_bit, decide_true, decide_false, Bool.not_true, Bool.not_false, Bool.and_true, Bool.true_and, Bool.false_and, Bool.and_false, va_rf_s, n_nlt0, k_0, k_67, k_68, k_465, k_466, k_467, k_468, k_469, k_470, k_471, k_472, k_565, r_0_0, r_0_1, r_0_2, r_0_3, r_0_4, r_0_5, r_67_0, r_465_0, r_467_0, r_467_2, r_470_0, r_470_1, va_rf_s, n_neg_t, n_neg_f, kS0 hs, kS1 hs, kS2 hs, kS3 hs, kS4 hs, kS5 hs, kSp hs, kSn hs, kSw hs, kSl hs, rS0_0 hs, rS0_2 hs, rS0_4 hs, rS0_5 hs, rS3_0 hs, rS1 hs, rS2 hs, rSp hs, rSw hs, m7]
  · rw [decide_eq_false e]
    by_cases e2 : p < 2147483648
    · simp (disch := omega) only [v90_0, v90_1, v90_4, v90_5, v90_6, v90_9, v90_12, v90_15, v90_16, v90_19, v90_20, n_cl, n_in_t, n_lt_t, n_lt_f, n_eq_t, n_eq_f, n_sub, nI_add, n_mul, n_01, ↓reduceIte, if_true, if_false, eq_self, true_or, or_true, and_self, and_true, true_and, Nat.reduceAdd, Nat.reduceMul, Nat.reduceLeDiff, Nat.zero_le, not_true_eq_false, not_false_eq_true, cat2_n, cat2_i, cat2_r, ws_0, ws_i, ws_r, ws_l, ws_d, aftr_n, aftr_s, bI_ok, bI_t, bI_f, up_s, up_n, n_bit, decide_true, decide_false, Bool.not_true, Bool.not_false, Bool.and_true, Bool.true_and, Bool.false_and, Bool.and_false, va_rf_s, n_nlt0, k_0, k_67, k_68, k_465, k_466, k_467, k_468, k_469, k_470, k_471, k_472, k_565, r_0_0, r_0_1, r_0_2, r_0_3, r_0_4, r_0_5, r_67_0, r_465_0, r_467_0, r_467_2, r_470_0, r_470_1, va_rf_s, n_neg_t, n_neg_f, kS0 hs, kS1 hs, kS2 hs, kS3 hs, kS4 hs, kS5 hs, kSp hs, kSn hs, kSw hs, kSl hs, rS0_0 hs, rS0_2 hs, rS0_4 hs, rS0_5 hs, rS3_0 hs, rS1 hs, rS2 hs, rSp hs, rSw hs, m7]
    · simp (disch := omega) only [v90_0, v90_1, v90_4, v90_5, v90_6, v90_9, v90_12, v90_15, v90_16, v90_19, v90_20, n_cl, n_in_t, n_lt_t, n_lt_f, n_eq_t, n_eq_f, n_sub, nI_add, n_mul, n_01, ↓reduceIte, if_true, if_false, eq_self, true_or, or_true, and_self, and_true, true_and, Nat.reduceAdd, Nat.reduceMul, Nat.reduceLeDiff, Nat.zero_le, not_true_eq_false, not_false_eq_true, cat2_n, cat2_i, cat2_r, ws_0, ws_i, ws_r, ws_l, ws_d, aftr_n, aftr_s, bI_ok, bI_t, bI_f, up_s, up_n, n_bit, decide_true, decide_false, Bool.not_true, Bool.not_false, Bool.and_true, Bool.true_and, Bool.false_and, Bool.and_false, va_rf_s, n_nlt0, k_0, k_67, k_68, k_465, k_466, k_467, k_468, k_469, k_470, k_471, k_472, k_565, r_0_0, r_0_1, r_0_2, r_0_3, r_0_4, r_0_5, r_67_0, r_465_0, r_467_0, r_467_2, r_470_0, r_470_1, va_rf_s, n_neg_t, n_neg_f, kS0 hs, kS1 hs, kS2 hs, kS3 hs, kS4 hs, kS5 hs, kSp hs, kSn hs, kSw hs, kSl hs, rS0_0 hs, rS0_2 hs, rS0_4 hs, rS0_5 hs, rS3_0 hs, rS1 hs, rS2 hs, rSp hs, rSw hs, m7]
theorem GoodW.sv (hg : GoodW (A, n, H, B)) : GoodW (A, svN n, svH A n H, B) := by
  refine ⟨hg.1, fun j hj => ?_⟩
  have g2 := hg.2
  dsimp only at hj ⊢
  unfold svN at hj
  unfold svH
  by_cases e : n = 6
  · rw [if_pos e] at hj ⊢
    by_cases e5 : j = 5
    · rw [if_pos e5]; exact hg.1
    · rw [if_neg e5]; exact g2 _ (by show j + 1 < n; omega)
  · rw [if_neg e] at hj ⊢
    by_cases e5 : j = n
    · rw [if_pos e5]; exact hg.1
    · rw [if_neg e5]; exact g2 _ (by show j < n; omega)
/-- keep, as the state sees it -/
theorem kp (hw : CSt b I q (A, n, H, B)) (hg : GoodW (A, n, H, B)) (hQ : ∀ I' q', CSt b I' q' (A, svN n, svH A n H, B) → Ag pKp b I I' → Q (.inl none) (KAt KL b, I', RAt RL b (q'), L, sz, ex)) : X z 24 0 [some (.ref (ad b 67)), some (.ref (ad b sN))] [] (0, 0) (KAt KL b, I, RAt RL b q, L, sz, ex) Q := by
  obtain ⟨w1, w2, w3, w4⟩ := id hw
  exact c24 w2 hg.1 hg.2 w1 w3 (fun I1 q1 k1 s1 k2 g1 => hQ I1 q1 ⟨s1, k1, k2, w4.ag g1 (fun x => by unfold pKp at x; omega) (fun j x => by unfold pKp at x; omega)⟩ g1)
/-- only the state block is changed -/
theorem CSt.blk {A' : Row} {I' : Nat → Nat → Int32} {P : Nat → Nat → Prop} (hg : GoodW (A, n, H, B)) (h : CSt b I q (A, n, H, B)) (ha : Ag P b I I') (hP : ∀ o j, P o j → 1 ≤ o ∧ o < 67) (hr : SR b I' sN A') : CSt b I' q (A', n, H, B) := by
  obtain ⟨h1, h2, h3, h4⟩ := h
  exact ⟨hr, h2, h3.ag h2 hg.2 ha (fun o j z => by have := hP o j z; omega), h4.ag ha (fun z => by have := hP _ _ z; omega) (fun j z => by have := hP _ _ z; omega)⟩
theorem CSt.fld {f base p v : Nat} (hf : (f = 2 ∧ base = 13) ∨ (f = 4 ∧ base = 53) ∨ (f = 5 ∧ base = 73) ∨ (f = 6 ∧ base = 93) ∨ (f = 7 ∧ base = 113)) (hg : GoodW (A, n, H, B)) (h : CSt b I q (A, n, H, B)) (hp : p < A 6) : CSt b (up2 I (ad b (sN + 6 + 2 * p)) f (nI v)) q (upr A (base + p) v, n, H, B) := by
  have h6 : A 6 ≤ 20 := hg.1.1.1
  have sn : sN = 1 := rfl
  exact h.blk hg (P := fun o _ => o = sN + 6 + 2 * p) (Ag.rf.up rfl) (fun o j x => by omega) (h.1.fld hf hp h6 hg.1.1.2.1)
end CN
