/-! THE CLASS: its state blocks; copying -/
theorem n_01 {x : Nat} (h : x ≤ 1) : (nI x = nI 0 ∨ nI x = nI 1) = True := eq_true (by rcases (show x = 0 ∨ x = 1 by omega) with rfl | rfl; exact Or.inl rfl; exact Or.inr rfl)
theorem n_nlt0 {a : Nat} (h : a < 2147483648) : (¬ nI a < 0) = True := eq_true (nI_pos h)
theorem n_neg_t {p n : Nat} (h : 2147483648 ≤ p) (hp : p < 4294967296) (hn : n < 2147483648) : (nI p < nI n) = True := by rw [g_lt hp (by omega)]; exact eq_true (by omega)
theorem n_neg_f {p n : Nat} (h : 2147483648 ≤ p) (hp : p < 4294967296) (hn : n < 2147483648) : (nI n < nI p) = False := by rw [g_lt (by omega) hp]; exact eq_false (by omega)
def Sm (A : Row) : Prop := ∀ k, k < 473 → A k < 4294967296
/-- a person in the cells o (fields) and n (name) -/
def PR (b : Nat) (I : Nat → Nat → Int32) (o n : Nat) (A : Row) (i : Nat) : Prop := I (ad b o) 1 = nI (A (133 + i)) ∧ I (ad b o) 2 = nI (A (13 + i)) ∧ I (ad b o) 3 = nI (A (33 + i)) ∧ I (ad b o) 4 = nI (A (53 + i)) ∧ I (ad b o) 5 = nI (A (73 + i)) ∧ I (ad b o) 6 = nI (A (93 + i)) ∧ I (ad b o) 7 = nI (A (113 + i)) ∧ ∀ k, k < A (133 + i) → I (ad b n) k = nI (A (153 + 8 * i + k))
def WR (b : Nat) (I : Nat → Nat → Int32) (o n : Nat) (A : Row) (w : Nat) : Prop := I (ad b o) 1 = nI (A (313 + w)) ∧ I (ad b o) 2 = nI (A (323 + w)) ∧ ∀ k, k < A (313 + w) → I (ad b n) k = nI (A (333 + 8 * w + k))
def IR (b : Nat) (I : Nat → Nat → Int32) (o n : Nat) (A : Row) : Prop := I (ad b o) 1 = nI (raw A).length ∧ ∀ k, k < (raw A).length → I (ad b n) k = nI ((raw A).getD k 0)
def ST (b : Nat) (I : Nat → Nat → Int32) (a : Nat) (A : Row) : Prop := ∀ k, k < 6 → I (ad b a) k = nI (A k)
/-- a state block, but for its settings -/
def SP (b : Nat) (I : Nat → Nat → Int32) (s : Nat) (A : Row) : Prop := (I (ad b s) 1 = nI (A 6) ∧ I (ad b s) 3 = nI (A 7) ∧ I (ad b s) 6 = nI (A 8) ∧ I (ad b s) 7 = nI (A 9) ∧ I (ad b s) 8 = nI (A 10) ∧ I (ad b s) 9 = nI (A 11)) ∧
  (∀ i, i < A 6 → PR b I (s + 6 + 2 * i) (s + 7 + 2 * i) A i) ∧ (∀ w, w < A 7 → WR b I (s + 46 + 2 * w) (s + 47 + 2 * w) A w) ∧ IR b I (s + 3) (s + 4) A
def SR (b : Nat) (I : Nat → Nat → Int32) (s : Nat) (A : Row) : Prop := SP b I s A ∧ ST b I (s + 5) A
def pBl (s o _j : Nat) : Prop := s ≤ o ∧ o < s + 66
theorem isS_apart {s s' : Nat} (h : isS s) (h' : isS s') (hne : s ≠ s') : s + 66 ≤ s' ∨ s' + 66 ≤ s := by
  rcases h with rfl | ⟨i, hi, rfl⟩ <;> rcases h' with rfl | ⟨j, hj, rfl⟩ <;> omega
theorem isS_b {s : Nat} (h : isS s) : 1 ≤ s ∧ s + 66 ≤ 465 := by rcases h with rfl | ⟨i, hi, rfl⟩ <;> omega
section CA
variable {z : P0} {KL : Nat → Nat × Nat} {RL : Nat → Nat → Option Nat} {q : Nat → Nat} {b : Nat} {I : Nat → Nat → Int32} {L : Nat → Nat → Int64} {sz : Nat} {ex : Bool} {Q : Res → Mem → Prop} {A : Row}
variable {s s' : Nat}
theorem PR.ag {P : Nat → Nat → Prop} {I' : Nat → Nat → Int32} {o n i : Nat} (h : PR b I o n A i) (hg : Ag P b I I') (h1 : ∀ j, ¬ P o j) (h2 : ∀ j, ¬ P n j) : PR b I' o n A i := ⟨(hg.at (h1 _)).trans h.1, (hg.at (h1 _)).trans h.2.1, (hg.at (h1 _)).trans h.2.2.1, (hg.at (h1 _)).trans h.2.2.2.1, (hg.at (h1 _)).trans h.2.2.2.2.1, (hg.at (h1 _)).trans h.2.2.2.2.2.1, (hg.at (h1 _)).trans h.2.2.2.2.2.2.1, fun k hk => (hg.at (h2 _)).trans (h.2.2.2.2.2.2.2 k hk)⟩
theorem WR.ag {P : Nat → Nat → Prop} {I' : Nat → Nat → Int32} {o n w : Nat} (h : WR b I o n A w) (hg : Ag P b I I') (h1 : ∀ j, ¬ P o j) (h2 : ∀ j, ¬ P n j) : WR b I' o n A w := ⟨(hg.at (h1 _)).trans h.1, (hg.at (h1 _)).trans h.2.1, fun k hk => (hg.at (h2 _)).trans (h.2.2 k hk)⟩
theorem IR.ag {P : Nat → Nat → Prop} {I' : Nat → Nat → Int32} {o n : Nat} (h : IR b I o n A) (hg : Ag P b I I') (h1 : ∀ j, ¬ P o j) (h2 : ∀ j, ¬ P n j) : IR b I' o n A := ⟨(hg.at (h1 _)).trans h.1, fun k hk => (hg.at (h2 _)).trans (h.2 k hk)⟩
theorem ST.ag {P : Nat → Nat → Prop} {I' : Nat → Nat → Int32} {a : Nat} (h : ST b I a A) (hg : Ag P b I I') (h1 : ∀ j, ¬ P a j) : ST b I' a A := fun k hk => (hg.at (h1 _)).trans (h k hk)
theorem SP.ag {P : Nat → Nat → Prop} {I' : Nat → Nat → Int32} (h6 : A 6 ≤ 20) (h7 : A 7 ≤ 10) (h : SP b I s A) (hg : Ag P b I I') (hP : ∀ o j, s ≤ o → o < s + 66 → ¬ P o j) : SP b I' s A := by
  obtain ⟨⟨a1, a2, a3, a4, a5, a6⟩, a7, a8, a9⟩ := h
  have k : ∀ {j}, I' (ad b s) j = I (ad b s) j := hg.at (hP _ _ (Nat.le_refl _) (by omega))
  exact ⟨⟨k.trans a1, k.trans a2, k.trans a3, k.trans a4, k.trans a5, k.trans a6⟩, fun i hi => (a7 i hi).ag hg (fun j => hP _ _ (by omega) (by omega)) (fun j => hP _ _ (by omega) (by omega)), fun w hw => (a8 w hw).ag hg (fun j => hP _ _ (by omega) (by omega)) (fun j => hP _ _ (by omega) (by omega)), a9.ag hg (fun j => hP _ _ (by omega) (by omega)) (fun j => hP _ _ (by omega) (by omega))⟩
theorem SR.ag {P : Nat → Nat → Prop} {I' : Nat → Nat → Int32} (h6 : A 6 ≤ 20) (h7 : A 7 ≤ 10) (h : SR b I s A) (hg : Ag P b I I') (hP : ∀ o j, s ≤ o → o < s + 66 → ¬ P o j) : SR b I' s A := ⟨h.1.ag h6 h7 hg hP, h.2.ag hg (fun j => hP _ _ (by omega) (by omega))⟩
theorem c184 {x y : Nat} {σ : Mem} (hx : x < 2147483648) (hy : y < 2147483648) : X z 184 0 [some (.int (nI x)), some (.int (nI y))] [] (0, 0) σ Q = Q (.inl (some (.int (nI (min x y))))) σ := by
  obtain ⟨K, I, R, L, sz, ex⟩ := σ
  by_cases h : y < x
  · rw [Nat.min_eq_right (by omega)]
    simp (disch := omega) only [v184_0, v184_1, v184_2, v184_5, v184_6, v184_9, v184_10, n_cl, n_in_t, n_lt_t, n_lt_f, n_eq_t, n_eq_f, n_sub, nI_add, n_mul, n_01, ↓reduceIte, if_true, if_false, eq_self, true_or, or_true, and_self, and_true, true_and, Nat.reduceAdd, Nat.reduceMul, Nat.reduceLeDiff, Nat.zero_le, not_true_eq_false, not_false_eq_true, cat2_n, cat2_i, cat2_r, ws_0, ws_i, ws_r, ws_l, ws_d, aftr_n, aftr_s, bI_ok, bI_t, bI_f, up_s, up_n, n_bit, decide_true, decide_false, Bool.not_true, Bool.not_false, Bool.and_true, Bool.true_and, Bool.false_and, Bool.and_false, va_rf_s, n_nlt0, k_0, k_67, k_68, k_465, k_466, k_467, k_468, k_469, k_470, k_471, k_472, k_565, r_0_0, r_0_1, r_0_2, r_0_3, r_0_4, r_0_5, r_67_0, r_465_0, r_467_0, r_467_2, r_470_0, r_470_1, va_rf_s, n_neg_t, n_neg_f]
  · rw [Nat.min_eq_left (by omega)]
    simp (disch := omega) only [v184_0, v184_1, v184_2, v184_5, v184_6, v184_9, v184_10, n_cl, n_in_t, n_lt_t, n_lt_f, n_eq_t, n_eq_f, n_sub, nI_add, n_mul, n_01, ↓reduceIte, if_true, if_false, eq_self, true_or, or_true, and_self, and_true, true_and, Nat.reduceAdd, Nat.reduceMul, Nat.reduceLeDiff, Nat.zero_le, not_true_eq_false, not_false_eq_true, cat2_n, cat2_i, cat2_r, ws_0, ws_i, ws_r, ws_l, ws_d, aftr_n, aftr_s, bI_ok, bI_t, bI_f, up_s, up_n, n_bit, decide_true, decide_false, Bool.not_true, Bool.not_false, Bool.and_true, Bool.true_and, Bool.false_and, Bool.and_false, va_rf_s, n_nlt0, k_0, k_67, k_68, k_465, k_466, k_467, k_468, k_469, k_470, k_471, k_472, k_565, r_0_0, r_0_1, r_0_2, r_0_3, r_0_4, r_0_5, r_67_0, r_465_0, r_467_0, r_467_2, r_470_0, r_470_1, va_rf_s, n_neg_t, n_neg_f]
set_option maxHeartbeats 4000000 in
/-- Person.copy -/
theorem c46 {i : Nat} (hs : isS s) (ht : isS s') (hne : s ≠ s') (hi : i < 20) (hu : A (73 + i) ≤ 1) (hl : A (133 + i) ≤ 8) (h : PR b I (s' + 6 + 2 * i) (s' + 7 + 2 * i) A i) (hQ : ∀ I', PR b I' (s + 6 + 2 * i) (s + 7 + 2 * i) A i → Ag (fun o _ => o = s + 6 + 2 * i ∨ o = s + 7 + 2 * i) b I I' → Q (.inl none) (KAt KL b, I', RAt RL b q, L, sz, ex)) :
    X z 46 0 [some (.ref (ad b (s + 6 + 2 * i))), some (.ref (ad b (s' + 6 + 2 * i)))] [] (0, 0) (KAt KL b, I, RAt RL b q, L, sz, ex) Q := by
  have ap := isS_apart hs ht hne
  obtain ⟨a1, a2, a3, a4, a5, a6, a7, a8⟩ := h
  simp (disch := omega) only [v46_0, v46_1, v46_4, v46_5, v46_6, v46_9, v46_10, v46_12, v46_15, v46_16, v46_17, v46_20, v46_23, v46_24, v46_25, v46_28, v46_31, v46_32, v46_33, v46_36, v46_39, v46_40, v46_41, v46_44, v46_47, v46_48, v46_49, v46_52, v46_55, v46_56, v46_57, v46_60, v46_63, v46_64, v46_65, v46_68, v46_71, n_cl, n_in_t, n_lt_t, n_lt_f, n_eq_t, n_eq_f, n_sub, nI_add, n_mul, n_01, ↓reduceIte, if_true, if_false, eq_self, true_or, or_true, and_self, and_true, true_and, Nat.reduceAdd, Nat.reduceMul, Nat.reduceLeDiff, Nat.zero_le, not_true_eq_false, not_false_eq_true, cat2_n, cat2_i, cat2_r, ws_0, ws_i, ws_r, ws_l, ws_d, aftr_n, aftr_s, bI_ok, bI_t, bI_f, up_s, up_n, n_bit, decide_true, decide_false, Bool.not_true, Bool.not_false, Bool.and_true, Bool.true_and, Bool.false_and, Bool.and_false, va_rf_s, n_nlt0, k_0, k_67, k_68, k_465, k_466, k_467, k_468, k_469, k_470, k_471, k_472, k_565, r_0_0, r_0_1, r_0_2, r_0_3, r_0_4, r_0_5, r_67_0, r_465_0, r_467_0, r_467_2, r_470_0, r_470_1, va_rf_s, n_neg_t, n_neg_f, kS0 hs, kS1 hs, kS2 hs, kS3 hs, kS4 hs, kS5 hs, kSp hs, kSn hs, kSw hs, kSl hs, rS0_0 hs, rS0_2 hs, rS0_4 hs, rS0_5 hs, rS3_0 hs, rS1 hs, rS2 hs, rSp hs, rSw hs, kS0 ht, kS1 ht, kS2 ht, kS3 ht, kS4 ht, kS5 ht, kSp ht, kSn ht, kSw ht, kSl ht, rS0_0 ht, rS0_2 ht, rS0_4 ht, rS0_5 ht, rS3_0 ht, rS1 ht, rS2 ht, rSp ht, rSw ht, cp_n, a1, a2, a3, a4, a5, a6, a7]
  refine hQ _ ⟨?_, ?_, ?_, ?_, ?_, ?_, ?_, fun k hk => ?_⟩ ?_
  · rw [up_n (by omega), up_n (by omega), up_n (by omega), up_n (by omega), up_n (by omega), up_n (by omega), up_s]
  · rw [up_n (by omega), up_n (by omega), up_n (by omega), up_n (by omega), up_n (by omega), up_s]
  · rw [up_n (by omega), up_n (by omega), up_n (by omega), up_n (by omega), up_s]
  · rw [up_n (by omega), up_n (by omega), up_n (by omega), up_s]
  · rw [up_n (by omega), up_n (by omega), up_s]
  · rw [up_n (by omega), up_s]
  · rw [up_s]
  · rw [up_n (by omega), up_n (by omega), up_n (by omega), up_n (by omega), up_n (by omega), up_n (by omega), up_n (by omega), cp_s (Nat.zero_le _) (by omega), Nat.zero_add, Nat.sub_zero]
    exact a8 k hk
  · exact (((((((Ag.rf.cp (fun _ _ _ => Or.inr rfl)).up (Or.inl rfl)).up (Or.inl rfl)).up (Or.inl rfl)).up (Or.inl rfl)).up (Or.inl rfl)).up (Or.inl rfl)).up (Or.inl rfl)
theorem c54 {i : Nat} (hs : isS s) (ht : isS s') (hne : s ≠ s') (hi : i < 10) (hu : A (323 + i) ≤ 1) (hl : A (313 + i) ≤ 8) (h : WR b I (s' + 46 + 2 * i) (s' + 47 + 2 * i) A i) (hQ : ∀ I', WR b I' (s + 46 + 2 * i) (s + 47 + 2 * i) A i → Ag (fun o _ => o = s + 46 + 2 * i ∨ o = s + 47 + 2 * i) b I I' → Q (.inl none) (KAt KL b, I', RAt RL b q, L, sz, ex)) :
    X z 54 0 [some (.ref (ad b (s + 46 + 2 * i))), some (.ref (ad b (s' + 46 + 2 * i)))] [] (0, 0) (KAt KL b, I, RAt RL b q, L, sz, ex) Q := by
  have ap := isS_apart hs ht hne
  obtain ⟨a1, a2, a8⟩ := h
  simp (disch := omega) only [v54_0, v54_1, v54_4, v54_5, v54_6, v54_9, v54_10, v54_12, v54_15, v54_16, v54_17, v54_20, v54_23, v54_24, v54_25, v54_28, v54_31, n_cl, n_in_t, n_lt_t, n_lt_f, n_eq_t, n_eq_f, n_sub, nI_add, n_mul, n_01, ↓reduceIte, if_true, if_false, eq_self, true_or, or_true, and_self, and_true, true_and, Nat.reduceAdd, Nat.reduceMul, Nat.reduceLeDiff, Nat.zero_le, not_true_eq_false, not_false_eq_true, cat2_n, cat2_i, cat2_r, ws_0, ws_i, ws_r, ws_l, ws_d, aftr_n, aftr_s, bI_ok, bI_t, bI_f, up_s, up_n, n_bit, decide_true, decide_false, Bool.not_true, Bool.not_false, Bool.and_true, Bool.true_and, Bool.false_and, Bool.and_false, va_rf_s, n_nlt0, k_0, k_67, k_68, k_465, k_466, k_467, k_468, k_469, k_470, k_471, k_472, k_565, r_0_0, r_0_1, r_0_2, r_0_3, r_0_4, r_0_5, r_67_0, r_465_0, r_467_0, r_467_2, r_470_0, r_470_1, va_rf_s, n_neg_t, n_neg_f, kS0 hs, kS1 hs, kS2 hs, kS3 hs, kS4 hs, kS5 hs, kSp hs, kSn hs, kSw hs, kSl hs, rS0_0 hs, rS0_2 hs, rS0_4 hs, rS0_5 hs, rS3_0 hs, rS1 hs, rS2 hs, rSp hs, rSw hs, kS0 ht, kS1 ht, kS2 ht, kS3 ht, kS4 ht, kS5 ht, kSp ht, kSn ht, kSw ht, kSl ht, rS0_0 ht, rS0_2 ht, rS0_4 ht, rS0_5 ht, rS3_0 ht, rS1 ht, rS2 ht, rSp ht, rSw ht, cp_n, a1, a2]
  refine hQ _ ⟨?_, ?_, fun k hk => ?_⟩ ?_
  · rw [up_n (by omega), up_s]
  · rw [up_s]
  · rw [up_n (by omega), up_n (by omega), cp_s (Nat.zero_le _) (by omega), Nat.zero_add, Nat.sub_zero]
    exact a8 k hk
  · exact ((Ag.rf.cp (fun _ _ _ => Or.inr rfl)).up (Or.inl rfl)).up (Or.inl rfl)
/-- Items.copy, out of any row a of ints that holds t -/
theorem c28 {a : Nat} {t : List Nat} (hs : isS s) (ha : KAt KL b (ad b a) = (20, 60)) (hne : a < s ∨ s + 66 ≤ a) (hl : t.length ≤ 60) (h : ∀ k, k < t.length → I (ad b a) k = nI (t.getD k 0)) (hQ : ∀ I', I' (ad b (s + 3)) 1 = nI t.length → (∀ k, k < t.length → I' (ad b (s + 4)) k = nI (t.getD k 0)) → Ag (fun o _ => o = s + 3 ∨ o = s + 4) b I I' → Q (.inl none) (KAt KL b, I', RAt RL b q, L, sz, ex)) :
    X z 28 0 [some (.ref (ad b (s + 3))), some (.ref (ad b a)), some (.int (nI t.length))] [] (0, 0) (KAt KL b, I, RAt RL b q, L, sz, ex) Q := by
  have hm : min t.length 60 = t.length := Nat.min_eq_left hl
  simp (disch := omega) only [v28_0, v28_1, v28_2, u28_4, v28_7, v28_10, v28_11, v28_12, v28_13, v28_16, v28_17, v28_18, v28_21, v28_24, n_cl, n_in_t, n_lt_t, n_lt_f, n_eq_t, n_eq_f, n_sub, nI_add, n_mul, n_01, ↓reduceIte, if_true, if_false, eq_self, true_or, or_true, and_self, and_true, true_and, Nat.reduceAdd, Nat.reduceMul, Nat.reduceLeDiff, Nat.zero_le, not_true_eq_false, not_false_eq_true, cat2_n, cat2_i, cat2_r, ws_0, ws_i, ws_r, ws_l, ws_d, aftr_n, aftr_s, bI_ok, bI_t, bI_f, up_s, up_n, n_bit, decide_true, decide_false, Bool.not_true, Bool.not_false, Bool.and_true, Bool.true_and, Bool.false_and, Bool.and_false, va_rf_s, n_nlt0, k_0, k_67, k_68, k_465, k_466, k_467, k_468, k_469, k_470, k_471, k_472, k_565, r_0_0, r_0_1, r_0_2, r_0_3, r_0_4, r_0_5, r_67_0, r_465_0, r_467_0, r_467_2, r_470_0, r_470_1, va_rf_s, n_neg_t, n_neg_f, kS0 hs, kS1 hs, kS2 hs, kS3 hs, kS4 hs, kS5 hs, kSp hs, kSn hs, kSw hs, kSl hs, rS0_0 hs, rS0_2 hs, rS0_4 hs, rS0_5 hs, rS3_0 hs, rS1 hs, rS2 hs, rSp hs, rSw hs, c184, hm, ha, hl, Nat.zero_add]
  refine hQ _ ?_ (fun k hk => ?_) ?_
  · rw [cp_n (by omega), up_s]
  · rw [cp_s (Nat.zero_le _) (by omega), Nat.zero_add, Nat.sub_zero, up_n (by omega)]
    exact h k hk
  · exact (Ag.rf.up (Or.inl rfl)).cp (fun _ _ _ => Or.inr rfl)
end CA
