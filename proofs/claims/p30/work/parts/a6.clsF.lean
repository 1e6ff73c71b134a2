/-! THE CLASS: the composer's small methods -/
def CT (b : Nat) (I : Nat → Nat → Int32) (t : List Nat) : Prop := I (ad b 467) 1 = nI t.length ∧ ∀ k, k < t.length → I (ad b 468) k = nI (t.getD k 0)
def pCx (o j : Nat) : Prop := o = 468 ∨ (o = 467 ∧ j = 1)
def pCh (o _j : Nat) : Prop := o = 469
def pCz (o j : Nat) : Prop := o = 468 ∨ o = 469 ∨ (o = 467 ∧ j = 1)
theorem pCx_z : ∀ o j, pCx o j → pCz o j := fun o j h => by unfold pCx at h; unfold pCz; omega
theorem pCh_z : ∀ o j, pCh o j → pCz o j := fun o j h => by unfold pCh at h; unfold pCz; omega
def DR (b : Nat) (I : Nat → Nat → Int32) (o n : Nat) (g : List Nat) : Prop := I (ad b o) 1 = nI g.length ∧ ∀ k, k < g.length → I (ad b n) k = nI (g.getD k 0)
/-- what the composer reads: a state, a draft -/
def CX (b : Nat) (I : Nat → Nat → Int32) (s p i : Nat) (A : Row) (g : List Nat) : Prop := SP b I s A ∧ DR b I (p + 6 + 2 * i) (p + 7 + 2 * i) g
/-- the strings of the class -/
def SZ (KL : Nat → Nat × Nat) (RL : Nat → Nat → Option Nat) (b : Nat) (I : Nat → Nat → Int32) (z : P0) : Prop := z.2.category = 1 ∧ SO KL RL b I (z.1 100) [97, 108, 108] ∧ SO KL RL b I (z.1 101) [115, 111, 109, 101] ∧ SO KL RL b I (z.1 102) [97, 110] ∧ SO KL RL b I (z.1 103) [97]
theorem isM_b {p : Nat} (h : isM p) : 473 ≤ p ∧ p + 46 ≤ 565 := by rcases h with rfl | rfl <;> omega
theorem and_p1 {s w : Nat} (h : s.testBit w = true) : s &&& 2 ^ w = 2 ^ w := by
  apply Nat.eq_of_testBit_eq
  intro j
  rw [Nat.testBit_and, Nat.testBit_two_pow]
  by_cases e : w = j
  · subst e; simp [h]
  · simp [e]
theorem and_p0 {s w : Nat} (h : s.testBit w = false) : s &&& 2 ^ w = 0 := by
  apply Nat.eq_of_testBit_eq
  intro j
  rw [Nat.testBit_and, Nat.testBit_two_pow, Nat.zero_testBit]
  by_cases e : w = j
  · subst e; simp [h]
  · simp [e]
theorem and_t1 {s w : Nat} (h : s.testBit w = true) (hw : w < 31) : (nI (s &&& 2 ^ w) = nI 0) = False := by
  rw [and_p1 h]
  have h1 : 2 ^ w < 2 ^ 31 := Nat.pow_lt_pow_right (by omega) hw
  have h2 : 0 < 2 ^ w := Nat.pow_pos (by omega)
  exact eq_false (fun x => by
    have := n_inj (by omega) (by omega) x
    omega)
theorem and_t0 {s w : Nat} (h : s.testBit w = false) : (nI (s &&& 2 ^ w) = nI 0) = True := by
  rw [and_p0 h]
  exact eq_true rfl
section CF
variable {z : P0} {KL : Nat → Nat × Nat} {RL : Nat → Nat → Option Nat} {q : Nat → Nat} {b : Nat} {I : Nat → Nat → Int32} {L : Nat → Nat → Int64} {sz : Nat} {ex : Bool} {Q : Res → Mem → Prop} {A : Row}
variable {t : List Nat} {s p i : Nat} {g : List Nat}
theorem SO.ag {P : Nat → Nat → Prop} {I' : Nat → Nat → Int32} {a : Nat} {cs : List Nat} (h : SO KL RL b I a cs) (hg : Ag P b I I') : SO KL RL b I' a cs := by
  obtain ⟨h1, h2, h3, ⟨v, v1, v2, v3, v4⟩, h5, h6⟩ := h
  exact ⟨h1, h2, by rw [hg.1 a h1]; exact h3, ⟨v, v1, v2, v3, fun k hk => by rw [hg.1 v v1]; exact v4 k hk⟩, h5, h6⟩
theorem SZ.ag {P : Nat → Nat → Prop} {I' : Nat → Nat → Int32} (h : SZ KL RL b I z) (hg : Ag P b I I') : SZ KL RL b I' z := ⟨h.1, h.2.1.ag hg, h.2.2.1.ag hg, h.2.2.2.1.ag hg, h.2.2.2.2.ag hg⟩
theorem DR.ag {P : Nat → Nat → Prop} {I' : Nat → Nat → Int32} {o n : Nat} (h : DR b I o n g) (hg : Ag P b I I') (h1 : ∀ j, ¬ P o j) (h2 : ∀ j, ¬ P n j) : DR b I' o n g := ⟨(hg.at (h1 _)).trans h.1, fun k hk => (hg.at (h2 _)).trans (h.2 k hk)⟩
theorem CX.ag {P : Nat → Nat → Prop} {I' : Nat → Nat → Int32} (h6 : A 6 ≤ 20) (h7 : A 7 ≤ 10) (hs : isS s) (hp : isM p) (h : CX b I s p i A g) (hg : Ag P b I I') (hP : ∀ o j, P o j → o = 467 ∨ o = 468 ∨ o = 469) : CX b I' s p i A g := by
  have h1 := isS_b hs
  have h2 := isM_b hp
  exact ⟨h.1.ag h6 h7 hg (fun o j x y z => by have := hP o j z; omega), h.2.ag hg (fun j z => by have := hP _ _ z; omega) (fun j z => by have := hP _ _ z; omega)⟩
theorem pCx_3 : ∀ o j, pCx o j → o = 467 ∨ o = 468 ∨ o = 469 := fun o j h => by unfold pCx at h; omega
theorem pCh_3 : ∀ o j, pCh o j → o = 467 ∨ o = 468 ∨ o = 469 := fun o j h => by unfold pCh at h; omega
theorem CT.snoc {c : Nat} (h : CT b I t) : CT b (up2 (up2 I (ad b 468) t.length (nI c)) (ad b 467) 1 (nI (t.length + 1))) (t ++ [c]) := by
  refine ⟨by rw [up_s, List.length_append, List.length_singleton], fun k hk => ?_⟩
  rw [List.length_append, List.length_singleton] at hk
  rw [up_n (by omega), getD_snoc]
  by_cases e : k = t.length
  · rw [e, up_s, if_neg (by omega), if_pos rfl]
  · rw [if_pos (by omega), up_n (by omega)]
    exact h.2 k (by omega)
theorem agCx {k : Nat} {v v' : Int32} : Ag pCx b I (up2 (up2 I (ad b 468) k v) (ad b 467) 1 v') := (Ag.rf.up (Or.inl rfl)).up (Or.inr ⟨rfl, rfl⟩)
theorem c19 {c : Nat} (ht : CT b I t) (hl : t.length < 1660) (hQ : ∀ I', CT b I' (t ++ [c]) → Ag pCx b I I' → Q (.inl none) (KAt KL b, I', RAt RL b q, L, sz, ex)) : X z 19 0 [some (.ref (ad b 467)), some (.int (nI c))] [] (0, 0) (KAt KL b, I, RAt RL b q, L, sz, ex) Q := by
  have h1 := ht.1
  simp (disch := omega) only [v19_0, v19_1, v19_4, v19_7, v19_10, v19_11, v19_14, v19_15, v19_18, v19_19, v19_20, v19_21, v19_21i, v19_22, v19_25, v19_26, v19_27, v19_30, n_cl, n_in_t, n_lt_t, n_lt_f, n_eq_t, n_eq_f, n_sub, nI_add, n_mul, n_01, ↓reduceIte, if_true, if_false, eq_self, true_or, or_true, and_self, and_true, true_and, Nat.reduceAdd, Nat.reduceMul, Nat.reduceLeDiff, Nat.zero_le, not_true_eq_false, not_false_eq_true, cat2_n, cat2_i, cat2_r, ws_0, ws_i, ws_r, ws_l, ws_d, aftr_n, aftr_s, bI_ok, bI_t, bI_f, up_s, up_n, n_bit, decide_true, decide_false, Bool.not_true, Bool.not_false, Bool.and_true, Bool.true_and, Bool.false_and, Bool.and_false, va_rf_s, n_nlt0, k_0, k_67, k_68, k_465, k_466, k_467, k_468, k_469, k_470, k_471, k_472, k_565, r_0_0, r_0_1, r_0_2, r_0_3, r_0_4, r_0_5, r_67_0, r_465_0, r_467_0, r_467_2, r_470_0, r_470_1, va_rf_s, n_neg_t, n_neg_f, k_0, k_67, k_68, k_465, k_466, k_467, k_468, k_469, k_470, k_471, k_472, k_565, r_0_0, r_0_1, r_0_2, r_0_3, r_0_4, r_0_5, r_67_0, r_465_0, r_467_0, r_467_2, r_470_0, r_470_1, va_rf_s, h1]
  exact hQ _ ht.snoc agCx
theorem l17 {n m : Nat} {f : Nat → Nat} (hk : KAt KL b (ad b n) = (20, 8)) (hm : m ≤ 8) (hn : n ≠ 467 ∧ n ≠ 468) : ∀ d k I t, k + d = m → CT b I t → (∀ j, j < m → I (ad b n) j = nI (f j)) → t.length + d ≤ 1660 → (∀ I', CT b I' (t ++ segF f k d) → Ag pCx b I I' → Q (.inl none) (KAt KL b, I', RAt RL b q, L, sz, ex)) →
    X z 17 2 [some (.ref (ad b 467)), some (.ref (ad b n)), some (.int (nI m)), some (.int (nI k))] [] (0, 0) (KAt KL b, I, RAt RL b q, L, sz, ex) Q := by
  intro d
  induction d with
  | zero =>
    intro k I t hkd ht hv hl hQ
    rw [v17_2]
    simp (disch := omega) only [v17_0, v17_1, v17_3, v17_4, v17_7, v17_8, v17_11, v17_14, v17_17, v17_18, v17_21, v17_22, v17_25, v17_26, v17_27, v17_28, v17_29, v17_30, v17_30i, v17_31, v17_34, v17_35, v17_36, v17_39, v17_42, v17_45, n_cl, n_in_t, n_lt_t, n_lt_f, n_eq_t, n_eq_f, n_sub, nI_add, n_mul, n_01, ↓reduceIte, if_true, if_false, eq_self, true_or, or_true, and_self, and_true, true_and, Nat.reduceAdd, Nat.reduceMul, Nat.reduceLeDiff, Nat.zero_le, not_true_eq_false, not_false_eq_true, cat2_n, cat2_i, cat2_r, ws_0, ws_i, ws_r, ws_l, ws_d, aftr_n, aftr_s, bI_ok, bI_t, bI_f, up_s, up_n, n_bit, decide_true, decide_false, Bool.not_true, Bool.not_false, Bool.and_true, Bool.true_and, Bool.false_and, Bool.and_false, va_rf_s, n_nlt0, k_0, k_67, k_68, k_465, k_466, k_467, k_468, k_469, k_470, k_471, k_472, k_565, r_0_0, r_0_1, r_0_2, r_0_3, r_0_4, r_0_5, r_67_0, r_465_0, r_467_0, r_467_2, r_470_0, r_470_1, va_rf_s, n_neg_t, n_neg_f]
    exact hQ I (by unfold segF; rwa [List.append_nil]) Ag.rf
  | succ d ih =>
    intro k I t hkd ht hv hl hQ
    have h1 := ht.1
    have h2 := hv k (by omega)
    rw [v17_2]
    simp (disch := omega) only [v17_0, v17_1, v17_3, v17_4, v17_7, v17_8, v17_11, v17_14, v17_17, v17_18, v17_21, v17_22, v17_25, v17_26, v17_27, v17_28, v17_29, v17_30, v17_30i, v17_31, v17_34, v17_35, v17_36, v17_39, v17_42, v17_45, n_cl, n_in_t, n_lt_t, n_lt_f, n_eq_t, n_eq_f, n_sub, nI_add, n_mul, n_01, ↓reduceIte, if_true, if_false, eq_self, true_or, or_true, and_self, and_true, true_and, Nat.reduceAdd, Nat.reduceMul, Nat.reduceLeDiff, Nat.zero_le, not_true_eq_false, not_false_eq_true, cat2_n, cat2_i, cat2_r, ws_0, ws_i, ws_r, ws_l, ws_d, aftr_n, aftr_s, bI_ok, bI_t, bI_f, up_s, up_n, n_bit, decide_true, decide_false, Bool.not_true, Bool.not_false, Bool.and_true, Bool.true_and, Bool.false_and, Bool.and_false, va_rf_s, n_nlt0, k_0, k_67, k_68, k_465, k_466, k_467, k_468, k_469, k_470, k_471, k_472, k_565, r_0_0, r_0_1, r_0_2, r_0_3, r_0_4, r_0_5, r_67_0, r_465_0, r_467_0, r_467_2, r_470_0, r_470_1, va_rf_s, n_neg_t, n_neg_f, k_0, k_67, k_68, k_465, k_466, k_467, k_468, k_469, k_470, k_471, k_472, k_565, r_0_0, r_0_1, r_0_2, r_0_3, r_0_4, r_0_5, r_67_0, r_465_0, r_467_0, r_467_2, r_470_0, r_470_1, va_rf_s, h1, h2, hk]
    refine ih (k + 1) _ _ (by omega) ht.snoc (fun j hj => (agCx.at (fun x => by unfold pCx at x; omega)).trans (hv j hj)) (by rw [List.length_append, List.length_singleton]; omega) (fun I2 q1 q2 => hQ I2 ?_ (agCx.tr q2))
    unfold segF
    rwa [List.append_assoc] at q1
theorem c17 {n m : Nat} {f : Nat → Nat} (hk : KAt KL b (ad b n) = (20, 8)) (hm : m ≤ 8) (hn : n ≠ 467 ∧ n ≠ 468) (ht : CT b I t) (hv : ∀ j, j < m → I (ad b n) j = nI (f j)) (hl : t.length + m ≤ 1660) (hQ : ∀ I', CT b I' (t ++ segF f 0 m) → Ag pCx b I I' → Q (.inl none) (KAt KL b, I', RAt RL b q, L, sz, ex)) :
    X z 17 0 [some (.ref (ad b 467)), some (.ref (ad b n)), some (.int (nI m)), none] [] (0, 0) (KAt KL b, I, RAt RL b q, L, sz, ex) Q := by
  simp (disch := omega) only [v17_0, v17_1, n_cl, n_in_t, n_lt_t, n_lt_f, n_eq_t, n_eq_f, n_sub, nI_add, n_mul, n_01, ↓reduceIte, if_true, if_false, eq_self, true_or, or_true, and_self, and_true, true_and, Nat.reduceAdd, Nat.reduceMul, Nat.reduceLeDiff, Nat.zero_le, not_true_eq_false, not_false_eq_true, cat2_n, cat2_i, cat2_r, ws_0, ws_i, ws_r, ws_l, ws_d, aftr_n, aftr_s, bI_ok, bI_t, bI_f, up_s, up_n, n_bit, decide_true, decide_false, Bool.not_true, Bool.not_false, Bool.and_true, Bool.true_and, Bool.false_and, Bool.and_false, va_rf_s, n_nlt0, k_0, k_67, k_68, k_465, k_466, k_467, k_468, k_469, k_470, k_471, k_472, k_565, r_0_0, r_0_1, r_0_2, r_0_3, r_0_4, r_0_5, r_67_0, r_465_0, r_467_0, r_467_2, r_470_0, r_470_1, va_rf_s, n_neg_t, n_neg_f]
  exact l17 hk hm hn m 0 I t (by omega) ht hv hl hQ
theorem l18 {a : Nat} {cs : List Nat} (hc : z.2.category = 1) : ∀ (r : List Nat) k I t, k + r.length = cs.length → (∀ j, j < r.length → cs.getD (k + j) 0 = r.getD j 0) → CT b I t → SO KL RL b I a cs → t.length + r.length ≤ 1660 → (∀ I', CT b I' (t ++ r) → Ag pCx b I I' → Q (.inl none) (KAt KL b, I', RAt RL b q, L, sz, ex)) →
    X z 18 2 [some (.ref (ad b 467)), some (.ref a), some (.int (nI k))] [] (0, 0) (KAt KL b, I, RAt RL b q, L, sz, ex) Q := by
  intro r
  induction r with
  | nil =>
    intro k I t hk hr ht ho hl hQ
    have h10 := ho.2.2.2.2.1
    have ka : (KAt KL b a).1 = 52 := by rw [kw_lo ho.1]; exact ho.2.1
    rw [List.length_nil, Nat.add_zero] at hk
    rw [v18_2]
    simp (disch := omega) only [v18_0, v18_1, v18_3, u18_4, v18_7, v18_10, v18_11, v18_14, v18_17, v18_20, v18_21, v18_24, v18_25, v18_28, v18_29, u18_30, v18_33, v18_34, v18_35, v18_35i, v18_36, v18_39, v18_40, v18_41, v18_44, v18_47, v18_50, n_cl, n_in_t, n_lt_t, n_lt_f, n_eq_t, n_eq_f, n_sub, nI_add, n_mul, n_01, ↓reduceIte, if_true, if_false, eq_self, true_or, or_true, and_self, and_true, true_and, Nat.reduceAdd, Nat.reduceMul, Nat.reduceLeDiff, Nat.zero_le, not_true_eq_false, not_false_eq_true, cat2_n, cat2_i, cat2_r, ws_0, ws_i, ws_r, ws_l, ws_d, aftr_n, aftr_s, bI_ok, bI_t, bI_f, up_s, up_n, n_bit, decide_true, decide_false, Bool.not_true, Bool.not_false, Bool.and_true, Bool.true_and, Bool.false_and, Bool.and_false, va_rf_s, n_nlt0, k_0, k_67, k_68, k_465, k_466, k_467, k_468, k_469, k_470, k_471, k_472, k_565, r_0_0, r_0_1, r_0_2, r_0_3, r_0_4, r_0_5, r_67_0, r_465_0, r_467_0, r_467_2, r_470_0, r_470_1, va_rf_s, n_neg_t, n_neg_f, c185 ho, ka]
    exact hQ I (by rwa [List.append_nil]) Ag.rf
  | cons c r ih =>
    intro k I t hk hr ht ho hl hQ
    have h10 := ho.2.2.2.2.1
    have ka : (KAt KL b a).1 = 52 := by rw [kw_lo ho.1]; exact ho.2.1
    obtain ⟨hB1, hB2⟩ := getD_tail hr
    rw [List.length_cons] at hk hl
    have h1 := ht.1
    rw [v18_2]
    simp (disch := omega) only [v18_0, v18_1, v18_3, u18_4, v18_7, v18_10, v18_11, v18_14, v18_17, v18_20, v18_21, v18_24, v18_25, v18_28, v18_29, u18_30, v18_33, v18_34, v18_35, v18_35i, v18_36, v18_39, v18_40, v18_41, v18_44, v18_47, v18_50, n_cl, n_in_t, n_lt_t, n_lt_f, n_eq_t, n_eq_f, n_sub, nI_add, n_mul, n_01, ↓reduceIte, if_true, if_false, eq_self, true_or, or_true, and_self, and_true, true_and, Nat.reduceAdd, Nat.reduceMul, Nat.reduceLeDiff, Nat.zero_le, not_true_eq_false, not_false_eq_true, cat2_n, cat2_i, cat2_r, ws_0, ws_i, ws_r, ws_l, ws_d, aftr_n, aftr_s, bI_ok, bI_t, bI_f, up_s, up_n, n_bit, decide_true, decide_false, Bool.not_true, Bool.not_false, Bool.and_true, Bool.true_and, Bool.false_and, Bool.and_false, va_rf_s, n_nlt0, k_0, k_67, k_68, k_465, k_466, k_467, k_468, k_469, k_470, k_471, k_472, k_565, r_0_0, r_0_1, r_0_2, r_0_3, r_0_4, r_0_5, r_67_0, r_465_0, r_467_0, r_467_2, r_470_0, r_470_1, va_rf_s, n_neg_t, n_neg_f, k_0, k_67, k_68, k_465, k_466, k_467, k_468, k_469, k_470, k_471, k_472, k_565, r_0_0, r_0_1, r_0_2, r_0_3, r_0_4, r_0_5, r_67_0, r_465_0, r_467_0, r_467_2, r_470_0, r_470_1, va_rf_s, ka, c185 ho, c186 hc ho (show k < cs.length by omega), h1, hB1]
    refine ih (k + 1) _ _ (by omega) hB2 ht.snoc (ho.ag agCx) (by rw [List.length_append, List.length_singleton]; omega) (fun I2 q1 q2 => hQ I2 ?_ (agCx.tr q2))
    rwa [List.append_assoc] at q1
theorem c18 {a : Nat} {cs : List Nat} (hc : z.2.category = 1) (ht : CT b I t) (ho : SO KL RL b I a cs) (hl : t.length + cs.length ≤ 1660) (hQ : ∀ I', CT b I' (t ++ cs) → Ag pCx b I I' → Q (.inl none) (KAt KL b, I', RAt RL b q, L, sz, ex)) : X z 18 0 [some (.ref (ad b 467)), some (.ref a), none] [] (0, 0) (KAt KL b, I, RAt RL b q, L, sz, ex) Q := by
  simp (disch := omega) only [v18_0, v18_1, n_cl, n_in_t, n_lt_t, n_lt_f, n_eq_t, n_eq_f, n_sub, nI_add, n_mul, n_01, ↓reduceIte, if_true, if_false, eq_self, true_or, or_true, and_self, and_true, true_and, Nat.reduceAdd, Nat.reduceMul, Nat.reduceLeDiff, Nat.zero_le, not_true_eq_false, not_false_eq_true, cat2_n, cat2_i, cat2_r, ws_0, ws_i, ws_r, ws_l, ws_d, aftr_n, aftr_s, bI_ok, bI_t, bI_f, up_s, up_n, n_bit, decide_true, decide_false, Bool.not_true, Bool.not_false, Bool.and_true, Bool.true_and, Bool.false_and, Bool.and_false, va_rf_s, n_nlt0, k_0, k_67, k_68, k_465, k_466, k_467, k_468, k_469, k_470, k_471, k_472, k_565, r_0_0, r_0_1, r_0_2, r_0_3, r_0_4, r_0_5, r_67_0, r_465_0, r_467_0, r_467_2, r_470_0, r_470_1, va_rf_s, n_neg_t, n_neg_f]
  exact l18 hc cs 0 I t (by omega) (fun j _ => by rw [Nat.zero_add]) ht ho hl hQ
theorem c14 {f : Nat} {σ : Mem} (hf : f < 3) : X z 14 0 [some (.int (nI f))] [] (0, 0) σ Q = Q (.inl (some (.int (nI (fsign f))))) σ := by
  obtain ⟨K, I, R, L, sz, ex⟩ := σ
  rcases (show f = 0 ∨ f = 1 ∨ f = 2 by omega) with rfl | rfl | rfl
  · simp (disch := omega) only [v14_0, v14_1, v14_4, v14_6, v14_7, v14_8, v14_9, v14_12, v14_14, v14_17, v14_19, n_cl, n_in_t, n_lt_t, n_lt_f, n_eq_t, n_eq_f, n_sub, nI_add, n_mul, n_01, ↓reduceIte, if_true, if_false, eq_self, true_or, or_true, and_self, and_true, true_and, Nat.reduceAdd, Nat.reduceMul, Nat.reduceLeDiff, Nat.zero_le, not_true_eq_false, not_false_eq_true, cat2_n, cat2_i, cat2_r, ws_0, ws_i, ws_r, ws_l, ws_d, aftr_n, aftr_s, bI_ok, bI_t, bI_f, up_s, up_n, n_bit, decide_true, decide_false, Bool.not_true, Bool.not_false, Bool.and_true, Bool.true_and, Bool.false_and, Bool.and_false, va_rf_s, n_nlt0, k_0, k_67, k_68, k_465, k_466, k_467, k_468, k_469, k_470, k_471, k_472, k_565, r_0_0, r_0_1, r_0_2, r_0_3, r_0_4, r_0_5, r_67_0, r_465_0, r_467_0, r_467_2, r_470_0, r_470_1, va_rf_s, n_neg_t, n_neg_f]; rfl
  · simp (disch := omega) only [v14_0, v14_1, v14_4, v14_6, v14_7, v14_8, v14_9, v14_12, v14_14, v14_17, v14_19, n_cl, n_in_t, n_lt_t, n_lt_f, n_eq_t, n_eq_f, n_sub, nI_add, n_mul, n_01, ↓reduceIte, if_true, if_false, eq_self, true_or, or_true, and_self, and_true, true_and, Nat.reduceAdd, Nat.reduceMul, Nat.reduceLeDiff, Nat.zero_le, not_true_eq_false, not_false_eq_true, cat2_n, cat2_i, cat2_r, ws_0, ws_i, ws_r, ws_l, ws_d, aftr_n, aftr_s, bI_ok, bI_t, bI_f, up_s, up_n, n_bit, decide_true, decide_false, Bool.not_true, Bool.not_false, Bool.and_true, Bool.true_and, Bool.false_and, Bool.and_false, va_rf_s, n_nlt0, k_0, k_67, k_68, k_465, k_466, k_467, k_468, k_469, k_470, k_471, k_472, k_565, r_0_0, r_0_1, r_0_2, r_0_3, r_0_4, r_0_5, r_67_0, r_465_0, r_467_0, r_467_2, r_470_0, r_470_1, va_rf_s, n_neg_t, n_neg_f]; rfl
  · simp (disch := omega) only [v14_0, v14_1, v14_4, v14_6, v14_7, v14_8, v14_9, v14_12, v14_14, v14_17, v14_19, n_cl, n_in_t, n_lt_t, n_lt_f, n_eq_t, n_eq_f, n_sub, nI_add, n_mul, n_01, ↓reduceIte, if_true, if_false, eq_self, true_or, or_true, and_self, and_true, true_and, Nat.reduceAdd, Nat.reduceMul, Nat.reduceLeDiff, Nat.zero_le, not_true_eq_false, not_false_eq_true, cat2_n, cat2_i, cat2_r, ws_0, ws_i, ws_r, ws_l, ws_d, aftr_n, aftr_s, bI_ok, bI_t, bI_f, up_s, up_n, n_bit, decide_true, decide_false, Bool.not_true, Bool.not_false, Bool.and_true, Bool.true_and, Bool.false_and, Bool.and_false, va_rf_s, n_nlt0, k_0, k_67, k_68, k_465, k_466, k_467, k_468, k_469, k_470, k_471, k_472, k_565, r_0_0, r_0_1, r_0_2, r_0_3, r_0_4, r_0_5, r_67_0, r_465_0, r_467_0, r_467_2, r_470_0, r_470_1, va_rf_s, n_neg_t, n_neg_f]; rfl
set_option maxHeartbeats 4000000 in
theorem l12 (hs : isS s) (hp : isM p) (hi : i < 20) (hg : Good A) (ok : OkL A g) : ∀ (r : List Nat) k I t (x4 : Option Value), k + r.length = g.length → (∀ j, j < r.length → g.getD (k + j) 0 = r.getD j 0) → CX b I s p i A g → CT b I t → t.length + (seqL g.length k (r.map (nameL A))).length ≤ 1660 → (∀ I', CT b I' (t ++ seqL g.length k (r.map (nameL A))) → Ag pCx b I I' → Q (.inl none) (KAt KL b, I', RAt RL b q, L, sz, ex)) →
    X z 12 2 [some (.ref (ad b 467)), some (.ref (ad b s)), some (.ref (ad b (p + 6 + 2 * i))), some (.int (nI k)), x4] [] (0, 0) (KAt KL b, I, RAt RL b q, L, sz, ex) Q := by
  have h6 := hg.1.1
  have h7 := hg.1.2.1
  have gl := ok.2.2.2.1
  have sb := isS_b hs
  intro r
  induction r with
  | nil =>
    intro k I t x4 hk hr hx ht hl hQ
    have d1 := hx.2.1
    rw [List.length_nil, Nat.add_zero] at hk
    rw [v12_2]
    simp (disch := omega) only [v12_0, v12_1, v12_3, v12_4, v12_7, v12_10, v12_11, v12_14, v12_15, v12_18, v12_19, v12_20, v12_21, v12_23, v12_24, v12_27, v12_28, v12_29, v12_30, v12_33, v12_34, v12_35, v12_38, v12_40, v12_43, u12_45, v12_48, v12_49, v12_51, v12_54, v12_56, u12_59, v12_62, v12_65, v12_68, n_cl, n_in_t, n_lt_t, n_lt_f, n_eq_t, n_eq_f, n_sub, nI_add, n_mul, n_01, ↓reduceIte, if_true, if_false, eq_self, true_or, or_true, and_self, and_true, true_and, Nat.reduceAdd, Nat.reduceMul, Nat.reduceLeDiff, Nat.zero_le, not_true_eq_false, not_false_eq_true, cat2_n, cat2_i, cat2_r, ws_0, ws_i, ws_r, ws_l, ws_d, aftr_n, aftr_s, bI_ok, bI_t, bI_f, up_s, up_n, n_bit, decide_true, decide_false, Bool.not_true, Bool.not_false, Bool.and_true, Bool.true_and, Bool.false_and, Bool.and_false, va_rf_s, n_nlt0, k_0, k_67, k_68, k_465, k_466, k_467, k_468, k_469, k_470, k_471, k_472, k_565, r_0_0, r_0_1, r_0_2, r_0_3, r_0_4, r_0_5, r_67_0, r_465_0, r_467_0, r_467_2, r_470_0, r_470_1, va_rf_s, n_neg_t, n_neg_f, kM0 hp, kM1 hp, kM2 hp, kM3 hp, kM4 hp, kM5 hp, kMd hp, kMa hp, rM0_0 hp, rM0_2 hp, rM0_3 hp, rM0_4 hp, rM0_5 hp, rM0_6 hp, rM0_7 hp, rM1 hp, rMd hp, d1]
    exact hQ I (by rw [List.map_nil]; unfold seqL; rwa [List.append_nil]) Ag.rf
  | cons c r ih =>
    intro k I t x4 hk hr hx ht hl hQ
    obtain ⟨hB1, hB2⟩ := getD_tail hr
    rw [List.length_cons] at hk
    have d1 := hx.2.1
    have d2 := hx.2.2 k (by omega)
    rw [hB1] at d2
    have hc : c < A 6 := ok.2.2.1 c (by rw [← hB1, List.getD_eq_getElem?_getD, List.getElem?_eq_getElem (by omega)]; exact List.getElem_mem _)
    obtain ⟨-, -, -, -, -, q1, q2, -⟩ := hg.2.2.1 c hc
    rw [List.map_cons, seqL_c, List.length_append, List.length_append, nameL_len] at hl
    rw [List.map_cons, seqL_c] at hQ
    have name : ∀ I1, CT b I1 (t ++ sepL k g.length) → Ag pCx b I I1 → X z 12 48 [some (.ref (ad b 467)), some (.ref (ad b s)), some (.ref (ad b (p + 6 + 2 * i))), some (.int (nI k)), some (.ref (ad b (s + 6 + 2 * c)))] [] (0, 0) (KAt KL b, I1, RAt RL b q, L, sz, ex) Q := by
      intro I1 g1 g2
      have hx1 := hx.ag h6 h7 hs hp g2 pCx_3
      have pr := hx1.1.2.1 c hc
      have pr1 := pr.1
      simp (disch := omega) only [v12_48, v12_49, v12_51, v12_54, v12_56, u12_59, n_cl, n_in_t, n_lt_t, n_lt_f, n_eq_t, n_eq_f, n_sub, nI_add, n_mul, n_01, ↓reduceIte, if_true, if_false, eq_self, true_or, or_true, and_self, and_true, true_and, Nat.reduceAdd, Nat.reduceMul, Nat.reduceLeDiff, Nat.zero_le, not_true_eq_false, not_false_eq_true, cat2_n, cat2_i, cat2_r, ws_0, ws_i, ws_r, ws_l, ws_d, aftr_n, aftr_s, bI_ok, bI_t, bI_f, up_s, up_n, n_bit, decide_true, decide_false, Bool.not_true, Bool.not_false, Bool.and_true, Bool.true_and, Bool.false_and, Bool.and_false, va_rf_s, n_nlt0, k_0, k_67, k_68, k_465, k_466, k_467, k_468, k_469, k_470, k_471, k_472, k_565, r_0_0, r_0_1, r_0_2, r_0_3, r_0_4, r_0_5, r_67_0, r_465_0, r_467_0, r_467_2, r_470_0, r_470_1, va_rf_s, n_neg_t, n_neg_f, kS0 hs, kS1 hs, kS2 hs, kS3 hs, kS4 hs, kS5 hs, kSp hs, kSn hs, kSw hs, kSl hs, rS0_0 hs, rS0_2 hs, rS0_4 hs, rS0_5 hs, rS3_0 hs, rS1 hs, rS2 hs, rSp hs, rSw hs, pr1]
      refine c17 (f := fun k => A (153 + 8 * c + k)) (kSn hs (by omega)) q2 (by omega) g1 pr.2.2.2.2.2.2.2 (by rw [List.length_append]; omega) (fun I2 g3 g4 => ?_)
      simp (disch := omega) only [v12_62, v12_65, n_cl, n_in_t, n_lt_t, n_lt_f, n_eq_t, n_eq_f, n_sub, nI_add, n_mul, n_01, ↓reduceIte, if_true, if_false, eq_self, true_or, or_true, and_self, and_true, true_and, Nat.reduceAdd, Nat.reduceMul, Nat.reduceLeDiff, Nat.zero_le, not_true_eq_false, not_false_eq_true, cat2_n, cat2_i, cat2_r, ws_0, ws_i, ws_r, ws_l, ws_d, aftr_n, aftr_s, bI_ok, bI_t, bI_f, up_s, up_n, n_bit, decide_true, decide_false, Bool.not_true, Bool.not_false, Bool.and_true, Bool.true_and, Bool.false_and, Bool.and_false, va_rf_s, n_nlt0, k_0, k_67, k_68, k_465, k_466, k_467, k_468, k_469, k_470, k_471, k_472, k_565, r_0_0, r_0_1, r_0_2, r_0_3, r_0_4, r_0_5, r_67_0, r_465_0, r_467_0, r_467_2, r_470_0, r_470_1, va_rf_s, n_neg_t, n_neg_f]
      have g5 := g2.tr g4
      refine ih (k + 1) I2 _ _ (by omega) hB2 (hx.ag h6 h7 hs hp g5 pCx_3) g3 ?_ (fun I3 g6 g7 => hQ I3 ?_ (g5.tr g7))
      · simp only [List.length_append, segF_len]; omega
      · rw [List.append_assoc, List.append_assoc] at g6
        exact g6
    rw [v12_2]
    unfold sepL at name hl
    by_cases e0 : k = 0
    · rw [if_pos e0, List.append_nil] at name
      have := name I ht Ag.rf
      simp (disch := omega) only [v12_3, v12_4, v12_7, v12_10, v12_11, v12_14, v12_15, v12_18, v12_19, v12_20, v12_21, v12_23, v12_24, v12_27, v12_28, v12_29, v12_30, v12_33, v12_34, v12_35, v12_38, v12_40, v12_43, u12_45, n_cl, n_in_t, n_lt_t, n_lt_f, n_eq_t, n_eq_f, n_sub, nI_add, n_mul, n_01, ↓reduceIte, if_true, if_false, eq_self, true_or, or_true, and_self, and_true, true_and, Nat.reduceAdd, Nat.reduceMul, Nat.reduceLeDiff, Nat.zero_le, not_true_eq_false, not_false_eq_true, cat2_n, cat2_i, cat2_r, ws_0, ws_i, ws_r, ws_l, ws_d, aftr_n, aftr_s, bI_ok, bI_t, bI_f, up_s, up_n, n_bit, decide_true, decide_false, Bool.not_true, Bool.not_false, Bool.and_true, Bool.true_and, Bool.false_and, Bool.and_false, va_rf_s, n_nlt0, k_0, k_67, k_68, k_465, k_466, k_467, k_468, k_469, k_470, k_471, k_472, k_565, r_0_0, r_0_1, r_0_2, r_0_3, r_0_4, r_0_5, r_67_0, r_465_0, r_467_0, r_467_2, r_470_0, r_470_1, va_rf_s, n_neg_t, n_neg_f, kM0 hp, kM1 hp, kM2 hp, kM3 hp, kM4 hp, kM5 hp, kMd hp, kMa hp, rM0_0 hp, rM0_2 hp, rM0_3 hp, rM0_4 hp, rM0_5 hp, rM0_6 hp, rM0_7 hp, rM1 hp, rMd hp, kS0 hs, kS1 hs, kS2 hs, kS3 hs, kS4 hs, kS5 hs, kSp hs, kSn hs, kSw hs, kSl hs, rS0_0 hs, rS0_2 hs, rS0_4 hs, rS0_5 hs, rS3_0 hs, rS1 hs, rS2 hs, rSp hs, rSw hs, d1, d2]
      exact this
    · rw [if_neg e0] at name hl
      by_cases e1 : k + 1 = g.length
      · rw [if_pos e1] at name hl
        rw [List.length_singleton] at hl
        simp (disch := omega) only [v12_3, v12_4, v12_7, v12_10, v12_11, v12_14, v12_15, v12_18, v12_19, v12_20, v12_21, v12_23, v12_24, v12_27, v12_28, v12_29, v12_30, v12_33, v12_34, v12_35, v12_38, v12_40, v12_43, u12_45, n_cl, n_in_t, n_lt_t, n_lt_f, n_eq_t, n_eq_f, n_sub, nI_add, n_mul, n_01, ↓reduceIte, if_true, if_false, eq_self, true_or, or_true, and_self, and_true, true_and, Nat.reduceAdd, Nat.reduceMul, Nat.reduceLeDiff, Nat.zero_le, not_true_eq_false, not_false_eq_true, cat2_n, cat2_i, cat2_r, ws_0, ws_i, ws_r, ws_l, ws_d, aftr_n, aftr_s, bI_ok, bI_t, bI_f, up_s, up_n, n_bit, decide_true, decide_false, Bool.not_true, Bool.not_false, Bool.and_true, Bool.true_and, Bool.false_and, Bool.and_false, va_rf_s, n_nlt0, k_0, k_67, k_68, k_465, k_466, k_467, k_468, k_469, k_470, k_471, k_472, k_565, r_0_0, r_0_1, r_0_2, r_0_3, r_0_4, r_0_5, r_67_0, r_465_0, r_467_0, r_467_2, r_470_0, r_470_1, va_rf_s, n_neg_t, n_neg_f, kM0 hp, kM1 hp, kM2 hp, kM3 hp, kM4 hp, kM5 hp, kMd hp, kMa hp, rM0_0 hp, rM0_2 hp, rM0_3 hp, rM0_4 hp, rM0_5 hp, rM0_6 hp, rM0_7 hp, rM1 hp, rMd hp, kS0 hs, kS1 hs, kS2 hs, kS3 hs, kS4 hs, kS5 hs, kSp hs, kSn hs, kSw hs, kSl hs, rS0_0 hs, rS0_2 hs, rS0_4 hs, rS0_5 hs, rS3_0 hs, rS1 hs, rS2 hs, rSp hs, rSw hs, d1, d2]
        refine c19 ht (by omega) (fun I1 g1 g2 => ?_)
        simp (disch := omega) only [n_cl, n_in_t, n_lt_t, n_lt_f, n_eq_t, n_eq_f, n_sub, nI_add, n_mul, n_01, ↓reduceIte, if_true, if_false, eq_self, true_or, or_true, and_self, and_true, true_and, Nat.reduceAdd, Nat.reduceMul, Nat.reduceLeDiff, Nat.zero_le, not_true_eq_false, not_false_eq_true, cat2_n, cat2_i, cat2_r, ws_0, ws_i, ws_r, ws_l, ws_d, aftr_n, aftr_s, bI_ok, bI_t, bI_f, up_s, up_n, n_bit, decide_true, decide_false, Bool.not_true, Bool.not_false, Bool.and_true, Bool.true_and, Bool.false_and, Bool.and_false, va_rf_s, n_nlt0, k_0, k_67, k_68, k_465, k_466, k_467, k_468, k_469, k_470, k_471, k_472, k_565, r_0_0, r_0_1, r_0_2, r_0_3, r_0_4, r_0_5, r_67_0, r_465_0, r_467_0, r_467_2, r_470_0, r_470_1, va_rf_s, n_neg_t, n_neg_f]
        exact name I1 g1 g2
      · rw [if_neg e1] at name hl
        rw [List.length_singleton] at hl
        simp (disch := omega) only [v12_3, v12_4, v12_7, v12_10, v12_11, v12_14, v12_15, v12_18, v12_19, v12_20, v12_21, v12_23, v12_24, v12_27, v12_28, v12_29, v12_30, v12_33, v12_34, v12_35, v12_38, v12_40, v12_43, u12_45, n_cl, n_in_t, n_lt_t, n_lt_f, n_eq_t, n_eq_f, n_sub, nI_add, n_mul, n_01, ↓reduceIte, if_true, if_false, eq_self, true_or, or_true, and_self, and_true, true_and, Nat.reduceAdd, Nat.reduceMul, Nat.reduceLeDiff, Nat.zero_le, not_true_eq_false, not_false_eq_true, cat2_n, cat2_i, cat2_r, ws_0, ws_i, ws_r, ws_l, ws_d, aftr_n, aftr_s, bI_ok, bI_t, bI_f, up_s, up_n, n_bit, decide_true, decide_false, Bool.not_true, Bool.not_false, Bool.and_true, Bool.true_and, Bool.false_and, Bool.and_false, va_rf_s, n_nlt0, k_0, k_67, k_68, k_465, k_466, k_467, k_468, k_469, k_470, k_471, k_472, k_565, r_0_0, r_0_1, r_0_2, r_0_3, r_0_4, r_0_5, r_67_0, r_465_0, r_467_0, r_467_2, r_470_0, r_470_1, va_rf_s, n_neg_t, n_neg_f, kM0 hp, kM1 hp, kM2 hp, kM3 hp, kM4 hp, kM5 hp, kMd hp, kMa hp, rM0_0 hp, rM0_2 hp, rM0_3 hp, rM0_4 hp, rM0_5 hp, rM0_6 hp, rM0_7 hp, rM1 hp, rMd hp, kS0 hs, kS1 hs, kS2 hs, kS3 hs, kS4 hs, kS5 hs, kSp hs, kSn hs, kSw hs, kSl hs, rS0_0 hs, rS0_2 hs, rS0_4 hs, rS0_5 hs, rS3_0 hs, rS1 hs, rS2 hs, rSp hs, rSw hs, d1, d2]
        refine c19 ht (by omega) (fun I1 g1 g2 => ?_)
        simp (disch := omega) only [n_cl, n_in_t, n_lt_t, n_lt_f, n_eq_t, n_eq_f, n_sub, nI_add, n_mul, n_01, ↓reduceIte, if_true, if_false, eq_self, true_or, or_true, and_self, and_true, true_and, Nat.reduceAdd, Nat.reduceMul, Nat.reduceLeDiff, Nat.zero_le, not_true_eq_false, not_false_eq_true, cat2_n, cat2_i, cat2_r, ws_0, ws_i, ws_r, ws_l, ws_d, aftr_n, aftr_s, bI_ok, bI_t, bI_f, up_s, up_n, n_bit, decide_true, decide_false, Bool.not_true, Bool.not_false, Bool.and_true, Bool.true_and, Bool.false_and, Bool.and_false, va_rf_s, n_nlt0, k_0, k_67, k_68, k_465, k_466, k_467, k_468, k_469, k_470, k_471, k_472, k_565, r_0_0, r_0_1, r_0_2, r_0_3, r_0_4, r_0_5, r_67_0, r_465_0, r_467_0, r_467_2, r_470_0, r_470_1, va_rf_s, n_neg_t, n_neg_f]
        exact name I1 g1 g2
theorem c12 (hs : isS s) (hp : isM p) (hi : i < 20) (hg : Good A) (ok : OkL A g) (hx : CX b I s p i A g) (ht : CT b I t) (hl : t.length + (namesT A g).length ≤ 1660) (hQ : ∀ I', CT b I' (t ++ namesT A g) → Ag pCx b I I' → Q (.inl none) (KAt KL b, I', RAt RL b q, L, sz, ex)) :
    X z 12 0 [some (.ref (ad b 467)), some (.ref (ad b s)), some (.ref (ad b (p + 6 + 2 * i))), none, none] [] (0, 0) (KAt KL b, I, RAt RL b q, L, sz, ex) Q := by
  simp (disch := omega) only [v12_0, v12_1, n_cl, n_in_t, n_lt_t, n_lt_f, n_eq_t, n_eq_f, n_sub, nI_add, n_mul, n_01, ↓reduceIte, if_true, if_false, eq_self, true_or, or_true, and_self, and_true, true_and, Nat.reduceAdd, Nat.reduceMul, Nat.reduceLeDiff, Nat.zero_le, not_true_eq_false, not_false_eq_true, cat2_n, cat2_i, cat2_r, ws_0, ws_i, ws_r, ws_l, ws_d, aftr_n, aftr_s, bI_ok, bI_t, bI_f, up_s, up_n, n_bit, decide_true, decide_false, Bool.not_true, Bool.not_false, Bool.and_true, Bool.true_and, Bool.false_and, Bool.and_false, va_rf_s, n_nlt0, k_0, k_67, k_68, k_465, k_466, k_467, k_468, k_469, k_470, k_471, k_472, k_565, r_0_0, r_0_1, r_0_2, r_0_3, r_0_4, r_0_5, r_67_0, r_465_0, r_467_0, r_467_2, r_470_0, r_470_1, va_rf_s, n_neg_t, n_neg_f]
  exact l12 hs hp hi hg ok g 0 I t none (by omega) (fun j _ => by rw [Nat.zero_add]) hx ht hl hQ
end CF
