/-! THE REFERENCE: the share, the digest -/
def mx (h v : Int64) : Int64 := lN 31 * h + v
def mxN (h : Int64) (l : List Nat) : Int64 := l.foldl (fun h v => mx h (nI v).toInt64) h
theorem mxN_nil {h : Int64} : mxN h [] = h := rfl
theorem mxN_c {h : Int64} {v : Nat} {l : List Nat} : mxN h (v :: l) = mxN (mx h (nI v).toInt64) l := rfl
theorem mxN_a {h : Int64} {l l' : List Nat} : mxN h (l ++ l') = mxN (mxN h l) l' := by unfold mxN; rw [List.foldl_append]
def flatF (f : Nat → List Nat) : Nat → Nat → List Nat
  | _, 0 => []
  | i, d + 1 => f i ++ flatF f (i + 1) d
def perL (A : Row) (p : Nat) : List Nat := segF (perV A p) 0 9 ++ (nameL A p ++ [rdyV A p])
def worL (A : Row) (w : Nat) : List Nat := segF (fun k => worV A w (if k < 4 then k else 6 + k)) 0 12
def letL (A : Row) (l : Nat) : List Nat := segF (letV A l) 0 8 ++ (maskL ((grps A).2 l) :: textT A ((grps A).2 l))
def shrV (A : Row) : UInt64 := if A 6 = 0 then UInt64.ofNat 0 else FP.ddiv (FP.i2d (nI (totS A 1))) (FP.i2d (nI (A 6)))
/-- the digest -/
def digV (w : Wd) : Int64 := mxN (mx (mxN (lN 2377) (segF (cntV w.1 w.2.1) 0 15 ++ (segF w.1 0 6 ++ (flatF (perL w.1) 0 (w.1 6) ++ (flatF (worL w.1) 0 (w.1 7) ++ (flatF (letL w.1) 0 (grps w.1).1 ++ [joinV w.1, widV w.1])))))) (shrV w.1).toInt64) (w.2.2.2.length :: w.2.2.2)
theorem up_up {α : Type} {f : Nat → Nat → α} {a k : Nat} {v v' : α} : up2 (up2 f a k v) a k v' = up2 f a k v' := by
  funext x j
  unfold up2
  by_cases h : x = a ∧ j = k
  · rw [if_pos h, if_pos h]
  · rw [if_neg h, if_neg h, if_neg h]
def okD (d : UInt64) : Bool := decide (d &&& 0x7fffffffffffffff ≤ 0x7ff0000000000000) && decide (Op.cmpValue (FP.dcmp d d) .l = nI 0)
theorem okD_all : ∀ a, a < 21 → ∀ c, c < 20 → okD (FP.ddiv (FP.i2d (nI a)) (FP.i2d (nI (c + 1)))) = true := by decide +kernel
theorem okD_0 : okD (UInt64.ofNat 0) = true := by decide +kernel
theorem sumF_add {f g : Nat → Nat} : ∀ d i, sumF (fun k => f k + g k) i d = sumF f i d + sumF g i d
  | 0, _ => rfl
  | d + 1, i => by unfold sumF; rw [sumF_add d (i + 1)]; omega
theorem sumF_snoc {f : Nat → Nat} : ∀ d i, sumF f i (d + 1) = sumF f i d + f (i + d)
  | 0, i => by
    show f i + 0 = 0 + f (i + 0)
    rw [Nat.add_zero, Nat.zero_add, Nat.add_zero]
  | d + 1, i => by
    have := sumF_snoc (f := f) d (i + 1)
    show f i + sumF f (i + 1) (d + 1) = (f i + sumF f (i + 1) d) + f (i + (d + 1))
    rw [this, show i + 1 + d = i + (d + 1) by omega]
    omega
theorem sumF_upd {f g : Nat → Nat} {j : Nat} (h : ∀ k, k ≠ j → g k = f k) (hj : g j = f j + 1) : ∀ d i, i ≤ j → j < i + d → sumF g i d = sumF f i d + 1
  | 0, i, h1, h2 => by omega
  | d + 1, i, h1, h2 => by
    unfold sumF
    by_cases e : i = j
    · subst e
      have : ∀ d k, i < k → sumF g k d = sumF f k d := by
        intro d
        induction d with
        | zero => intro k _; rfl
        | succ d ih => intro k hk; unfold sumF; rw [ih (k + 1) (by omega), h k (by omega)]
      rw [this d (i + 1) (by omega), hj]
      omega
    · rw [sumF_upd h hj d (i + 1) (by omega) (by omega), h i e]
      omega
/-- the persons of all letters are no more than the persons -/
theorem grp_len {A : Row} (h2 : 1 ≤ A 2) : ∀ n, sumF (fun k => ((grp A n).2 k).length) 0 (grp A n).1 ≤ n
  | 0 => Nat.le_refl _
  | n + 1 => by
    have ih := grp_len h2 n
    unfold grp
    split
    · have gl := gix_le (A := A) (G := grp A n) (p := n)
      have e0 := (okg h2 n).2.1
      unfold insG
      by_cases e : gix A (grp A n) n < (grp A n).1
      · rw [if_pos e]
        have := sumF_upd (f := fun k => ((grp A n).2 k).length) (g := fun k => (if k = gix A (grp A n) n then (grp A n).2 k ++ [n] else (grp A n).2 k).length) (j := gix A (grp A n) n) (fun k hk => by rw [if_neg hk]) (by rw [if_pos rfl, List.length_append, List.length_singleton]) (grp A n).1 0 (Nat.zero_le _) (by omega)
        try dsimp only at this ⊢
        omega
      · rw [if_neg e]
        have eg : gix A (grp A n) n = (grp A n).1 := by omega
        dsimp only
        have := sumF_upd (f := fun k => ((grp A n).2 k).length) (g := fun k => (if k = gix A (grp A n) n then (grp A n).2 k ++ [n] else (grp A n).2 k).length) (j := gix A (grp A n) n) (fun k hk => by rw [if_neg hk]) (by rw [if_pos rfl, List.length_append, List.length_singleton]) ((grp A n).1 + 1) 0 (Nat.zero_le _) (by omega)
        have h3 := sumF_snoc (f := fun k => ((grp A n).2 k).length) (grp A n).1 0
        rw [Nat.zero_add, e0 _ (Nat.le_refl _), List.length_nil] at h3
        try dsimp only at this ⊢
        omega
    · omega
theorem sumF_mono {f g : Nat → Nat} : ∀ d i, (∀ k, f k ≤ g k) → sumF f i d ≤ sumF g i d
  | 0, _, _ => Nat.le_refl _
  | d + 1, i, h => by
    have h1 := sumF_mono d (i + 1) h
    have h2 := h i
    unfold sumF
    omega
theorem tot1_le {A : Row} (hg : Good A) : totS A 1 ≤ A 6 := by
  refine Nat.le_trans (sumF_mono _ _ (fun k => ?_)) (grp_len (A := A) (by have := hg.2.1; omega) (A 6))
  cases sentB A ((grps A).2 k)
  · exact Nat.zero_le _
  · exact Nat.le_refl _
theorem shr_ok {A : Row} (hg : Good A) : okD (shrV A) = true := by
  have h1 := tot1_le hg
  have h6 := hg.1.1
  unfold shrV
  by_cases e : A 6 = 0
  · rw [if_pos e]; exact okD_0
  · rw [if_neg e]
    have := okD_all (totS A 1) (by omega) (A 6 - 1) (by omega)
    rwa [show A 6 - 1 + 1 = A 6 by omega] at this
theorem okD_n {d : UInt64} (h : okD d = true) : vf_n64 d ∧ Op.cmpValue (FP.dcmp d d) .l = nI 0 := by
  unfold okD at h
  rw [Bool.and_eq_true, decide_eq_true_eq, decide_eq_true_eq] at h
  exact h
section PB
variable {z : P0} {KL : Nat → Nat × Nat} {RL : Nat → Nat → Option Nat} {q : Nat → Nat} {b : Nat} {I : Nat → Nat → Int32} {L : Nat → Nat → Int64} {sz : Nat} {ex : Bool} {Q : Res → Mem → Prop} {A : Row}
variable {n : Nat} {H : Nat → Row} {B : List Nat} {h : Int64}
theorem c178 {v : Int64} : X z 178 0 [some (.ref (ad b 566)), some (.long v), none] [] (0, 0) (KAt KL b, I, RAt RL b q, up2 L (ad b 566) 22 (h), sz, ex) Q = Q (.inl none) (KAt KL b, I, RAt RL b q, up2 L (ad b 566) 22 (mx h v), sz, ex) := by
  simp (disch := omega) only [v178_0, v178_1, v178_4, v178_5, v178_8, v178_9, v178_10, v178_11, v178_14, k_566, k_567, k_568, k_569, k_570, k_571, k_572, k_573, k_574, k_575, k_576, r_566_0, r_566_2, r_566_4, r_566_6, r_566_7, r_566_8, r_566_9, r_566_10, r_566_11, r_566_13, va_rf_s, n_cl, n_in_t, n_lt_t, n_lt_f, n_eq_t, n_eq_f, n_sub, nI_add, n_mul, ↓reduceIte, if_true, if_false, eq_self, true_or, or_true, and_self, and_true, true_and, Nat.reduceAdd, Nat.reduceMul, Nat.reduceLeDiff, Nat.zero_le, not_true_eq_false, not_false_eq_true, cat2_n, cat2_i, cat2_r, ws_0, ws_i, ws_r, ws_l, ws_d, aftr_n, aftr_s, bI_ok, bI_t, bI_f, up_s, up_n, n_bit, decide_true, decide_false, Bool.not_true, Bool.not_false, Bool.and_true, Bool.true_and, Bool.false_and, Bool.and_false, up_up]
  rfl
theorem c176 (hg : Good A) (hz : RZ b I A) (hl : LZ b I A) : X z 176 0 [some (.ref (ad b 566))] [] (0, 0) (KAt KL b, I, RAt RL b q, L, sz, ex) Q = Q (.inl (some (.double (shrV A)))) (KAt KL b, I, RAt RL b q, L, sz, ex) := by
  have h6 := hg.1.1
  have z4 := hz.at (k := 4) (by omega)
  have z5 := hz.at (k := 5) (by omega)
  have ok := (okD_n (shr_ok hg)).1
  unfold shrV at ok ⊢
  by_cases e : A 6 = 0
  · rw [if_pos e] at ok ⊢
    simp (disch := omega) only [v176_0, v176_1, v176_4, v176_6, v176_7, v176_10, v176_11, v176_14, v176_15, u176_16, v176_19, v176_20, v176_21, v176_24, v176_26, v176_27, v176_28, v176_29, k_566, k_567, k_568, k_569, k_570, k_571, k_572, k_573, k_574, k_575, k_576, r_566_0, r_566_2, r_566_4, r_566_6, r_566_7, r_566_8, r_566_9, r_566_10, r_566_11, r_566_13, va_rf_s, n_cl, n_in_t, n_lt_t, n_lt_f, n_eq_t, n_eq_f, n_sub, nI_add, n_mul, ↓reduceIte, if_true, if_false, eq_self, true_or, or_true, and_self, and_true, true_and, Nat.reduceAdd, Nat.reduceMul, Nat.reduceLeDiff, Nat.zero_le, not_true_eq_false, not_false_eq_true, cat2_n, cat2_i, cat2_r, ws_0, ws_i, ws_r, ws_l, ws_d, aftr_n, aftr_s, bI_ok, bI_t, bI_f, up_s, up_n, n_bit, decide_true, decide_false, Bool.not_true, Bool.not_false, Bool.and_true, Bool.true_and, Bool.false_and, Bool.and_false, hz.at]
  · rw [if_neg e] at ok ⊢
    simp (disch := omega) only [v176_0, v176_1, v176_4, v176_6, v176_7, v176_10, v176_11, v176_14, v176_15, u176_16, v176_19, v176_20, v176_21, v176_24, v176_26, v176_27, v176_28, v176_29, k_566, k_567, k_568, k_569, k_570, k_571, k_572, k_573, k_574, k_575, k_576, r_566_0, r_566_2, r_566_4, r_566_6, r_566_7, r_566_8, r_566_9, r_566_10, r_566_11, r_566_13, va_rf_s, n_cl, n_in_t, n_lt_t, n_lt_f, n_eq_t, n_eq_f, n_sub, nI_add, n_mul, ↓reduceIte, if_true, if_false, eq_self, true_or, or_true, and_self, and_true, true_and, Nat.reduceAdd, Nat.reduceMul, Nat.reduceLeDiff, Nat.zero_le, not_true_eq_false, not_false_eq_true, cat2_n, cat2_i, cat2_r, ws_0, ws_i, ws_r, ws_l, ws_d, aftr_n, aftr_s, bI_ok, bI_t, bI_f, up_s, up_n, n_bit, decide_true, decide_false, Bool.not_true, Bool.not_false, Bool.and_true, Bool.true_and, Bool.false_and, Bool.and_false, hz.at, c132 hg (w := 1) (by omega) z4 z5 hl, ok]
theorem l179a {p : Nat} (hg : Good A) (hp : p < A 6) (hz : RZ b I A) (hl : LZ b I A) : ∀ d k h, k + d = 9 → X z 179 15 [some (.ref (ad b 566)), some (.int (nI p)), some (.int (nI k))] [] (0, 0) (KAt KL b, I, RAt RL b q, up2 L (ad b 566) 22 (h), sz, ex) Q = X z 179 38 [some (.ref (ad b 566)), some (.int (nI p)), some (.int (nI 9))] [] (0, 0) (KAt KL b, I, RAt RL b q, up2 L (ad b 566) 22 (mxN h (segF (perV A p) k d)), sz, ex) Q := by
  intro d
  induction d with
  | zero =>
    intro k h hk
    have e : k = 9 := by omega
    subst e
    rw [v179_15]
    simp (disch := omega) only [v179_16, v179_18, v179_21, v179_22, v179_23, v179_24, u179_25, v179_28, u179_29, v179_32, v179_35, k_566, k_567, k_568, k_569, k_570, k_571, k_572, k_573, k_574, k_575, k_576, r_566_0, r_566_2, r_566_4, r_566_6, r_566_7, r_566_8, r_566_9, r_566_10, r_566_11, r_566_13, va_rf_s, n_cl, n_in_t, n_lt_t, n_lt_f, n_eq_t, n_eq_f, n_sub, nI_add, n_mul, ↓reduceIte, if_true, if_false, eq_self, true_or, or_true, and_self, and_true, true_and, Nat.reduceAdd, Nat.reduceMul, Nat.reduceLeDiff, Nat.zero_le, not_true_eq_false, not_false_eq_true, cat2_n, cat2_i, cat2_r, ws_0, ws_i, ws_r, ws_l, ws_d, aftr_n, aftr_s, bI_ok, bI_t, bI_f, up_s, up_n, n_bit, decide_true, decide_false, Bool.not_true, Bool.not_false, Bool.and_true, Bool.true_and, Bool.false_and, Bool.and_false]
    rfl
  | succ d ih =>
    intro k h hk
    rw [v179_15]
    simp (disch := omega) only [v179_16, v179_18, v179_21, v179_22, v179_23, v179_24, u179_25, v179_28, u179_29, v179_32, v179_35, k_566, k_567, k_568, k_569, k_570, k_571, k_572, k_573, k_574, k_575, k_576, r_566_0, r_566_2, r_566_4, r_566_6, r_566_7, r_566_8, r_566_9, r_566_10, r_566_11, r_566_13, va_rf_s, n_cl, n_in_t, n_lt_t, n_lt_f, n_eq_t, n_eq_f, n_sub, nI_add, n_mul, ↓reduceIte, if_true, if_false, eq_self, true_or, or_true, and_self, and_true, true_and, Nat.reduceAdd, Nat.reduceMul, Nat.reduceLeDiff, Nat.zero_le, not_true_eq_false, not_false_eq_true, cat2_n, cat2_i, cat2_r, ws_0, ws_i, ws_r, ws_l, ws_d, aftr_n, aftr_s, bI_ok, bI_t, bI_f, up_s, up_n, n_bit, decide_true, decide_false, Bool.not_true, Bool.not_false, Bool.and_true, Bool.true_and, Bool.false_and, Bool.and_false, c155 hg hp (show k ≤ 8 by omega) hz hl, c178, ih (k + 1)]
    rfl
theorem l179b {p : Nat} (hg : Good A) (hp : p < A 6) (hz : RZ b I A) : ∀ d k h, k + d = A (133 + p) → X z 179 40 [some (.ref (ad b 566)), some (.int (nI p)), some (.int (nI k))] [] (0, 0) (KAt KL b, I, RAt RL b q, up2 L (ad b 566) 22 (h), sz, ex) Q = X z 179 80 [some (.ref (ad b 566)), some (.int (nI p)), some (.int (nI (A (133 + p))))] [] (0, 0) (KAt KL b, I, RAt RL b q, up2 L (ad b 566) 22 (mxN h (segF (fun k => A (153 + 8 * p + k)) k d)), sz, ex) Q := by
  have h6 := hg.1.1
  have q2 := (hg.2.2.1 p hp).2.2.2.2.2.2.1
  intro d
  induction d with
  | zero =>
    intro k h hk
    have e : k = A (133 + p) := by omega
    rw [v179_40, e]
    simp (disch := omega) only [v179_41, v179_42, v179_45, v179_48, v179_49, v179_50, v179_51, v179_54, v179_55, v179_56, v179_59, v179_62, v179_64, v179_65, v179_66, v179_67, v179_68, v179_69, v179_70, u179_71, v179_74, v179_77, k_566, k_567, k_568, k_569, k_570, k_571, k_572, k_573, k_574, k_575, k_576, r_566_0, r_566_2, r_566_4, r_566_6, r_566_7, r_566_8, r_566_9, r_566_10, r_566_11, r_566_13, va_rf_s, n_cl, n_in_t, n_lt_t, n_lt_f, n_eq_t, n_eq_f, n_sub, nI_add, n_mul, ↓reduceIte, if_true, if_false, eq_self, true_or, or_true, and_self, and_true, true_and, Nat.reduceAdd, Nat.reduceMul, Nat.reduceLeDiff, Nat.zero_le, not_true_eq_false, not_false_eq_true, cat2_n, cat2_i, cat2_r, ws_0, ws_i, ws_r, ws_l, ws_d, aftr_n, aftr_s, bI_ok, bI_t, bI_f, up_s, up_n, n_bit, decide_true, decide_false, Bool.not_true, Bool.not_false, Bool.and_true, Bool.true_and, Bool.false_and, Bool.and_false, hz.at]
    rfl
  | succ d ih =>
    intro k h hk
    rw [v179_40]
    simp (disch := omega) only [v179_41, v179_42, v179_45, v179_48, v179_49, v179_50, v179_51, v179_54, v179_55, v179_56, v179_59, v179_62, v179_64, v179_65, v179_66, v179_67, v179_68, v179_69, v179_70, u179_71, v179_74, v179_77, k_566, k_567, k_568, k_569, k_570, k_571, k_572, k_573, k_574, k_575, k_576, r_566_0, r_566_2, r_566_4, r_566_6, r_566_7, r_566_8, r_566_9, r_566_10, r_566_11, r_566_13, va_rf_s, n_cl, n_in_t, n_lt_t, n_lt_f, n_eq_t, n_eq_f, n_sub, nI_add, n_mul, ↓reduceIte, if_true, if_false, eq_self, true_or, or_true, and_self, and_true, true_and, Nat.reduceAdd, Nat.reduceMul, Nat.reduceLeDiff, Nat.zero_le, not_true_eq_false, not_false_eq_true, cat2_n, cat2_i, cat2_r, ws_0, ws_i, ws_r, ws_l, ws_d, aftr_n, aftr_s, bI_ok, bI_t, bI_f, up_s, up_n, n_bit, decide_true, decide_false, Bool.not_true, Bool.not_false, Bool.and_true, Bool.true_and, Bool.false_and, Bool.and_false, hz.at, c178, ih (k + 1)]
    rfl
theorem l179 (hg : Good A) (hz : RZ b I A) (hl : LZ b I A) : ∀ d p h (x2 : Option Value), p + d = A 6 → (∀ x2, X z 179 96 [some (.ref (ad b 566)), some (.int (nI (A 6))), x2] [] (0, 0) (KAt KL b, I, RAt RL b q, up2 L (ad b 566) 22 (mxN h (flatF (perL A) p d)), sz, ex) Q) → X z 179 2 [some (.ref (ad b 566)), some (.int (nI p)), x2] [] (0, 0) (KAt KL b, I, RAt RL b q, up2 L (ad b 566) 22 (h), sz, ex) Q := by
  have h6 := hg.1.1
  intro d
  induction d with
  | zero =>
    intro p h x2 hp hQ
    have e : p = A 6 := by omega
    rw [v179_2, e]
    simp (disch := omega) only [v179_3, v179_4, v179_7, v179_9, v179_10, v179_13, v179_14, k_566, k_567, k_568, k_569, k_570, k_571, k_572, k_573, k_574, k_575, k_576, r_566_0, r_566_2, r_566_4, r_566_6, r_566_7, r_566_8, r_566_9, r_566_10, r_566_11, r_566_13, va_rf_s, n_cl, n_in_t, n_lt_t, n_lt_f, n_eq_t, n_eq_f, n_sub, nI_add, n_mul, ↓reduceIte, if_true, if_false, eq_self, true_or, or_true, and_self, and_true, true_and, Nat.reduceAdd, Nat.reduceMul, Nat.reduceLeDiff, Nat.zero_le, not_true_eq_false, not_false_eq_true, cat2_n, cat2_i, cat2_r, ws_0, ws_i, ws_r, ws_l, ws_d, aftr_n, aftr_s, bI_ok, bI_t, bI_f, up_s, up_n, n_bit, decide_true, decide_false, Bool.not_true, Bool.not_false, Bool.and_true, Bool.true_and, Bool.false_and, Bool.and_false, hz.at]
    exact hQ x2
  | succ d ih =>
    intro p h x2 hp hQ
    rw [v179_2]
    simp (disch := omega) only [v179_3, v179_4, v179_7, v179_9, v179_10, v179_13, v179_14, k_566, k_567, k_568, k_569, k_570, k_571, k_572, k_573, k_574, k_575, k_576, r_566_0, r_566_2, r_566_4, r_566_6, r_566_7, r_566_8, r_566_9, r_566_10, r_566_11, r_566_13, va_rf_s, n_cl, n_in_t, n_lt_t, n_lt_f, n_eq_t, n_eq_f, n_sub, nI_add, n_mul, ↓reduceIte, if_true, if_false, eq_self, true_or, or_true, and_self, and_true, true_and, Nat.reduceAdd, Nat.reduceMul, Nat.reduceLeDiff, Nat.zero_le, not_true_eq_false, not_false_eq_true, cat2_n, cat2_i, cat2_r, ws_0, ws_i, ws_r, ws_l, ws_d, aftr_n, aftr_s, bI_ok, bI_t, bI_f, up_s, up_n, n_bit, decide_true, decide_false, Bool.not_true, Bool.not_false, Bool.and_true, Bool.true_and, Bool.false_and, Bool.and_false, hz.at, l179a hg (show p < A 6 by omega) hz hl 9 0, v179_38, v179_39, l179b hg (show p < A 6 by omega) hz (A (133 + p)) 0, v179_80, v179_81, v179_82, u179_83, v179_86, u179_87, v179_90, v179_93, c174 hg (show p < A 6 by omega) hz, c178, Nat.zero_add]
    refine ih (p + 1) _ _ (by omega) (fun x2 => ?_)
    have := hQ x2
    unfold flatF perL at this
    rw [mxN_a, mxN_a, mxN_a, mxN_c, mxN_nil] at this
    exact this
theorem l179c {w : Nat} (hg : Good A) (hw : w < A 7) (hz : RZ b I A) : ∀ d k h, k + d = 12 → X z 179 111 [some (.ref (ad b 566)), some (.int (nI w)), some (.int (nI k))] [] (0, 0) (KAt KL b, I, RAt RL b q, up2 L (ad b 566) 22 (h), sz, ex) Q = X z 179 146 [some (.ref (ad b 566)), some (.int (nI w)), some (.int (nI 12))] [] (0, 0) (KAt KL b, I, RAt RL b q, up2 L (ad b 566) 22 (mxN h (segF (fun k => worV A w (if k < 4 then k else 6 + k)) k d)), sz, ex) Q := by
  have h7 := hg.1.2.1
  intro d
  induction d with
  | zero =>
    intro k h hk
    have e : k = 12 := by omega
    subst e
    rw [v179_111]
    simp (disch := omega) only [v179_112, v179_114, v179_117, v179_118, v179_119, v179_120, v179_121, v179_122, v179_125, v179_126, v179_129, v179_131, v179_132, u179_133, v179_136, u179_137, v179_140, v179_143, k_566, k_567, k_568, k_569, k_570, k_571, k_572, k_573, k_574, k_575, k_576, r_566_0, r_566_2, r_566_4, r_566_6, r_566_7, r_566_8, r_566_9, r_566_10, r_566_11, r_566_13, va_rf_s, n_cl, n_in_t, n_lt_t, n_lt_f, n_eq_t, n_eq_f, n_sub, nI_add, n_mul, ↓reduceIte, if_true, if_false, eq_self, true_or, or_true, and_self, and_true, true_and, Nat.reduceAdd, Nat.reduceMul, Nat.reduceLeDiff, Nat.zero_le, not_true_eq_false, not_false_eq_true, cat2_n, cat2_i, cat2_r, ws_0, ws_i, ws_r, ws_l, ws_d, aftr_n, aftr_s, bI_ok, bI_t, bI_f, up_s, up_n, n_bit, decide_true, decide_false, Bool.not_true, Bool.not_false, Bool.and_true, Bool.true_and, Bool.false_and, Bool.and_false]
    rfl
  | succ d ih =>
    intro k h hk
    rw [v179_111]
    unfold segF
    rw [mxN_c]
    by_cases e : k < 4
    · rw [if_pos e]
      simp (disch := omega) only [v179_112, v179_114, v179_117, v179_118, v179_119, v179_120, v179_121, v179_122, v179_125, v179_126, v179_129, v179_131, v179_132, u179_133, v179_136, u179_137, v179_140, v179_143, k_566, k_567, k_568, k_569, k_570, k_571, k_572, k_573, k_574, k_575, k_576, r_566_0, r_566_2, r_566_4, r_566_6, r_566_7, r_566_8, r_566_9, r_566_10, r_566_11, r_566_13, va_rf_s, n_cl, n_in_t, n_lt_t, n_lt_f, n_eq_t, n_eq_f, n_sub, nI_add, n_mul, ↓reduceIte, if_true, if_false, eq_self, true_or, or_true, and_self, and_true, true_and, Nat.reduceAdd, Nat.reduceMul, Nat.reduceLeDiff, Nat.zero_le, not_true_eq_false, not_false_eq_true, cat2_n, cat2_i, cat2_r, ws_0, ws_i, ws_r, ws_l, ws_d, aftr_n, aftr_s, bI_ok, bI_t, bI_f, up_s, up_n, n_bit, decide_true, decide_false, Bool.not_true, Bool.not_false, Bool.and_true, Bool.true_and, Bool.false_and, Bool.and_false, c159 hg hw (show k ≤ 3 ∨ (10 ≤ k ∧ k ≤ 17) by omega) hz, c178, ih (k + 1)]
    · rw [if_neg e]
      simp (disch := omega) only [v179_112, v179_114, v179_117, v179_118, v179_119, v179_120, v179_121, v179_122, v179_125, v179_126, v179_129, v179_131, v179_132, u179_133, v179_136, u179_137, v179_140, v179_143, k_566, k_567, k_568, k_569, k_570, k_571, k_572, k_573, k_574, k_575, k_576, r_566_0, r_566_2, r_566_4, r_566_6, r_566_7, r_566_8, r_566_9, r_566_10, r_566_11, r_566_13, va_rf_s, n_cl, n_in_t, n_lt_t, n_lt_f, n_eq_t, n_eq_f, n_sub, nI_add, n_mul, ↓reduceIte, if_true, if_false, eq_self, true_or, or_true, and_self, and_true, true_and, Nat.reduceAdd, Nat.reduceMul, Nat.reduceLeDiff, Nat.zero_le, not_true_eq_false, not_false_eq_true, cat2_n, cat2_i, cat2_r, ws_0, ws_i, ws_r, ws_l, ws_d, aftr_n, aftr_s, bI_ok, bI_t, bI_f, up_s, up_n, n_bit, decide_true, decide_false, Bool.not_true, Bool.not_false, Bool.and_true, Bool.true_and, Bool.false_and, Bool.and_false, c159 hg hw (show 6 + k ≤ 3 ∨ (10 ≤ 6 + k ∧ 6 + k ≤ 17) by omega) hz, c178, ih (k + 1)]
theorem l179d (hg : Good A) (hz : RZ b I A) : ∀ d w h (x2 : Option Value), w + d = A 7 → Q (.inl none) (KAt KL b, I, RAt RL b q, up2 L (ad b 566) 22 (mxN h (flatF (worL A) w d)), sz, ex) → X z 179 98 [some (.ref (ad b 566)), some (.int (nI w)), x2] [] (0, 0) (KAt KL b, I, RAt RL b q, up2 L (ad b 566) 22 (h), sz, ex) Q := by
  have h7 := hg.1.2.1
  intro d
  induction d with
  | zero =>
    intro w h x2 hp hQ
    have e : w = A 7 := by omega
    rw [v179_98, e]
    simp (disch := omega) only [v179_99, v179_100, v179_103, v179_105, v179_106, v179_109, v179_110, v179_152, k_566, k_567, k_568, k_569, k_570, k_571, k_572, k_573, k_574, k_575, k_576, r_566_0, r_566_2, r_566_4, r_566_6, r_566_7, r_566_8, r_566_9, r_566_10, r_566_11, r_566_13, va_rf_s, n_cl, n_in_t, n_lt_t, n_lt_f, n_eq_t, n_eq_f, n_sub, nI_add, n_mul, ↓reduceIte, if_true, if_false, eq_self, true_or, or_true, and_self, and_true, true_and, Nat.reduceAdd, Nat.reduceMul, Nat.reduceLeDiff, Nat.zero_le, not_true_eq_false, not_false_eq_true, cat2_n, cat2_i, cat2_r, ws_0, ws_i, ws_r, ws_l, ws_d, aftr_n, aftr_s, bI_ok, bI_t, bI_f, up_s, up_n, n_bit, decide_true, decide_false, Bool.not_true, Bool.not_false, Bool.and_true, Bool.true_and, Bool.false_and, Bool.and_false, hz.at]
    exact hQ
  | succ d ih =>
    intro w h x2 hp hQ
    rw [v179_98]
    simp (disch := omega) only [v179_99, v179_100, v179_103, v179_105, v179_106, v179_109, v179_110, k_566, k_567, k_568, k_569, k_570, k_571, k_572, k_573, k_574, k_575, k_576, r_566_0, r_566_2, r_566_4, r_566_6, r_566_7, r_566_8, r_566_9, r_566_10, r_566_11, r_566_13, va_rf_s, n_cl, n_in_t, n_lt_t, n_lt_f, n_eq_t, n_eq_f, n_sub, nI_add, n_mul, ↓reduceIte, if_true, if_false, eq_self, true_or, or_true, and_self, and_true, true_and, Nat.reduceAdd, Nat.reduceMul, Nat.reduceLeDiff, Nat.zero_le, not_true_eq_false, not_false_eq_true, cat2_n, cat2_i, cat2_r, ws_0, ws_i, ws_r, ws_l, ws_d, aftr_n, aftr_s, bI_ok, bI_t, bI_f, up_s, up_n, n_bit, decide_true, decide_false, Bool.not_true, Bool.not_false, Bool.and_true, Bool.true_and, Bool.false_and, Bool.and_false, hz.at, l179c hg (show w < A 7 by omega) hz 12 0, v179_146, v179_149]
    refine ih (w + 1) _ _ (by omega) ?_
    unfold flatF worL at hQ
    rw [mxN_a] at hQ
    exact hQ
theorem c179 (hg : Good A) (hz : RZ b I A) (hl : LZ b I A) (hQ : Q (.inl none) (KAt KL b, I, RAt RL b q, up2 L (ad b 566) 22 (mxN h (flatF (perL A) 0 (A 6) ++ flatF (worL A) 0 (A 7))), sz, ex)) : X z 179 0 [some (.ref (ad b 566)), none, none] [] (0, 0) (KAt KL b, I, RAt RL b q, up2 L (ad b 566) 22 (h), sz, ex) Q := by
  rw [mxN_a] at hQ
  simp (disch := omega) only [v179_0, v179_1, k_566, k_567, k_568, k_569, k_570, k_571, k_572, k_573, k_574, k_575, k_576, r_566_0, r_566_2, r_566_4, r_566_6, r_566_7, r_566_8, r_566_9, r_566_10, r_566_11, r_566_13, va_rf_s, n_cl, n_in_t, n_lt_t, n_lt_f, n_eq_t, n_eq_f, n_sub, nI_add, n_mul, ↓reduceIte, if_true, if_false, eq_self, true_or, or_true, and_self, and_true, true_and, Nat.reduceAdd, Nat.reduceMul, Nat.reduceLeDiff, Nat.zero_le, not_true_eq_false, not_false_eq_true, cat2_n, cat2_i, cat2_r, ws_0, ws_i, ws_r, ws_l, ws_d, aftr_n, aftr_s, bI_ok, bI_t, bI_f, up_s, up_n, n_bit, decide_true, decide_false, Bool.not_true, Bool.not_false, Bool.and_true, Bool.true_and, Bool.false_and, Bool.and_false]
  refine l179 hg hz hl (A 6) 0 _ _ (by omega) (fun x2 => ?_)
  simp (disch := omega) only [v179_96, v179_97, k_566, k_567, k_568, k_569, k_570, k_571, k_572, k_573, k_574, k_575, k_576, r_566_0, r_566_2, r_566_4, r_566_6, r_566_7, r_566_8, r_566_9, r_566_10, r_566_11, r_566_13, va_rf_s, n_cl, n_in_t, n_lt_t, n_lt_f, n_eq_t, n_eq_f, n_sub, nI_add, n_mul, ↓reduceIte, if_true, if_false, eq_self, true_or, or_true, and_self, and_true, true_and, Nat.reduceAdd, Nat.reduceMul, Nat.reduceLeDiff, Nat.zero_le, not_true_eq_false, not_false_eq_true, cat2_n, cat2_i, cat2_r, ws_0, ws_i, ws_r, ws_l, ws_d, aftr_n, aftr_s, bI_ok, bI_t, bI_f, up_s, up_n, n_bit, decide_true, decide_false, Bool.not_true, Bool.not_false, Bool.and_true, Bool.true_and, Bool.false_and, Bool.and_false]
  exact l179d hg hz (A 7) 0 _ _ (by omega) hQ
end PB
