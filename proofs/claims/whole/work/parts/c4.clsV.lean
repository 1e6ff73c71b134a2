/-! THE CLASS: the digest -/
section CV
variable {z : P0} {KL : Nat → Nat × Nat} {RL : Nat → Nat → Option Nat} {q : Nat → Nat} {b : Nat} {I : Nat → Nat → Int32} {L : Nat → Nat → Int64} {sz : Nat} {ex : Bool} {Q : Res → Mem → Prop} {A : Row}
variable {n : Nat} {H : Nat → Row} {B : List Nat} {h : Int64}
theorem flatF_s {f : Nat → List Nat} {i d : Nat} : flatF f i (d + 1) = f i ++ flatF f (i + 1) d := rfl
theorem segF_s {f : Nat → Nat} {i d : Nat} : segF f i (d + 1) = f i :: segF f (i + 1) d := rfl
theorem MZ.ag {p : Nat} {P : Nat → Nat → Prop} {I' : Nat → Nat → Int32} (hg : Good A) (h : MZ b I p A) (ha : Ag P b I I') (hP : ∀ o j, P o j → ¬ (p ≤ o ∧ o < p + 46)) : MZ b I' p A := by
  have h6 := hg.1.1
  have gl := grps_le hg
  have k : ∀ o j, p ≤ o → o < p + 46 → I' (ad b o) j = I (ad b o) j := fun o j h1 h2 => ha.at (fun x => hP _ _ x ⟨h1, h2⟩)
  obtain ⟨⟨d0, d1⟩, d2, d3, t0, t1, t2, t3⟩ := h
  refine ⟨⟨(k _ _ (by omega) (by omega)).trans d0, fun j hj => ⟨⟨(k _ _ (by omega) (by omega)).trans (d1 j hj).1.1, fun i hi => (k _ _ (by omega) (by omega)).trans ((d1 j hj).1.2 i hi)⟩, (k _ _ (by omega) (by omega)).trans (d1 j hj).2⟩⟩, fun j hj => ⟨(k _ _ (by omega) (by omega)).trans (d2 j hj).1, (k _ _ (by omega) (by omega)).trans (d2 j hj).2.1, (k _ _ (by omega) (by omega)).trans (d2 j hj).2.2⟩, fun i hi => ⟨(k _ _ (by omega) (by omega)).trans (d3 i hi).1, (k _ _ (by omega) (by omega)).trans (d3 i hi).2⟩, (k _ _ (by omega) (by omega)).trans t0, (k _ _ (by omega) (by omega)).trans t1, (k _ _ (by omega) (by omega)).trans t2, (k _ _ (by omega) (by omega)).trans t3⟩
theorem l101a {p : Nat} {h0 : Int64} (hg : Good A) (hm : Sm A) (hp : p < A 6) (hq : QZ b I A) : ∀ d k g, k + d = 9 → X z 101 20 [some (.ref (ad b 0)), some (.long h0), none, some (.long g), none, some (.int (nI p)), some (.int (nI k))] [] (0, 0) (KAt KL b, I, RAt RL b q, L, sz, ex) Q = X z 101 47 [some (.ref (ad b 0)), some (.long h0), none, some (.long (mxN g (segF (perV A p) k d))), none, some (.int (nI p)), some (.int (nI 9))] [] (0, 0) (KAt KL b, I, RAt RL b q, L, sz, ex) Q := by
  intro d
  induction d with
  | zero =>
    intro k g hk
    have e : k = 9 := by omega
    subst e
    rw [v101_20]
    simp (disch := omega) only [v101_22, v101_24, v101_27, v101_28, v101_29, v101_31, u101_33, v101_36, u101_37, v101_40, v101_41, v101_44, n_cl, n_in_t, n_lt_t, n_lt_f, n_eq_t, n_eq_f, n_sub, nI_add, n_mul, n_01, ↓reduceIte, if_true, if_false, eq_self, true_or, or_true, and_self, and_true, true_and, Nat.reduceAdd, Nat.reduceMul, Nat.reduceLeDiff, Nat.zero_le, not_true_eq_false, not_false_eq_true, cat2_n, cat2_i, cat2_r, ws_0, ws_i, ws_r, ws_l, ws_d, aftr_n, aftr_s, bI_ok, bI_t, bI_f, up_s, up_n, n_bit, decide_true, decide_false, Bool.not_true, Bool.not_false, Bool.and_true, Bool.true_and, Bool.false_and, Bool.and_false, va_rf_s, n_nlt0, k_0, k_67, k_68, k_465, k_466, k_467, k_468, k_469, k_470, k_471, k_472, k_565, r_0_0, r_0_1, r_0_2, r_0_3, r_0_4, r_0_5, r_67_0, r_465_0, r_467_0, r_467_2, r_470_0, r_470_1, va_rf_s, n_neg_t, n_neg_f]
    rfl
  | succ d ih =>
    intro k g hk
    rw [v101_20]
    simp (disch := omega) only [v101_22, v101_24, v101_27, v101_28, v101_29, v101_31, u101_33, v101_36, u101_37, v101_40, v101_41, v101_44, n_cl, n_in_t, n_lt_t, n_lt_f, n_eq_t, n_eq_f, n_sub, nI_add, n_mul, n_01, ↓reduceIte, if_true, if_false, eq_self, true_or, or_true, and_self, and_true, true_and, Nat.reduceAdd, Nat.reduceMul, Nat.reduceLeDiff, Nat.zero_le, not_true_eq_false, not_false_eq_true, cat2_n, cat2_i, cat2_r, ws_0, ws_i, ws_r, ws_l, ws_d, aftr_n, aftr_s, bI_ok, bI_t, bI_f, up_s, up_n, n_bit, decide_true, decide_false, Bool.not_true, Bool.not_false, Bool.and_true, Bool.true_and, Bool.false_and, Bool.and_false, va_rf_s, n_nlt0, k_0, k_67, k_68, k_465, k_466, k_467, k_468, k_469, k_470, k_471, k_472, k_565, r_0_0, r_0_1, r_0_2, r_0_3, r_0_4, r_0_5, r_67_0, r_465_0, r_467_0, r_467_2, r_470_0, r_470_1, va_rf_s, n_neg_t, n_neg_f, c93 hg hm hp (show k ≤ 8 by omega) hq, c99, ih (k + 1)]
    rfl
theorem l101 {h0 : Int64} (hg : Good A) (hm : Sm A) (hq : QZ b I A) : ∀ d p g (x6 : Option Value), p + d = A 6 → X z 101 5 [some (.ref (ad b 0)), some (.long h0), none, some (.long g), none, some (.int (nI p)), x6] [] (0, 0) (KAt KL b, I, RAt RL b q, L, sz, ex) Q = Q (.inl (some (.long (mxN g (flatF (perL A) p d))))) (KAt KL b, I, RAt RL b q, L, sz, ex) := by
  have hs := isS_N
  have h6 := hg.1.1
  have m6 := hq.1.1.1.1
  intro d
  induction d with
  | zero =>
    intro p g x6 hp
    have e : p = A 6 := by omega
    subst e
    rw [v101_5]
    simp (disch := omega) only [v101_7, v101_8, v101_11, v101_14, v101_17, v101_18, v101_96, v101_97, n_cl, n_in_t, n_lt_t, n_lt_f, n_eq_t, n_eq_f, n_sub, nI_add, n_mul, n_01, ↓reduceIte, if_true, if_false, eq_self, true_or, or_true, and_self, and_true, true_and, Nat.reduceAdd, Nat.reduceMul, Nat.reduceLeDiff, Nat.zero_le, not_true_eq_false, not_false_eq_true, cat2_n, cat2_i, cat2_r, ws_0, ws_i, ws_r, ws_l, ws_d, aftr_n, aftr_s, bI_ok, bI_t, bI_f, up_s, up_n, n_bit, decide_true, decide_false, Bool.not_true, Bool.not_false, Bool.and_true, Bool.true_and, Bool.false_and, Bool.and_false, va_rf_s, n_nlt0, k_0, k_67, k_68, k_465, k_466, k_467, k_468, k_469, k_470, k_471, k_472, k_565, r_0_0, r_0_1, r_0_2, r_0_3, r_0_4, r_0_5, r_67_0, r_465_0, r_467_0, r_467_2, r_470_0, r_470_1, va_rf_s, n_neg_t, n_neg_f, k_0, k_67, k_68, k_465, k_466, k_467, k_468, k_469, k_470, k_471, k_472, k_565, r_0_0, r_0_1, r_0_2, r_0_3, r_0_4, r_0_5, r_67_0, r_465_0, r_467_0, r_467_2, r_470_0, r_470_1, va_rf_s, kS0 hs, kS1 hs, kS2 hs, kS3 hs, kS4 hs, kS5 hs, kSp hs, kSn hs, kSw hs, kSl hs, rS0_0 hs, rS0_2 hs, rS0_4 hs, rS0_5 hs, rS3_0 hs, rS1 hs, rS2 hs, rSp hs, rSw hs, m6]
    rfl
  | succ d ih =>
    intro p g x6 hp
    have hpp : p < A 6 := by omega
    have m1 := (hq.1.1.2.1 p hpp).1
    have m8 := (hq.1.1.2.1 p hpp).2.2.2.2.2.2.2
    have h8 := (hg.2.2.1 p hpp).2.2.2.2.2.2.1
    have nl : (nameL A p).length = A (133 + p) := nameL_len
    have c := fun {h : Int64} {Q : Res → Mem → Prop} => c100 (z := z) (KL := KL) (RL := RL) (q := q) (L := L) (sz := sz) (ex := ex) (h := h) (Q := Q) (t := nameL A p) (kSn (KL := KL) (b := b) hs (show p < 20 by omega)) (by omega) (by omega) (fun k hk => by unfold nameL; rw [segF_get _ _ _ (by omega), Nat.zero_add]; exact m8 k (by omega))
    rw [nl] at c
    rw [v101_5]
    simp (disch := omega) only [v101_7, v101_8, v101_11, v101_14, v101_17, v101_18, n_cl, n_in_t, n_lt_t, n_lt_f, n_eq_t, n_eq_f, n_sub, nI_add, n_mul, n_01, ↓reduceIte, if_true, if_false, eq_self, true_or, or_true, and_self, and_true, true_and, Nat.reduceAdd, Nat.reduceMul, Nat.reduceLeDiff, Nat.zero_le, not_true_eq_false, not_false_eq_true, cat2_n, cat2_i, cat2_r, ws_0, ws_i, ws_r, ws_l, ws_d, aftr_n, aftr_s, bI_ok, bI_t, bI_f, up_s, up_n, n_bit, decide_true, decide_false, Bool.not_true, Bool.not_false, Bool.and_true, Bool.true_and, Bool.false_and, Bool.and_false, va_rf_s, n_nlt0, k_0, k_67, k_68, k_465, k_466, k_467, k_468, k_469, k_470, k_471, k_472, k_565, r_0_0, r_0_1, r_0_2, r_0_3, r_0_4, r_0_5, r_67_0, r_465_0, r_467_0, r_467_2, r_470_0, r_470_1, va_rf_s, n_neg_t, n_neg_f, k_0, k_67, k_68, k_465, k_466, k_467, k_468, k_469, k_470, k_471, k_472, k_565, r_0_0, r_0_1, r_0_2, r_0_3, r_0_4, r_0_5, r_67_0, r_465_0, r_467_0, r_467_2, r_470_0, r_470_1, va_rf_s, kS0 hs, kS1 hs, kS2 hs, kS3 hs, kS4 hs, kS5 hs, kSp hs, kSn hs, kSw hs, kSl hs, rS0_0 hs, rS0_2 hs, rS0_4 hs, rS0_5 hs, rS3_0 hs, rS1 hs, rS2 hs, rSp hs, rSw hs, m6, l101a hg hm hpp hq 9 0, v101_47, v101_48, v101_49, v101_52, v101_55, v101_57, v101_58, v101_61, v101_62, v101_65, v101_68, v101_70, v101_71, u101_74, v101_77, v101_78, v101_79, v101_80, u101_82, v101_85, u101_86, v101_89, v101_90, v101_93, m1, c, c92 hg hm hpp hq.1, c99]
    rw [ih (p + 1) _ _ (by omega)]
    rw [flatF_s, mxN_a, show perL A p = segF (perV A p) 0 9 ++ (nameL A p ++ [rdyV A p]) from rfl, mxN_a, mxN_a, mxN_c, mxN_nil]
theorem c101 {h0 : Int64} (hg : Good A) (hm : Sm A) (hq : QZ b I A) : X z 101 0 [some (.ref (ad b 0)), some (.long h0), none, none, none, none, none] [] (0, 0) (KAt KL b, I, RAt RL b q, L, sz, ex) Q = Q (.inl (some (.long (mxN h0 (flatF (perL A) 0 (A 6)))))) (KAt KL b, I, RAt RL b q, L, sz, ex) := by
  simp (disch := omega) only [v101_0, v101_1, v101_2, v101_3, n_cl, n_in_t, n_lt_t, n_lt_f, n_eq_t, n_eq_f, n_sub, nI_add, n_mul, n_01, ↓reduceIte, if_true, if_false, eq_self, true_or, or_true, and_self, and_true, true_and, Nat.reduceAdd, Nat.reduceMul, Nat.reduceLeDiff, Nat.zero_le, not_true_eq_false, not_false_eq_true, cat2_n, cat2_i, cat2_r, ws_0, ws_i, ws_r, ws_l, ws_d, aftr_n, aftr_s, bI_ok, bI_t, bI_f, up_s, up_n, n_bit, decide_true, decide_false, Bool.not_true, Bool.not_false, Bool.and_true, Bool.true_and, Bool.false_and, Bool.and_false, va_rf_s, n_nlt0, k_0, k_67, k_68, k_465, k_466, k_467, k_468, k_469, k_470, k_471, k_472, k_565, r_0_0, r_0_1, r_0_2, r_0_3, r_0_4, r_0_5, r_67_0, r_465_0, r_467_0, r_467_2, r_470_0, r_470_1, va_rf_s, n_neg_t, n_neg_f]
  exact l101 hg hm hq (A 6) 0 h0 _ (by omega)
def wcl (A : Row) (w k : Nat) : Nat := worV A w (if k < 4 then k else 6 + k)
theorem l102a {w : Nat} {h0 : Int64} (hg : Good A) (hm : Sm A) (hw : w < A 7) (hz : SZ KL RL b I z) (hS : SR b I sN A) : ∀ d k g, k + d = 4 → X z 102 20 [some (.ref (ad b 0)), some (.long h0), none, some (.long g), none, some (.int (nI w)), some (.int (nI k))] [] (0, 0) (KAt KL b, I, RAt RL b q, L, sz, ex) Q = X z 102 46 [some (.ref (ad b 0)), some (.long h0), none, some (.long (mxN g (segF (wcl A w) k d))), none, some (.int (nI w)), some (.int (nI 4))] [] (0, 0) (KAt KL b, I, RAt RL b q, L, sz, ex) Q := by
  intro d
  induction d with
  | zero =>
    intro k g hk
    have e : k = 4 := by omega
    subst e
    rw [v102_20]
    simp (disch := omega) only [v102_22, v102_23, v102_26, v102_27, v102_28, v102_30, u102_32, v102_35, u102_36, v102_39, v102_40, v102_43, n_cl, n_in_t, n_lt_t, n_lt_f, n_eq_t, n_eq_f, n_sub, nI_add, n_mul, n_01, ↓reduceIte, if_true, if_false, eq_self, true_or, or_true, and_self, and_true, true_and, Nat.reduceAdd, Nat.reduceMul, Nat.reduceLeDiff, Nat.zero_le, not_true_eq_false, not_false_eq_true, cat2_n, cat2_i, cat2_r, ws_0, ws_i, ws_r, ws_l, ws_d, aftr_n, aftr_s, bI_ok, bI_t, bI_f, up_s, up_n, n_bit, decide_true, decide_false, Bool.not_true, Bool.not_false, Bool.and_true, Bool.true_and, Bool.false_and, Bool.and_false, va_rf_s, n_nlt0, k_0, k_67, k_68, k_465, k_466, k_467, k_468, k_469, k_470, k_471, k_472, k_565, r_0_0, r_0_1, r_0_2, r_0_3, r_0_4, r_0_5, r_67_0, r_465_0, r_467_0, r_467_2, r_470_0, r_470_1, va_rf_s, n_neg_t, n_neg_f]
    rfl
  | succ d ih =>
    intro k g hk
    rw [v102_20]
    simp (disch := omega) only [v102_22, v102_23, v102_26, v102_27, v102_28, v102_30, u102_32, v102_35, u102_36, v102_39, v102_40, v102_43, n_cl, n_in_t, n_lt_t, n_lt_f, n_eq_t, n_eq_f, n_sub, nI_add, n_mul, n_01, ↓reduceIte, if_true, if_false, eq_self, true_or, or_true, and_self, and_true, true_and, Nat.reduceAdd, Nat.reduceMul, Nat.reduceLeDiff, Nat.zero_le, not_true_eq_false, not_false_eq_true, cat2_n, cat2_i, cat2_r, ws_0, ws_i, ws_r, ws_l, ws_d, aftr_n, aftr_s, bI_ok, bI_t, bI_f, up_s, up_n, n_bit, decide_true, decide_false, Bool.not_true, Bool.not_false, Bool.and_true, Bool.true_and, Bool.false_and, Bool.and_false, va_rf_s, n_nlt0, k_0, k_67, k_68, k_465, k_466, k_467, k_468, k_469, k_470, k_471, k_472, k_565, r_0_0, r_0_1, r_0_2, r_0_3, r_0_4, r_0_5, r_67_0, r_465_0, r_467_0, r_467_2, r_470_0, r_470_1, va_rf_s, n_neg_t, n_neg_f, c94 (show k ≤ 3 by omega) hg hm hw hz hS, c99, ih (k + 1)]
    rw [segF_s, mxN_c, show wcl A w k = worV A w k by unfold wcl; rw [if_pos (by omega)]]
theorem l102b {w : Nat} {h0 : Int64} (hg : Good A) (hw : w < A 7) (hS : SR b I sN A) : ∀ d k g, k + d = 8 → X z 102 49 [some (.ref (ad b 0)), some (.long h0), none, some (.long g), none, some (.int (nI w)), some (.int (nI k))] [] (0, 0) (KAt KL b, I, RAt RL b q, L, sz, ex) Q = X z 102 83 [some (.ref (ad b 0)), some (.long h0), none, some (.long (mxN g (segF (wcl A w) (k + 4) d))), none, some (.int (nI w)), some (.int (nI 8))] [] (0, 0) (KAt KL b, I, RAt RL b q, L, sz, ex) Q := by
  have hs := isS_N
  have h7 := hg.1.2.1
  intro d
  induction d with
  | zero =>
    intro k g hk
    have e : k = 8 := by omega
    subst e
    rw [v102_49]
    simp (disch := omega) only [v102_51, v102_53, v102_56, v102_57, v102_58, v102_61, v102_64, v102_66, v102_67, u102_69, v102_72, u102_73, v102_76, v102_77, v102_80, n_cl, n_in_t, n_lt_t, n_lt_f, n_eq_t, n_eq_f, n_sub, nI_add, n_mul, n_01, ↓reduceIte, if_true, if_false, eq_self, true_or, or_true, and_self, and_true, true_and, Nat.reduceAdd, Nat.reduceMul, Nat.reduceLeDiff, Nat.zero_le, not_true_eq_false, not_false_eq_true, cat2_n, cat2_i, cat2_r, ws_0, ws_i, ws_r, ws_l, ws_d, aftr_n, aftr_s, bI_ok, bI_t, bI_f, up_s, up_n, n_bit, decide_true, decide_false, Bool.not_true, Bool.not_false, Bool.and_true, Bool.true_and, Bool.false_and, Bool.and_false, va_rf_s, n_nlt0, k_0, k_67, k_68, k_465, k_466, k_467, k_468, k_469, k_470, k_471, k_472, k_565, r_0_0, r_0_1, r_0_2, r_0_3, r_0_4, r_0_5, r_67_0, r_465_0, r_467_0, r_467_2, r_470_0, r_470_1, va_rf_s, n_neg_t, n_neg_f]
    rfl
  | succ d ih =>
    intro k g hk
    rw [v102_49]
    simp (disch := omega) only [v102_51, v102_53, v102_56, v102_57, v102_58, v102_61, v102_64, v102_66, v102_67, u102_69, v102_72, u102_73, v102_76, v102_77, v102_80, n_cl, n_in_t, n_lt_t, n_lt_f, n_eq_t, n_eq_f, n_sub, nI_add, n_mul, n_01, ↓reduceIte, if_true, if_false, eq_self, true_or, or_true, and_self, and_true, true_and, Nat.reduceAdd, Nat.reduceMul, Nat.reduceLeDiff, Nat.zero_le, not_true_eq_false, not_false_eq_true, cat2_n, cat2_i, cat2_r, ws_0, ws_i, ws_r, ws_l, ws_d, aftr_n, aftr_s, bI_ok, bI_t, bI_f, up_s, up_n, n_bit, decide_true, decide_false, Bool.not_true, Bool.not_false, Bool.and_true, Bool.true_and, Bool.false_and, Bool.and_false, va_rf_s, n_nlt0, k_0, k_67, k_68, k_465, k_466, k_467, k_468, k_469, k_470, k_471, k_472, k_565, r_0_0, r_0_1, r_0_2, r_0_3, r_0_4, r_0_5, r_67_0, r_465_0, r_467_0, r_467_2, r_470_0, r_470_1, va_rf_s, n_neg_t, n_neg_f, k_0, k_67, k_68, k_465, k_466, k_467, k_468, k_469, k_470, k_471, k_472, k_565, r_0_0, r_0_1, r_0_2, r_0_3, r_0_4, r_0_5, r_67_0, r_465_0, r_467_0, r_467_2, r_470_0, r_470_1, va_rf_s, kS0 hs, kS1 hs, kS2 hs, kS3 hs, kS4 hs, kS5 hs, kSp hs, kSn hs, kSw hs, kSl hs, rS0_0 hs, rS0_2 hs, rS0_4 hs, rS0_5 hs, rS3_0 hs, rS1 hs, rS2 hs, rSp hs, rSw hs, c55 (show k < 4294967296 by omega) hg hw hS, c99, ih (k + 1)]
    rw [segF_s, mxN_c, show wcl A w (k + 4) = (if k < A (313 + w) then A (333 + 8 * w + k) else 4294967295) by
      unfold wcl worV
      rw [if_neg (show ¬ k + 4 < 4 by omega), if_neg (by omega), if_neg (by omega), if_neg (by omega), if_neg (by omega), show 6 + (k + 4) - 10 = k by omega, show 333 + 8 * w + (6 + (k + 4)) - 10 = 333 + 8 * w + k by omega], show k + 4 + 1 = k + 1 + 4 by omega]
theorem segF_app {f : Nat → Nat} : ∀ d i e, segF f i (d + e) = segF f i d ++ segF f (i + d) e
  | 0, i, e => by rw [Nat.zero_add]; rfl
  | d + 1, i, e => by rw [show d + 1 + e = (d + e) + 1 by omega, segF_s, segF_app d (i + 1) e, segF_s, List.cons_append, show i + 1 + d = i + (d + 1) by omega]
theorem l102 {h0 : Int64} (hg : Good A) (hm : Sm A) (hz : SZ KL RL b I z) (hS : SR b I sN A) : ∀ d w g (x6 : Option Value), w + d = A 7 → X z 102 5 [some (.ref (ad b 0)), some (.long h0), none, some (.long g), none, some (.int (nI w)), x6] [] (0, 0) (KAt KL b, I, RAt RL b q, L, sz, ex) Q = Q (.inl (some (.long (mxN g (flatF (worL A) w d))))) (KAt KL b, I, RAt RL b q, L, sz, ex) := by
  have hs := isS_N
  have h7 := hg.1.2.1
  have m7 := hS.1.1.2.1
  intro d
  induction d with
  | zero =>
    intro w g x6 hw
    have e : w = A 7 := by omega
    subst e
    rw [v102_5]
    simp (disch := omega) only [v102_7, v102_8, v102_11, v102_14, v102_17, v102_18, v102_89, v102_90, n_cl, n_in_t, n_lt_t, n_lt_f, n_eq_t, n_eq_f, n_sub, nI_add, n_mul, n_01, ↓reduceIte, if_true, if_false, eq_self, true_or, or_true, and_self, and_true, true_and, Nat.reduceAdd, Nat.reduceMul, Nat.reduceLeDiff, Nat.zero_le, not_true_eq_false, not_false_eq_true, cat2_n, cat2_i, cat2_r, ws_0, ws_i, ws_r, ws_l, ws_d, aftr_n, aftr_s, bI_ok, bI_t, bI_f, up_s, up_n, n_bit, decide_true, decide_false, Bool.not_true, Bool.not_false, Bool.and_true, Bool.true_and, Bool.false_and, Bool.and_false, va_rf_s, n_nlt0, k_0, k_67, k_68, k_465, k_466, k_467, k_468, k_469, k_470, k_471, k_472, k_565, r_0_0, r_0_1, r_0_2, r_0_3, r_0_4, r_0_5, r_67_0, r_465_0, r_467_0, r_467_2, r_470_0, r_470_1, va_rf_s, n_neg_t, n_neg_f, k_0, k_67, k_68, k_465, k_466, k_467, k_468, k_469, k_470, k_471, k_472, k_565, r_0_0, r_0_1, r_0_2, r_0_3, r_0_4, r_0_5, r_67_0, r_465_0, r_467_0, r_467_2, r_470_0, r_470_1, va_rf_s, kS0 hs, kS1 hs, kS2 hs, kS3 hs, kS4 hs, kS5 hs, kSp hs, kSn hs, kSw hs, kSl hs, rS0_0 hs, rS0_2 hs, rS0_4 hs, rS0_5 hs, rS3_0 hs, rS1 hs, rS2 hs, rSp hs, rSw hs, m7]
    rfl
  | succ d ih =>
    intro w g x6 hw
    have hww : w < A 7 := by omega
    rw [v102_5]
    simp (disch := omega) only [v102_7, v102_8, v102_11, v102_14, v102_17, v102_18, n_cl, n_in_t, n_lt_t, n_lt_f, n_eq_t, n_eq_f, n_sub, nI_add, n_mul, n_01, ↓reduceIte, if_true, if_false, eq_self, true_or, or_true, and_self, and_true, true_and, Nat.reduceAdd, Nat.reduceMul, Nat.reduceLeDiff, Nat.zero_le, not_true_eq_false, not_false_eq_true, cat2_n, cat2_i, cat2_r, ws_0, ws_i, ws_r, ws_l, ws_d, aftr_n, aftr_s, bI_ok, bI_t, bI_f, up_s, up_n, n_bit, decide_true, decide_false, Bool.not_true, Bool.not_false, Bool.and_true, Bool.true_and, Bool.false_and, Bool.and_false, va_rf_s, n_nlt0, k_0, k_67, k_68, k_465, k_466, k_467, k_468, k_469, k_470, k_471, k_472, k_565, r_0_0, r_0_1, r_0_2, r_0_3, r_0_4, r_0_5, r_67_0, r_465_0, r_467_0, r_467_2, r_470_0, r_470_1, va_rf_s, n_neg_t, n_neg_f, k_0, k_67, k_68, k_465, k_466, k_467, k_468, k_469, k_470, k_471, k_472, k_565, r_0_0, r_0_1, r_0_2, r_0_3, r_0_4, r_0_5, r_67_0, r_465_0, r_467_0, r_467_2, r_470_0, r_470_1, va_rf_s, kS0 hs, kS1 hs, kS2 hs, kS3 hs, kS4 hs, kS5 hs, kSp hs, kSn hs, kSw hs, kSl hs, rS0_0 hs, rS0_2 hs, rS0_4 hs, rS0_5 hs, rS3_0 hs, rS1 hs, rS2 hs, rSp hs, rSw hs, m7, l102a hg hm hww hz hS 4 0, v102_46, v102_47, l102b hg hww hS 8 0, v102_83, v102_86]
    rw [ih (w + 1) _ _ (by omega)]
    have e : worL A w = segF (wcl A w) 0 4 ++ segF (wcl A w) (0 + 4) 8 := segF_app 4 0 8
    rw [flatF_s, mxN_a, e, mxN_a]
theorem c102 {h0 : Int64} (hg : Good A) (hm : Sm A) (hz : SZ KL RL b I z) (hS : SR b I sN A) : X z 102 0 [some (.ref (ad b 0)), some (.long h0), none, none, none, none, none] [] (0, 0) (KAt KL b, I, RAt RL b q, L, sz, ex) Q = Q (.inl (some (.long (mxN h0 (flatF (worL A) 0 (A 7)))))) (KAt KL b, I, RAt RL b q, L, sz, ex) := by
  simp (disch := omega) only [v102_0, v102_1, v102_2, v102_3, n_cl, n_in_t, n_lt_t, n_lt_f, n_eq_t, n_eq_f, n_sub, nI_add, n_mul, n_01, ↓reduceIte, if_true, if_false, eq_self, true_or, or_true, and_self, and_true, true_and, Nat.reduceAdd, Nat.reduceMul, Nat.reduceLeDiff, Nat.zero_le, not_true_eq_false, not_false_eq_true, cat2_n, cat2_i, cat2_r, ws_0, ws_i, ws_r, ws_l, ws_d, aftr_n, aftr_s, bI_ok, bI_t, bI_f, up_s, up_n, n_bit, decide_true, decide_false, Bool.not_true, Bool.not_false, Bool.and_true, Bool.true_and, Bool.false_and, Bool.and_false, va_rf_s, n_nlt0, k_0, k_67, k_68, k_465, k_466, k_467, k_468, k_469, k_470, k_471, k_472, k_565, r_0_0, r_0_1, r_0_2, r_0_3, r_0_4, r_0_5, r_67_0, r_465_0, r_467_0, r_467_2, r_470_0, r_470_1, va_rf_s, n_neg_t, n_neg_f]
  exact l102 hg hm hz hS (A 7) 0 h0 _ (by omega)
theorem l103a {l : Nat} {h0 : Int64} (hg : Good A) (hl : l < (grps A).1) (hq : QZ b I A) : ∀ d k g, k + d = 8 → X z 103 20 [some (.ref (ad b 0)), some (.long h0), none, some (.long g), none, some (.int (nI l)), some (.int (nI k))] [] (0, 0) (KAt KL b, I, RAt RL b q, L, sz, ex) Q = X z 103 47 [some (.ref (ad b 0)), some (.long h0), none, some (.long (mxN g (segF (letV A l) k d))), none, some (.int (nI l)), some (.int (nI 8))] [] (0, 0) (KAt KL b, I, RAt RL b q, L, sz, ex) Q := by
  intro d
  induction d with
  | zero =>
    intro k g hk
    have e : k = 8 := by omega
    subst e
    rw [v103_20]
    simp (disch := omega) only [v103_22, v103_24, v103_27, v103_28, v103_29, v103_31, u103_33, v103_36, u103_37, v103_40, v103_41, v103_44, n_cl, n_in_t, n_lt_t, n_lt_f, n_eq_t, n_eq_f, n_sub, nI_add, n_mul, n_01, ↓reduceIte, if_true, if_false, eq_self, true_or, or_true, and_self, and_true, true_and, Nat.reduceAdd, Nat.reduceMul, Nat.reduceLeDiff, Nat.zero_le, not_true_eq_false, not_false_eq_true, cat2_n, cat2_i, cat2_r, ws_0, ws_i, ws_r, ws_l, ws_d, aftr_n, aftr_s, bI_ok, bI_t, bI_f, up_s, up_n, n_bit, decide_true, decide_false, Bool.not_true, Bool.not_false, Bool.and_true, Bool.true_and, Bool.false_and, Bool.and_false, va_rf_s, n_nlt0, k_0, k_67, k_68, k_465, k_466, k_467, k_468, k_469, k_470, k_471, k_472, k_565, r_0_0, r_0_1, r_0_2, r_0_3, r_0_4, r_0_5, r_67_0, r_465_0, r_467_0, r_467_2, r_470_0, r_470_1, va_rf_s, n_neg_t, n_neg_f]
    rfl
  | succ d ih =>
    intro k g hk
    rw [v103_20]
    simp (disch := omega) only [v103_22, v103_24, v103_27, v103_28, v103_29, v103_31, u103_33, v103_36, u103_37, v103_40, v103_41, v103_44, n_cl, n_in_t, n_lt_t, n_lt_f, n_eq_t, n_eq_f, n_sub, nI_add, n_mul, n_01, ↓reduceIte, if_true, if_false, eq_self, true_or, or_true, and_self, and_true, true_and, Nat.reduceAdd, Nat.reduceMul, Nat.reduceLeDiff, Nat.zero_le, not_true_eq_false, not_false_eq_true, cat2_n, cat2_i, cat2_r, ws_0, ws_i, ws_r, ws_l, ws_d, aftr_n, aftr_s, bI_ok, bI_t, bI_f, up_s, up_n, n_bit, decide_true, decide_false, Bool.not_true, Bool.not_false, Bool.and_true, Bool.true_and, Bool.false_and, Bool.and_false, va_rf_s, n_nlt0, k_0, k_67, k_68, k_465, k_466, k_467, k_468, k_469, k_470, k_471, k_472, k_565, r_0_0, r_0_1, r_0_2, r_0_3, r_0_4, r_0_5, r_67_0, r_465_0, r_467_0, r_467_2, r_470_0, r_470_1, va_rf_s, n_neg_t, n_neg_f, c95 hg (show k ≤ 7 by omega) hl hq, c99, ih (k + 1)]
    rw [segF_s, mxN_c]
def pDg (o j : Nat) : Prop := pCz o j
theorem l103 {h0 : Int64} (hgw : GoodW (A, n, H, B)) : ∀ d l g I (x6 : Option Value), l + d = (grps A).1 → SZ KL RL b I z → CSt b I q (A, n, H, B) → MZ b I pP A → (∀ I', CSt b I' q (A, n, H, B) → Ag pCz b I I' → Q (.inl (some (.long (mxN g (flatF (letL A) l d))))) (KAt KL b, I', RAt RL b q, L, sz, ex)) → X z 103 5 [some (.ref (ad b 0)), some (.long h0), none, some (.long g), none, some (.int (nI l)), x6] [] (0, 0) (KAt KL b, I, RAt RL b q, L, sz, ex) Q := by
  have hg : Good A := hgw.1
  have hs := isS_N
  have hp := isM_P
  have pn : pP = 473 := rfl
  have h6 := hg.1.1
  have gl := grps_le hg
  intro d
  induction d with
  | zero =>
    intro l g I x6 hl hz hw hM hQ
    have e : l = (grps A).1 := by omega
    subst e
    have g1 := hM.1.1
    rw [v103_5]
    simp (disch := omega) only [v103_7, v103_8, v103_11, v103_14, v103_17, v103_18, v103_121, v103_122, n_cl, n_in_t, n_lt_t, n_lt_f, n_eq_t, n_eq_f, n_sub, nI_add, n_mul, n_01, ↓reduceIte, if_true, if_false, eq_self, true_or, or_true, and_self, and_true, true_and, Nat.reduceAdd, Nat.reduceMul, Nat.reduceLeDiff, Nat.zero_le, not_true_eq_false, not_false_eq_true, cat2_n, cat2_i, cat2_r, ws_0, ws_i, ws_r, ws_l, ws_d, aftr_n, aftr_s, bI_ok, bI_t, bI_f, up_s, up_n, n_bit, decide_true, decide_false, Bool.not_true, Bool.not_false, Bool.and_true, Bool.true_and, Bool.false_and, Bool.and_false, va_rf_s, n_nlt0, k_0, k_67, k_68, k_465, k_466, k_467, k_468, k_469, k_470, k_471, k_472, k_565, r_0_0, r_0_1, r_0_2, r_0_3, r_0_4, r_0_5, r_67_0, r_465_0, r_467_0, r_467_2, r_470_0, r_470_1, va_rf_s, n_neg_t, n_neg_f, k_0, k_67, k_68, k_465, k_466, k_467, k_468, k_469, k_470, k_471, k_472, k_565, r_0_0, r_0_1, r_0_2, r_0_3, r_0_4, r_0_5, r_67_0, r_465_0, r_467_0, r_467_2, r_470_0, r_470_1, va_rf_s, kM0 hp, kM1 hp, kM2 hp, kM3 hp, kM4 hp, kM5 hp, kMd hp, kMa hp, rM0_0 hp, rM0_2 hp, rM0_3 hp, rM0_4 hp, rM0_5 hp, rM0_6 hp, rM0_7 hp, rM1 hp, rMd hp, g1]
    exact hQ I hw Ag.rf
  | succ d ih =>
    intro l g I x6 hl hz hw hM hQ
    have hll : l < (grps A).1 := by omega
    have g1 := hM.1.1
    have ok := grps_ok hg hll
    have tl := textT_len hg ok
    rw [v103_5]
    simp (disch := omega) only [v103_7, v103_8, v103_11, v103_14, v103_17, v103_18, n_cl, n_in_t, n_lt_t, n_lt_f, n_eq_t, n_eq_f, n_sub, nI_add, n_mul, n_01, ↓reduceIte, if_true, if_false, eq_self, true_or, or_true, and_self, and_true, true_and, Nat.reduceAdd, Nat.reduceMul, Nat.reduceLeDiff, Nat.zero_le, not_true_eq_false, not_false_eq_true, cat2_n, cat2_i, cat2_r, ws_0, ws_i, ws_r, ws_l, ws_d, aftr_n, aftr_s, bI_ok, bI_t, bI_f, up_s, up_n, n_bit, decide_true, decide_false, Bool.not_true, Bool.not_false, Bool.and_true, Bool.true_and, Bool.false_and, Bool.and_false, va_rf_s, n_nlt0, k_0, k_67, k_68, k_465, k_466, k_467, k_468, k_469, k_470, k_471, k_472, k_565, r_0_0, r_0_1, r_0_2, r_0_3, r_0_4, r_0_5, r_67_0, r_465_0, r_467_0, r_467_2, r_470_0, r_470_1, va_rf_s, n_neg_t, n_neg_f, k_0, k_67, k_68, k_465, k_466, k_467, k_468, k_469, k_470, k_471, k_472, k_565, r_0_0, r_0_1, r_0_2, r_0_3, r_0_4, r_0_5, r_67_0, r_465_0, r_467_0, r_467_2, r_470_0, r_470_1, va_rf_s, kM0 hp, kM1 hp, kM2 hp, kM3 hp, kM4 hp, kM5 hp, kMd hp, kMa hp, rM0_0 hp, rM0_2 hp, rM0_3 hp, rM0_4 hp, rM0_5 hp, rM0_6 hp, rM0_7 hp, rM1 hp, rMd hp, kS0 hs, kS1 hs, kS2 hs, kS3 hs, kS4 hs, kS5 hs, kSp hs, kSn hs, kSw hs, kSl hs, rS0_0 hs, rS0_2 hs, rS0_4 hs, rS0_5 hs, rS3_0 hs, rS1 hs, rS2 hs, rSp hs, rSw hs, g1, l103a hg hll ⟨hw.1, hM⟩ 8 0, v103_47, v103_48, v103_49, v103_52, v103_55, v103_57, u103_58, v103_61, u103_62, v103_65, v103_66, v103_67, v103_70, v103_73, v103_74, v103_77, v103_78, v103_81, v103_84, v103_86, u103_87, c22 hg hll hM, c99]
    refine c10 hs hp (by omega) hg ok hz ⟨hw.1.1, (hM.1.2 l hll).1⟩ (fun I1 t1 g1' => ?_)
    have w1 : CSt b I1 q (A, n, H, B) := hw.scr hgw g1' (fun o j x => by unfold pCz at x; omega)
    have M1 : MZ b I1 pP A := hM.ag hg g1' (fun o j x => by unfold pCz at x; omega)
    have c := fun {h : Int64} {Q : Res → Mem → Prop} => c100 (z := z) (KL := KL) (RL := RL) (q := q) (L := L) (sz := sz) (ex := ex) (h := h) (Q := Q) (I := I1) (t := textT A ((grps A).2 l)) (k_468 (KL := KL) (b := b)) (by omega) (by omega) t1.2
    have t11 := t1.1
    simp (disch := omega) only [v103_90, v103_91, v103_92, v103_95, v103_98, v103_101, v103_102, v103_105, v103_108, u103_111, v103_114, v103_115, v103_118, n_cl, n_in_t, n_lt_t, n_lt_f, n_eq_t, n_eq_f, n_sub, nI_add, n_mul, n_01, ↓reduceIte, if_true, if_false, eq_self, true_or, or_true, and_self, and_true, true_and, Nat.reduceAdd, Nat.reduceMul, Nat.reduceLeDiff, Nat.zero_le, not_true_eq_false, not_false_eq_true, cat2_n, cat2_i, cat2_r, ws_0, ws_i, ws_r, ws_l, ws_d, aftr_n, aftr_s, bI_ok, bI_t, bI_f, up_s, up_n, n_bit, decide_true, decide_false, Bool.not_true, Bool.not_false, Bool.and_true, Bool.true_and, Bool.false_and, Bool.and_false, va_rf_s, n_nlt0, k_0, k_67, k_68, k_465, k_466, k_467, k_468, k_469, k_470, k_471, k_472, k_565, r_0_0, r_0_1, r_0_2, r_0_3, r_0_4, r_0_5, r_67_0, r_465_0, r_467_0, r_467_2, r_470_0, r_470_1, va_rf_s, n_neg_t, n_neg_f, k_0, k_67, k_68, k_465, k_466, k_467, k_468, k_469, k_470, k_471, k_472, k_565, r_0_0, r_0_1, r_0_2, r_0_3, r_0_4, r_0_5, r_67_0, r_465_0, r_467_0, r_467_2, r_470_0, r_470_1, va_rf_s, kM0 hp, kM1 hp, kM2 hp, kM3 hp, kM4 hp, kM5 hp, kMd hp, kMa hp, rM0_0 hp, rM0_2 hp, rM0_3 hp, rM0_4 hp, rM0_5 hp, rM0_6 hp, rM0_7 hp, rM1 hp, rMd hp, kS0 hs, kS1 hs, kS2 hs, kS3 hs, kS4 hs, kS5 hs, kSp hs, kSn hs, kSw hs, kSl hs, rS0_0 hs, rS0_2 hs, rS0_4 hs, rS0_5 hs, rS3_0 hs, rS1 hs, rS2 hs, rSp hs, rSw hs, t11, c]
    refine ih (l + 1) _ I1 _ (by omega) (hz.ag g1') w1 M1 (fun I2 w2 g2 => ?_)
    have := hQ I2 w2 (g1'.tr g2)
    rw [flatF_s, mxN_a, show letL A l = segF (letV A l) 0 8 ++ (maskL ((grps A).2 l) :: textT A ((grps A).2 l)) from rfl, mxN_a, mxN_c] at this
    exact this
theorem c103 {h0 : Int64} (hgw : GoodW (A, n, H, B)) (hz : SZ KL RL b I z) (hw : CSt b I q (A, n, H, B)) (hM : MZ b I pP A) (hQ : ∀ I', CSt b I' q (A, n, H, B) → Ag pCz b I I' → Q (.inl (some (.long (mxN h0 (flatF (letL A) 0 (grps A).1))))) (KAt KL b, I', RAt RL b q, L, sz, ex)) : X z 103 0 [some (.ref (ad b 0)), some (.long h0), none, none, none, none, none] [] (0, 0) (KAt KL b, I, RAt RL b q, L, sz, ex) Q := by
  simp (disch := omega) only [v103_0, v103_1, v103_2, v103_3, n_cl, n_in_t, n_lt_t, n_lt_f, n_eq_t, n_eq_f, n_sub, nI_add, n_mul, n_01, ↓reduceIte, if_true, if_false, eq_self, true_or, or_true, and_self, and_true, true_and, Nat.reduceAdd, Nat.reduceMul, Nat.reduceLeDiff, Nat.zero_le, not_true_eq_false, not_false_eq_true, cat2_n, cat2_i, cat2_r, ws_0, ws_i, ws_r, ws_l, ws_d, aftr_n, aftr_s, bI_ok, bI_t, bI_f, up_s, up_n, n_bit, decide_true, decide_false, Bool.not_true, Bool.not_false, Bool.and_true, Bool.true_and, Bool.false_and, Bool.and_false, va_rf_s, n_nlt0, k_0, k_67, k_68, k_465, k_466, k_467, k_468, k_469, k_470, k_471, k_472, k_565, r_0_0, r_0_1, r_0_2, r_0_3, r_0_4, r_0_5, r_67_0, r_465_0, r_467_0, r_467_2, r_470_0, r_470_1, va_rf_s, n_neg_t, n_neg_f]
  exact l103 hgw (grps A).1 0 h0 I _ (by omega) hz hw hM hQ
theorem l84a (hg : GoodW (A, n, H, B)) (hw : CSt b I q (A, n, H, B)) (hM : MZ b I pP A) : ∀ d k g, k + d = 15 → X z 84 24 [some (.ref (ad b 0)), some (.long g), none, some (.int (nI k))] [] (0, 0) (KAt KL b, I, RAt RL b q, L, sz, ex) Q = X z 84 47 [some (.ref (ad b 0)), some (.long (mxN g (segF (cntV A n) k d))), none, some (.int (nI 15))] [] (0, 0) (KAt KL b, I, RAt RL b q, L, sz, ex) Q := by
  intro d
  induction d with
  | zero =>
    intro k g hk
    have e : k = 15 := by omega
    subst e
    rw [v84_24]
    simp (disch := omega) only [v84_25, v84_27, v84_30, v84_31, v84_32, u84_33, v84_36, u84_37, v84_40, v84_41, v84_44, n_cl, n_in_t, n_lt_t, n_lt_f, n_eq_t, n_eq_f, n_sub, nI_add, n_mul, n_01, ↓reduceIte, if_true, if_false, eq_self, true_or, or_true, and_self, and_true, true_and, Nat.reduceAdd, Nat.reduceMul, Nat.reduceLeDiff, Nat.zero_le, not_true_eq_false, not_false_eq_true, cat2_n, cat2_i, cat2_r, ws_0, ws_i, ws_r, ws_l, ws_d, aftr_n, aftr_s, bI_ok, bI_t, bI_f, up_s, up_n, n_bit, decide_true, decide_false, Bool.not_true, Bool.not_false, Bool.and_true, Bool.true_and, Bool.false_and, Bool.and_false, va_rf_s, n_nlt0, k_0, k_67, k_68, k_465, k_466, k_467, k_468, k_469, k_470, k_471, k_472, k_565, r_0_0, r_0_1, r_0_2, r_0_3, r_0_4, r_0_5, r_67_0, r_465_0, r_467_0, r_467_2, r_470_0, r_470_1, va_rf_s, n_neg_t, n_neg_f]
    rfl
  | succ d ih =>
    intro k g hk
    rw [v84_24]
    simp (disch := omega) only [v84_25, v84_27, v84_30, v84_31, v84_32, u84_33, v84_36, u84_37, v84_40, v84_41, v84_44, n_cl, n_in_t, n_lt_t, n_lt_f, n_eq_t, n_eq_f, n_sub, nI_add, n_mul, n_01, ↓reduceIte, if_true, if_false, eq_self, true_or, or_true, and_self, and_true, true_and, Nat.reduceAdd, Nat.reduceMul, Nat.reduceLeDiff, Nat.zero_le, not_true_eq_false, not_false_eq_true, cat2_n, cat2_i, cat2_r, ws_0, ws_i, ws_r, ws_l, ws_d, aftr_n, aftr_s, bI_ok, bI_t, bI_f, up_s, up_n, n_bit, decide_true, decide_false, Bool.not_true, Bool.not_false, Bool.and_true, Bool.true_and, Bool.false_and, Bool.and_false, va_rf_s, n_nlt0, k_0, k_67, k_68, k_465, k_466, k_467, k_468, k_469, k_470, k_471, k_472, k_565, r_0_0, r_0_1, r_0_2, r_0_3, r_0_4, r_0_5, r_67_0, r_465_0, r_467_0, r_467_2, r_470_0, r_470_1, va_rf_s, n_neg_t, n_neg_f, c96 (show k ≤ 14 by omega) hg hw hM, c99, ih (k + 1)]
    rw [segF_s, mxN_c]
theorem l84b (hS : SR b I sN A) : ∀ d k g, k + d = 6 → X z 84 49 [some (.ref (ad b 0)), some (.long g), none, some (.int (nI k))] [] (0, 0) (KAt KL b, I, RAt RL b q, L, sz, ex) Q = X z 84 76 [some (.ref (ad b 0)), some (.long (mxN g (segF A k d))), none, some (.int (nI 6))] [] (0, 0) (KAt KL b, I, RAt RL b q, L, sz, ex) Q := by
  have hs := isS_N
  intro d
  induction d with
  | zero =>
    intro k g hk
    have e : k = 6 := by omega
    subst e
    rw [v84_49]
    simp (disch := omega) only [v84_50, v84_52, v84_55, v84_56, v84_57, v84_60, v84_63, v84_64, v84_65, u84_66, v84_69, v84_70, v84_73, n_cl, n_in_t, n_lt_t, n_lt_f, n_eq_t, n_eq_f, n_sub, nI_add, n_mul, n_01, ↓reduceIte, if_true, if_false, eq_self, true_or, or_true, and_self, and_true, true_and, Nat.reduceAdd, Nat.reduceMul, Nat.reduceLeDiff, Nat.zero_le, not_true_eq_false, not_false_eq_true, cat2_n, cat2_i, cat2_r, ws_0, ws_i, ws_r, ws_l, ws_d, aftr_n, aftr_s, bI_ok, bI_t, bI_f, up_s, up_n, n_bit, decide_true, decide_false, Bool.not_true, Bool.not_false, Bool.and_true, Bool.true_and, Bool.false_and, Bool.and_false, va_rf_s, n_nlt0, k_0, k_67, k_68, k_465, k_466, k_467, k_468, k_469, k_470, k_471, k_472, k_565, r_0_0, r_0_1, r_0_2, r_0_3, r_0_4, r_0_5, r_67_0, r_465_0, r_467_0, r_467_2, r_470_0, r_470_1, va_rf_s, n_neg_t, n_neg_f]
    rfl
  | succ d ih =>
    intro k g hk
    have mk := hS.2 k (by omega)
    rw [v84_49]
    simp (disch := omega) only [v84_50, v84_52, v84_55, v84_56, v84_57, v84_60, v84_63, v84_64, v84_65, u84_66, v84_69, v84_70, v84_73, n_cl, n_in_t, n_lt_t, n_lt_f, n_eq_t, n_eq_f, n_sub, nI_add, n_mul, n_01, ↓reduceIte, if_true, if_false, eq_self, true_or, or_true, and_self, and_true, true_and, Nat.reduceAdd, Nat.reduceMul, Nat.reduceLeDiff, Nat.zero_le, not_true_eq_false, not_false_eq_true, cat2_n, cat2_i, cat2_r, ws_0, ws_i, ws_r, ws_l, ws_d, aftr_n, aftr_s, bI_ok, bI_t, bI_f, up_s, up_n, n_bit, decide_true, decide_false, Bool.not_true, Bool.not_false, Bool.and_true, Bool.true_and, Bool.false_and, Bool.and_false, va_rf_s, n_nlt0, k_0, k_67, k_68, k_465, k_466, k_467, k_468, k_469, k_470, k_471, k_472, k_565, r_0_0, r_0_1, r_0_2, r_0_3, r_0_4, r_0_5, r_67_0, r_465_0, r_467_0, r_467_2, r_470_0, r_470_1, va_rf_s, n_neg_t, n_neg_f, k_0, k_67, k_68, k_465, k_466, k_467, k_468, k_469, k_470, k_471, k_472, k_565, r_0_0, r_0_1, r_0_2, r_0_3, r_0_4, r_0_5, r_67_0, r_465_0, r_467_0, r_467_2, r_470_0, r_470_1, va_rf_s, kS0 hs, kS1 hs, kS2 hs, kS3 hs, kS4 hs, kS5 hs, kSp hs, kSn hs, kSw hs, kSl hs, rS0_0 hs, rS0_2 hs, rS0_4 hs, rS0_5 hs, rS3_0 hs, rS1 hs, rS2 hs, rSp hs, rSw hs, mk, c99, ih (k + 1)]
    rw [segF_s, mxN_c]
theorem c81n (hw : CSt b I q (A, n, H, B)) (hg : GoodW (A, n, H, B)) (hm : Sm A) (hz : SZ KL RL b I z) (hQ : ∀ I', CSt b I' q (A, n, H, B) → Ag (pMl pT) b I I' → Q (.inl (some (.int (nI (widV A))))) (KAt KL b, I', RAt RL b q, L, sz, ex)) : X z 81 0 [some (.ref (ad b 0))] [] (0, 0) (KAt KL b, I, RAt RL b q, L, sz, ex) Q := by
  have hs := isS_N
  have hp := isM_T
  have pn : pT = 519 := rfl
  simp (disch := omega) only [v81_0, v81_1, v81_4, v81_5, u81_8, n_cl, n_in_t, n_lt_t, n_lt_f, n_eq_t, n_eq_f, n_sub, nI_add, n_mul, n_01, ↓reduceIte, if_true, if_false, eq_self, true_or, or_true, and_self, and_true, true_and, Nat.reduceAdd, Nat.reduceMul, Nat.reduceLeDiff, Nat.zero_le, not_true_eq_false, not_false_eq_true, cat2_n, cat2_i, cat2_r, ws_0, ws_i, ws_r, ws_l, ws_d, aftr_n, aftr_s, bI_ok, bI_t, bI_f, up_s, up_n, n_bit, decide_true, decide_false, Bool.not_true, Bool.not_false, Bool.and_true, Bool.true_and, Bool.false_and, Bool.and_false, va_rf_s, n_nlt0, k_0, k_67, k_68, k_465, k_466, k_467, k_468, k_469, k_470, k_471, k_472, k_565, r_0_0, r_0_1, r_0_2, r_0_3, r_0_4, r_0_5, r_67_0, r_465_0, r_467_0, r_467_2, r_470_0, r_470_1, va_rf_s, n_neg_t, n_neg_f, k_0, k_67, k_68, k_465, k_466, k_467, k_468, k_469, k_470, k_471, k_472, k_565, r_0_0, r_0_1, r_0_2, r_0_3, r_0_4, r_0_5, r_67_0, r_465_0, r_467_0, r_467_2, r_470_0, r_470_1, va_rf_s, kS0 hs, kS1 hs, kS2 hs, kS3 hs, kS4 hs, kS5 hs, kSp hs, kSn hs, kSw hs, kSl hs, rS0_0 hs, rS0_2 hs, rS0_4 hs, rS0_5 hs, rS3_0 hs, rS1 hs, rS2 hs, rSp hs, rSw hs, kM0 hp, kM1 hp, kM2 hp, kM3 hp, kM4 hp, kM5 hp, kMd hp, kMa hp, rM0_0 hp, rM0_2 hp, rM0_3 hp, rM0_4 hp, rM0_5 hp, rM0_6 hp, rM0_7 hp, rM1 hp, rMd hp]
  refine c39 hs hp hg.1 hm hz hw.1 (fun I1 g1 => ?_)
  simp (disch := omega) only [v81_11, n_cl, n_in_t, n_lt_t, n_lt_f, n_eq_t, n_eq_f, n_sub, nI_add, n_mul, n_01, ↓reduceIte, if_true, if_false, eq_self, true_or, or_true, and_self, and_true, true_and, Nat.reduceAdd, Nat.reduceMul, Nat.reduceLeDiff, Nat.zero_le, not_true_eq_false, not_false_eq_true, cat2_n, cat2_i, cat2_r, ws_0, ws_i, ws_r, ws_l, ws_d, aftr_n, aftr_s, bI_ok, bI_t, bI_f, up_s, up_n, n_bit, decide_true, decide_false, Bool.not_true, Bool.not_false, Bool.and_true, Bool.true_and, Bool.false_and, Bool.and_false, va_rf_s, n_nlt0, k_0, k_67, k_68, k_465, k_466, k_467, k_468, k_469, k_470, k_471, k_472, k_565, r_0_0, r_0_1, r_0_2, r_0_3, r_0_4, r_0_5, r_67_0, r_465_0, r_467_0, r_467_2, r_470_0, r_470_1, va_rf_s, n_neg_t, n_neg_f]
  exact hQ I1 (hw.scr hg g1 (fun o j x => by unfold pMl at x; omega)) g1
set_option maxHeartbeats 4000000 in
theorem c84 (hw : CSt b I q (A, n, H, B)) (hg : GoodW (A, n, H, B)) (hm : Sm A) (hz : SZ KL RL b I z) (hQ : ∀ I', CSt b I' q (A, n, H, B) → Ag pCls b I I' → Q (.inl (some (.long (digV (A, n, H, B))))) (KAt KL b, I', RAt RL b q, L, sz, ex)) : X z 84 0 [some (.ref (ad b 0)), none, none, none] [] (0, 0) (KAt KL b, I, RAt RL b q, L, sz, ex) Q := by
  have hs := isS_N
  have hp := isM_P
  have pn : pP = 473 := rfl
  have tn : pT = 519 := rfl
  simp (disch := omega) only [v84_0, v84_1, v84_4, v84_5, v84_8, v84_9, v84_12, u84_15, n_cl, n_in_t, n_lt_t, n_lt_f, n_eq_t, n_eq_f, n_sub, nI_add, n_mul, n_01, ↓reduceIte, if_true, if_false, eq_self, true_or, or_true, and_self, and_true, true_and, Nat.reduceAdd, Nat.reduceMul, Nat.reduceLeDiff, Nat.zero_le, not_true_eq_false, not_false_eq_true, cat2_n, cat2_i, cat2_r, ws_0, ws_i, ws_r, ws_l, ws_d, aftr_n, aftr_s, bI_ok, bI_t, bI_f, up_s, up_n, n_bit, decide_true, decide_false, Bool.not_true, Bool.not_false, Bool.and_true, Bool.true_and, Bool.false_and, Bool.and_false, va_rf_s, n_nlt0, k_0, k_67, k_68, k_465, k_466, k_467, k_468, k_469, k_470, k_471, k_472, k_565, r_0_0, r_0_1, r_0_2, r_0_3, r_0_4, r_0_5, r_67_0, r_465_0, r_467_0, r_467_2, r_470_0, r_470_1, va_rf_s, n_neg_t, n_neg_f, k_0, k_67, k_68, k_465, k_466, k_467, k_468, k_469, k_470, k_471, k_472, k_565, r_0_0, r_0_1, r_0_2, r_0_3, r_0_4, r_0_5, r_67_0, r_465_0, r_467_0, r_467_2, r_470_0, r_470_1, va_rf_s, kS0 hs, kS1 hs, kS2 hs, kS3 hs, kS4 hs, kS5 hs, kSp hs, kSn hs, kSw hs, kSl hs, rS0_0 hs, rS0_2 hs, rS0_4 hs, rS0_5 hs, rS3_0 hs, rS1 hs, rS2 hs, rSp hs, rSw hs, kM0 hp, kM1 hp, kM2 hp, kM3 hp, kM4 hp, kM5 hp, kMd hp, kMa hp, rM0_0 hp, rM0_2 hp, rM0_3 hp, rM0_4 hp, rM0_5 hp, rM0_6 hp, rM0_7 hp, rM1 hp, rMd hp]
  refine prep hw hg hm hz (fun I1 m1 w1 g1 => ?_)
  simp (disch := omega) only [v84_18, v84_21, v84_22, v84_23, n_cl, n_in_t, n_lt_t, n_lt_f, n_eq_t, n_eq_f, n_sub, nI_add, n_mul, n_01, ↓reduceIte, if_true, if_false, eq_self, true_or, or_true, and_self, and_true, true_and, Nat.reduceAdd, Nat.reduceMul, Nat.reduceLeDiff, Nat.zero_le, not_true_eq_false, not_false_eq_true, cat2_n, cat2_i, cat2_r, ws_0, ws_i, ws_r, ws_l, ws_d, aftr_n, aftr_s, bI_ok, bI_t, bI_f, up_s, up_n, n_bit, decide_true, decide_false, Bool.not_true, Bool.not_false, Bool.and_true, Bool.true_and, Bool.false_and, Bool.and_false, va_rf_s, n_nlt0, k_0, k_67, k_68, k_465, k_466, k_467, k_468, k_469, k_470, k_471, k_472, k_565, r_0_0, r_0_1, r_0_2, r_0_3, r_0_4, r_0_5, r_67_0, r_465_0, r_467_0, r_467_2, r_470_0, r_470_1, va_rf_s, n_neg_t, n_neg_f, l84a hg w1 m1 15 0, v84_47, v84_48, l84b w1.1 6 0, v84_76, v84_77, u84_78, v84_81, v84_82, v84_83, u84_84, v84_87, v84_88, v84_89, u84_90, c101 hg.1 hm ⟨w1.1, m1⟩, c102 hg.1 hm (hz.ag g1) w1.1]
  refine c103 hg (hz.ag g1) w1 m1 (fun I2 w2 g2 => ?_)
  have m2 : MZ b I2 pP A := m1.ag hg.1 g2 (fun o j x => by unfold pCz at x; omega)
  simp (disch := omega) only [v84_93, v84_94, v84_95, u84_96, n_cl, n_in_t, n_lt_t, n_lt_f, n_eq_t, n_eq_f, n_sub, nI_add, n_mul, n_01, ↓reduceIte, if_true, if_false, eq_self, true_or, or_true, and_self, and_true, true_and, Nat.reduceAdd, Nat.reduceMul, Nat.reduceLeDiff, Nat.zero_le, not_true_eq_false, not_false_eq_true, cat2_n, cat2_i, cat2_r, ws_0, ws_i, ws_r, ws_l, ws_d, aftr_n, aftr_s, bI_ok, bI_t, bI_f, up_s, up_n, n_bit, decide_true, decide_false, Bool.not_true, Bool.not_false, Bool.and_true, Bool.true_and, Bool.false_and, Bool.and_false, va_rf_s, n_nlt0, k_0, k_67, k_68, k_465, k_466, k_467, k_468, k_469, k_470, k_471, k_472, k_565, r_0_0, r_0_1, r_0_2, r_0_3, r_0_4, r_0_5, r_67_0, r_465_0, r_467_0, r_467_2, r_470_0, r_470_1, va_rf_s, n_neg_t, n_neg_f]
  refine c80 w2 hg hm ((hz.ag g1).ag g2) (fun I3 w3 g3 => ?_)
  have m3 : MZ b I3 pP A := m2.ag hg.1 g3 (fun o j x => by unfold pTr pMl at x; omega)
  simp (disch := omega) only [v84_99, u84_100, v84_103, v84_104, v84_105, u84_106, n_cl, n_in_t, n_lt_t, n_lt_f, n_eq_t, n_eq_f, n_sub, nI_add, n_mul, n_01, ↓reduceIte, if_true, if_false, eq_self, true_or, or_true, and_self, and_true, true_and, Nat.reduceAdd, Nat.reduceMul, Nat.reduceLeDiff, Nat.zero_le, not_true_eq_false, not_false_eq_true, cat2_n, cat2_i, cat2_r, ws_0, ws_i, ws_r, ws_l, ws_d, aftr_n, aftr_s, bI_ok, bI_t, bI_f, up_s, up_n, n_bit, decide_true, decide_false, Bool.not_true, Bool.not_false, Bool.and_true, Bool.true_and, Bool.false_and, Bool.and_false, va_rf_s, n_nlt0, k_0, k_67, k_68, k_465, k_466, k_467, k_468, k_469, k_470, k_471, k_472, k_565, r_0_0, r_0_1, r_0_2, r_0_3, r_0_4, r_0_5, r_67_0, r_465_0, r_467_0, r_467_2, r_470_0, r_470_1, va_rf_s, n_neg_t, n_neg_f, c99]
  refine c81n w3 hg hm (((hz.ag g1).ag g2).ag g3) (fun I4 w4 g4 => ?_)
  have m4 : MZ b I4 pP A := m3.ag hg.1 g4 (fun o j x => by unfold pMl at x; omega)
  have hB : BR b I4 B := w4.2.2.2
  have l1 := hB.1
  have l2 := hB.2.1
  have c := fun {h : Int64} {Q : Res → Mem → Prop} => c100 (z := z) (KL := KL) (RL := RL) (q := q) (L := L) (sz := sz) (ex := ex) (h := h) (Q := Q) (I := I4) (t := B) (k_466 (KL := KL) (b := b)) (by omega) (by omega) hB.2.2.1
  simp (disch := omega) only [v84_109, u84_110, v84_113, v84_114, v84_115, u84_116, u84_119, u84_122, v84_125, v84_126, v84_127, v84_128, v84_131, v84_134, u84_135, v84_138, v84_139, v84_140, v84_141, v84_144, v84_147, v84_148, v84_151, u84_154, v84_157, n_cl, n_in_t, n_lt_t, n_lt_f, n_eq_t, n_eq_f, n_sub, nI_add, n_mul, n_01, ↓reduceIte, if_true, if_false, eq_self, true_or, or_true, and_self, and_true, true_and, Nat.reduceAdd, Nat.reduceMul, Nat.reduceLeDiff, Nat.zero_le, not_true_eq_false, not_false_eq_true, cat2_n, cat2_i, cat2_r, ws_0, ws_i, ws_r, ws_l, ws_d, aftr_n, aftr_s, bI_ok, bI_t, bI_f, up_s, up_n, n_bit, decide_true, decide_false, Bool.not_true, Bool.not_false, Bool.and_true, Bool.true_and, Bool.false_and, Bool.and_false, va_rf_s, n_nlt0, k_0, k_67, k_68, k_465, k_466, k_467, k_468, k_469, k_470, k_471, k_472, k_565, r_0_0, r_0_1, r_0_2, r_0_3, r_0_4, r_0_5, r_67_0, r_465_0, r_467_0, r_467_2, r_470_0, r_470_1, va_rf_s, n_neg_t, n_neg_f, k_0, k_67, k_68, k_465, k_466, k_467, k_468, k_469, k_470, k_471, k_472, k_565, r_0_0, r_0_1, r_0_2, r_0_3, r_0_4, r_0_5, r_67_0, r_465_0, r_467_0, r_467_2, r_470_0, r_470_1, va_rf_s, c99, c97 hg.1 w4.1 m4, c98 (bits_shr hg.1), l1, c]
  have := hQ I4 w4 ((((g1.mn pMl_c).tr (g2.mn pCz_c)).tr (g3.mn pTr_c)).tr (g4.mn pMt_c))
  unfold digV at this
  dsimp only at this
  rw [mxN_c, mxN_a, mxN_a, mxN_a, mxN_a, mxN_a, mxN_c, mxN_c, mxN_nil] at this
  exact this
end CV
