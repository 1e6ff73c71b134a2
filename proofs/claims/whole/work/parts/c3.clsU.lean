/-! THE CLASS: the share, its bits, the mixing -/
def nf (d : UInt64) : Bool := decide (d &&& 0x7fffffffffffffff ≤ 0x7ff0000000000000)
theorem nf_n {d : UInt64} (h : nf d = true) : vf_n64 d := by
  unfold nf at h
  rw [decide_eq_true_eq] at h
  exact h
def bitF : Nat → UInt64 → Int64 → Option Int64
  | 0, _, _ => none
  | d + 1, u, e => if Op.cmpValue (FP.dcmp u (UInt64.ofNat 4607182418800017408)) .g < nI 0 then (if nf (FP.dmul u (UInt64.ofNat 4611686018427387904)) = true then bitF d (FP.dmul u (UInt64.ofNat 4611686018427387904)) (e - lN 1) else none)
    else if nf (FP.dmul u (UInt64.ofNat 4841369599423283200)) = true then some ((e <<< ((nI 52).toInt64 &&& 63)) + (FP.d2l (FP.dmul u (UInt64.ofNat 4841369599423283200)) - lN 4503599627370496)) else none
def bitsF (u : UInt64) : Option Int64 := if nI 0 < Op.cmpValue (FP.dcmp u (UInt64.ofNat 0)) .g then bitF 8 u (lN 1023) else some (lN 0)
theorem bits_all : ∀ c, c < 20 → ∀ a, a < c + 2 → bitsF (FP.ddiv (FP.i2d (nI a)) (FP.i2d (nI (c + 1)))) = some (FP.ddiv (FP.i2d (nI a)) (FP.i2d (nI (c + 1)))).toInt64 := by decide +kernel
theorem bits_0 : bitsF (UInt64.ofNat 0) = some (UInt64.ofNat 0).toInt64 := by decide +kernel
theorem bits_shr {A : Row} (hg : Good A) : bitsF (shrV A) = some (shrV A).toInt64 := by
  have h1 := tot1_le hg
  have h6 := hg.1.1
  unfold shrV
  by_cases e : A 6 = 0
  · rw [if_pos e]; exact bits_0
  · rw [if_neg e]
    have := bits_all (A 6 - 1) (by omega) (totS A 1) (by omega)
    rwa [show A 6 - 1 + 1 = A 6 by omega] at this
section CU
variable {z : P0} {KL : Nat → Nat × Nat} {RL : Nat → Nat → Option Nat} {q : Nat → Nat} {b : Nat} {I : Nat → Nat → Int32} {L : Nat → Nat → Int64} {sz : Nat} {ex : Bool} {Q : Res → Mem → Prop} {A : Row}
variable {n : Nat} {H : Nat → Row} {B : List Nat} {h : Int64}
theorem l98 {x0 x7 : Option Value} {r : Int64} {σ : Mem} : ∀ d u e k, k + d ≤ 1000 → bitF d u e = some r → X z 98 18 [x0, none, some (.double u), none, some (.long e), none, some (.int (nI k)), x7] [] (0, 0) σ Q = Q (.inl (some (.long r))) σ := by
  intro d
  induction d with
  | zero => intro u e k _ h; exact nomatch h
  | succ d ih =>
    intro u e k hk h
    unfold bitF at h
    by_cases c : Op.cmpValue (FP.dcmp u (UInt64.ofNat 4607182418800017408)) .g < nI 0
    · rw [if_pos c] at h
      by_cases c2 : nf (FP.dmul u (UInt64.ofNat 4611686018427387904)) = true
      · rw [if_pos c2] at h
        have v2 := nf_n c2
        rw [v98_18]
        simp (disch := omega) only [v98_20, v98_23, v98_26, v98_27, v98_28, v98_29, v98_32, v98_33, v98_36, v98_37, v98_38, v98_40, v98_41, v98_42, v98_44, v98_47, n_cl, n_in_t, n_lt_t, n_lt_f, n_eq_t, n_eq_f, n_sub, nI_add, n_mul, n_01, ↓reduceIte, if_true, if_false, eq_self, true_or, or_true, and_self, and_true, true_and, Nat.reduceAdd, Nat.reduceMul, Nat.reduceLeDiff, Nat.zero_le, not_true_eq_false, not_false_eq_true, cat2_n, cat2_i, cat2_r, ws_0, ws_i, ws_r, ws_l, ws_d, aftr_n, aftr_s, bI_ok, bI_t, bI_f, up_s, up_n, n_bit, decide_true, decide_false, Bool.not_true, Bool.not_false, Bool.and_true, Bool.true_and, Bool.false_and, Bool.and_false, va_rf_s, n_nlt0, k_0, k_67, k_68, k_465, k_466, k_467, k_468, k_469, k_470, k_471, k_472, k_565, r_0_0, r_0_1, r_0_2, r_0_3, r_0_4, r_0_5, r_67_0, r_465_0, r_467_0, r_467_2, r_470_0, r_470_1, va_rf_s, n_neg_t, n_neg_f, c, v2]
        exact ih _ _ (k + 1) (by omega) h
      · rw [if_neg c2] at h; exact nomatch h
    · rw [if_neg c] at h
      by_cases c2 : nf (FP.dmul u (UInt64.ofNat 4841369599423283200)) = true
      · rw [if_pos c2] at h
        have v2 := nf_n c2
        rw [v98_18]
        simp (disch := omega) only [v98_20, v98_23, v98_26, v98_27, v98_28, v98_29, v98_32, v98_33, v98_36, v98_37, v98_38, v98_40, v98_41, v98_42, v98_44, v98_47, v98_50, v98_51, v98_54, v98_55, v98_56, v98_59, v98_60, v98_62, v98_64, v98_66, v98_67, v98_69, v98_70, n_cl, n_in_t, n_lt_t, n_lt_f, n_eq_t, n_eq_f, n_sub, nI_add, n_mul, n_01, ↓reduceIte, if_true, if_false, eq_self, true_or, or_true, and_self, and_true, true_and, Nat.reduceAdd, Nat.reduceMul, Nat.reduceLeDiff, Nat.zero_le, not_true_eq_false, not_false_eq_true, cat2_n, cat2_i, cat2_r, ws_0, ws_i, ws_r, ws_l, ws_d, aftr_n, aftr_s, bI_ok, bI_t, bI_f, up_s, up_n, n_bit, decide_true, decide_false, Bool.not_true, Bool.not_false, Bool.and_true, Bool.true_and, Bool.false_and, Bool.and_false, va_rf_s, n_nlt0, k_0, k_67, k_68, k_465, k_466, k_467, k_468, k_469, k_470, k_471, k_472, k_565, r_0_0, r_0_1, r_0_2, r_0_3, r_0_4, r_0_5, r_67_0, r_465_0, r_467_0, r_467_2, r_470_0, r_470_1, va_rf_s, n_neg_t, n_neg_f, c, v2]
        rw [Option.some.inj h]
      · rw [if_neg c2] at h; exact nomatch h
theorem c98 {u : UInt64} {r : Int64} {σ : Mem} (h : bitsF u = some r) : X z 98 0 [some (.double u), none, none, none, none, none, none, none] [] (0, 0) σ Q = Q (.inl (some (.long r))) σ := by
  unfold bitsF at h
  by_cases c : nI 0 < Op.cmpValue (FP.dcmp u (UInt64.ofNat 0)) .g
  · rw [if_pos c] at h
    simp (disch := omega) only [v98_0, v98_1, v98_2, v98_3, v98_6, v98_7, v98_8, v98_9, v98_10, v98_13, v98_15, v98_16, n_cl, n_in_t, n_lt_t, n_lt_f, n_eq_t, n_eq_f, n_sub, nI_add, n_mul, n_01, ↓reduceIte, if_true, if_false, eq_self, true_or, or_true, and_self, and_true, true_and, Nat.reduceAdd, Nat.reduceMul, Nat.reduceLeDiff, Nat.zero_le, not_true_eq_false, not_false_eq_true, cat2_n, cat2_i, cat2_r, ws_0, ws_i, ws_r, ws_l, ws_d, aftr_n, aftr_s, bI_ok, bI_t, bI_f, up_s, up_n, n_bit, decide_true, decide_false, Bool.not_true, Bool.not_false, Bool.and_true, Bool.true_and, Bool.false_and, Bool.and_false, va_rf_s, n_nlt0, k_0, k_67, k_68, k_465, k_466, k_467, k_468, k_469, k_470, k_471, k_472, k_565, r_0_0, r_0_1, r_0_2, r_0_3, r_0_4, r_0_5, r_67_0, r_465_0, r_467_0, r_467_2, r_470_0, r_470_1, va_rf_s, n_neg_t, n_neg_f, c]
    exact l98 8 u _ 1 (by omega) h
  · rw [if_neg c] at h
    simp (disch := omega) only [v98_0, v98_1, v98_2, v98_3, v98_6, v98_7, v98_8, v98_9, v98_10, v98_13, v98_15, v98_16, n_cl, n_in_t, n_lt_t, n_lt_f, n_eq_t, n_eq_f, n_sub, nI_add, n_mul, n_01, ↓reduceIte, if_true, if_false, eq_self, true_or, or_true, and_self, and_true, true_and, Nat.reduceAdd, Nat.reduceMul, Nat.reduceLeDiff, Nat.zero_le, not_true_eq_false, not_false_eq_true, cat2_n, cat2_i, cat2_r, ws_0, ws_i, ws_r, ws_l, ws_d, aftr_n, aftr_s, bI_ok, bI_t, bI_f, up_s, up_n, n_bit, decide_true, decide_false, Bool.not_true, Bool.not_false, Bool.and_true, Bool.true_and, Bool.false_and, Bool.and_false, va_rf_s, n_nlt0, k_0, k_67, k_68, k_465, k_466, k_467, k_468, k_469, k_470, k_471, k_472, k_565, r_0_0, r_0_1, r_0_2, r_0_3, r_0_4, r_0_5, r_67_0, r_465_0, r_467_0, r_467_2, r_470_0, r_470_1, va_rf_s, n_neg_t, n_neg_f, c]
    rw [Option.some.inj h]
theorem c97 (hg : Good A) (hS : SR b I sN A) (hM : MZ b I pP A) : X z 97 0 [some (.ref (ad b 0))] [] (0, 0) (KAt KL b, I, RAt RL b q, L, sz, ex) Q = Q (.inl (some (.double (shrV A)))) (KAt KL b, I, RAt RL b q, L, sz, ex) := by
  have hs := isS_N
  have hp := isM_P
  have h6 := hg.1.1
  have m6 := hS.1.1.1
  have m9 := hM.2.2.2.2.1
  have ok := (okD_n (shr_ok hg)).1
  unfold shrV at ok ⊢
  by_cases e : A 6 = 0
  · rw [if_pos e] at ok ⊢
    rw [e] at m6
    simp (disch := omega) only [v97_0, v97_1, v97_4, v97_7, v97_10, v97_11, v97_12, v97_13, v97_16, v97_19, v97_20, v97_21, v97_24, v97_27, v97_28, v97_29, n_cl, n_in_t, n_lt_t, n_lt_f, n_eq_t, n_eq_f, n_sub, nI_add, n_mul, n_01, ↓reduceIte, if_true, if_false, eq_self, true_or, or_true, and_self, and_true, true_and, Nat.reduceAdd, Nat.reduceMul, Nat.reduceLeDiff, Nat.zero_le, not_true_eq_false, not_false_eq_true, cat2_n, cat2_i, cat2_r, ws_0, ws_i, ws_r, ws_l, ws_d, aftr_n, aftr_s, bI_ok, bI_t, bI_f, up_s, up_n, n_bit, decide_true, decide_false, Bool.not_true, Bool.not_false, Bool.and_true, Bool.true_and, Bool.false_and, Bool.and_false, va_rf_s, n_nlt0, k_0, k_67, k_68, k_465, k_466, k_467, k_468, k_469, k_470, k_471, k_472, k_565, r_0_0, r_0_1, r_0_2, r_0_3, r_0_4, r_0_5, r_67_0, r_465_0, r_467_0, r_467_2, r_470_0, r_470_1, va_rf_s, n_neg_t, n_neg_f, k_0, k_67, k_68, k_465, k_466, k_467, k_468, k_469, k_470, k_471, k_472, k_565, r_0_0, r_0_1, r_0_2, r_0_3, r_0_4, r_0_5, r_67_0, r_465_0, r_467_0, r_467_2, r_470_0, r_470_1, va_rf_s, kS0 hs, kS1 hs, kS2 hs, kS3 hs, kS4 hs, kS5 hs, kSp hs, kSn hs, kSw hs, kSl hs, rS0_0 hs, rS0_2 hs, rS0_4 hs, rS0_5 hs, rS3_0 hs, rS1 hs, rS2 hs, rSp hs, rSw hs, kM0 hp, kM1 hp, kM2 hp, kM3 hp, kM4 hp, kM5 hp, kMd hp, kMa hp, rM0_0 hp, rM0_2 hp, rM0_3 hp, rM0_4 hp, rM0_5 hp, rM0_6 hp, rM0_7 hp, rM1 hp, rMd hp, m6]
  · rw [if_neg e] at ok ⊢
    simp (disch := omega) only [v97_0, v97_1, v97_4, v97_7, v97_10, v97_11, v97_12, v97_13, v97_16, v97_19, v97_20, v97_21, v97_24, v97_27, v97_28, v97_29, n_cl, n_in_t, n_lt_t, n_lt_f, n_eq_t, n_eq_f, n_sub, nI_add, n_mul, n_01, ↓reduceIte, if_true, if_false, eq_self, true_or, or_true, and_self, and_true, true_and, Nat.reduceAdd, Nat.reduceMul, Nat.reduceLeDiff, Nat.zero_le, not_true_eq_false, not_false_eq_true, cat2_n, cat2_i, cat2_r, ws_0, ws_i, ws_r, ws_l, ws_d, aftr_n, aftr_s, bI_ok, bI_t, bI_f, up_s, up_n, n_bit, decide_true, decide_false, Bool.not_true, Bool.not_false, Bool.and_true, Bool.true_and, Bool.false_and, Bool.and_false, va_rf_s, n_nlt0, k_0, k_67, k_68, k_465, k_466, k_467, k_468, k_469, k_470, k_471, k_472, k_565, r_0_0, r_0_1, r_0_2, r_0_3, r_0_4, r_0_5, r_67_0, r_465_0, r_467_0, r_467_2, r_470_0, r_470_1, va_rf_s, n_neg_t, n_neg_f, k_0, k_67, k_68, k_465, k_466, k_467, k_468, k_469, k_470, k_471, k_472, k_565, r_0_0, r_0_1, r_0_2, r_0_3, r_0_4, r_0_5, r_67_0, r_465_0, r_467_0, r_467_2, r_470_0, r_470_1, va_rf_s, kS0 hs, kS1 hs, kS2 hs, kS3 hs, kS4 hs, kS5 hs, kSp hs, kSn hs, kSw hs, kSl hs, rS0_0 hs, rS0_2 hs, rS0_4 hs, rS0_5 hs, rS3_0 hs, rS1 hs, rS2 hs, rSp hs, rSw hs, kM0 hp, kM1 hp, kM2 hp, kM3 hp, kM4 hp, kM5 hp, kMd hp, kMa hp, rM0_0 hp, rM0_2 hp, rM0_3 hp, rM0_4 hp, rM0_5 hp, rM0_6 hp, rM0_7 hp, rM1 hp, rMd hp, m6, m9, ok]
theorem c83 (hw : CSt b I q (A, n, H, B)) (hg : GoodW (A, n, H, B)) (hm : Sm A) (hz : SZ KL RL b I z) (hQ : ∀ I', CSt b I' q (A, n, H, B) → Ag pCls b I I' → Q (.inl (some (.double (shrV A)))) (KAt KL b, I', RAt RL b q, L, sz, ex)) : X z 83 0 [some (.ref (ad b 0))] [] (0, 0) (KAt KL b, I, RAt RL b q, L, sz, ex) Q := by
  have hs := isS_N
  have hp := isM_P
  simp (disch := omega) only [v83_0, v83_1, v83_4, v83_5, v83_8, v83_9, v83_12, u83_15, n_cl, n_in_t, n_lt_t, n_lt_f, n_eq_t, n_eq_f, n_sub, nI_add, n_mul, n_01, ↓reduceIte, if_true, if_false, eq_self, true_or, or_true, and_self, and_true, true_and, Nat.reduceAdd, Nat.reduceMul, Nat.reduceLeDiff, Nat.zero_le, not_true_eq_false, not_false_eq_true, cat2_n, cat2_i, cat2_r, ws_0, ws_i, ws_r, ws_l, ws_d, aftr_n, aftr_s, bI_ok, bI_t, bI_f, up_s, up_n, n_bit, decide_true, decide_false, Bool.not_true, Bool.not_false, Bool.and_true, Bool.true_and, Bool.false_and, Bool.and_false, va_rf_s, n_nlt0, k_0, k_67, k_68, k_465, k_466, k_467, k_468, k_469, k_470, k_471, k_472, k_565, r_0_0, r_0_1, r_0_2, r_0_3, r_0_4, r_0_5, r_67_0, r_465_0, r_467_0, r_467_2, r_470_0, r_470_1, va_rf_s, n_neg_t, n_neg_f, k_0, k_67, k_68, k_465, k_466, k_467, k_468, k_469, k_470, k_471, k_472, k_565, r_0_0, r_0_1, r_0_2, r_0_3, r_0_4, r_0_5, r_67_0, r_465_0, r_467_0, r_467_2, r_470_0, r_470_1, va_rf_s, kS0 hs, kS1 hs, kS2 hs, kS3 hs, kS4 hs, kS5 hs, kSp hs, kSn hs, kSw hs, kSl hs, rS0_0 hs, rS0_2 hs, rS0_4 hs, rS0_5 hs, rS3_0 hs, rS1 hs, rS2 hs, rSp hs, rSw hs, kM0 hp, kM1 hp, kM2 hp, kM3 hp, kM4 hp, kM5 hp, kMd hp, kMa hp, rM0_0 hp, rM0_2 hp, rM0_3 hp, rM0_4 hp, rM0_5 hp, rM0_6 hp, rM0_7 hp, rM1 hp, rMd hp]
  refine prep hw hg hm hz (fun I1 m1 w1 g1 => ?_)
  simp (disch := omega) only [v83_18, u83_19, v83_22, n_cl, n_in_t, n_lt_t, n_lt_f, n_eq_t, n_eq_f, n_sub, nI_add, n_mul, n_01, ↓reduceIte, if_true, if_false, eq_self, true_or, or_true, and_self, and_true, true_and, Nat.reduceAdd, Nat.reduceMul, Nat.reduceLeDiff, Nat.zero_le, not_true_eq_false, not_false_eq_true, cat2_n, cat2_i, cat2_r, ws_0, ws_i, ws_r, ws_l, ws_d, aftr_n, aftr_s, bI_ok, bI_t, bI_f, up_s, up_n, n_bit, decide_true, decide_false, Bool.not_true, Bool.not_false, Bool.and_true, Bool.true_and, Bool.false_and, Bool.and_false, va_rf_s, n_nlt0, k_0, k_67, k_68, k_465, k_466, k_467, k_468, k_469, k_470, k_471, k_472, k_565, r_0_0, r_0_1, r_0_2, r_0_3, r_0_4, r_0_5, r_67_0, r_465_0, r_467_0, r_467_2, r_470_0, r_470_1, va_rf_s, n_neg_t, n_neg_f, c97 hg.1 w1.1 m1]
  exact hQ I1 w1 (g1.mn pMl_c)
theorem c99 {v : Int64} {σ : Mem} : X z 99 0 [some (.long h), none, some (.long v), none] [] (0, 0) σ Q = Q (.inl (some (.long (mx h v)))) σ := by
  simp (disch := omega) only [v99_0, v99_3, v99_4, v99_5, v99_6, v99_7, n_cl, n_in_t, n_lt_t, n_lt_f, n_eq_t, n_eq_f, n_sub, nI_add, n_mul, n_01, ↓reduceIte, if_true, if_false, eq_self, true_or, or_true, and_self, and_true, true_and, Nat.reduceAdd, Nat.reduceMul, Nat.reduceLeDiff, Nat.zero_le, not_true_eq_false, not_false_eq_true, cat2_n, cat2_i, cat2_r, ws_0, ws_i, ws_r, ws_l, ws_d, aftr_n, aftr_s, bI_ok, bI_t, bI_f, up_s, up_n, n_bit, decide_true, decide_false, Bool.not_true, Bool.not_false, Bool.and_true, Bool.true_and, Bool.false_and, Bool.and_false, va_rf_s, n_nlt0, k_0, k_67, k_68, k_465, k_466, k_467, k_468, k_469, k_470, k_471, k_472, k_565, r_0_0, r_0_1, r_0_2, r_0_3, r_0_4, r_0_5, r_67_0, r_465_0, r_467_0, r_467_2, r_470_0, r_470_1, va_rf_s, n_neg_t, n_neg_f]
  rfl
theorem l100 {a len : Nat} {t : List Nat} (hk : KAt KL b (ad b a) = (20, len)) (hl : t.length ≤ len) (hlen : len ≤ 2000) (ht : ∀ k, k < t.length → I (ad b a) k = nI (t.getD k 0)) : ∀ (r : List Nat) i (h0 g : Int64), (∀ j, j < r.length → t.getD (i + j) 0 = r.getD j 0) → i + r.length = t.length → X z 100 6 [some (.long h0), none, some (.ref (ad b a)), some (.int (nI t.length)), some (.long g), none, some (.int (nI i))] [] (0, 0) (KAt KL b, I, RAt RL b q, L, sz, ex) Q = Q (.inl (some (.long (mxN g r)))) (KAt KL b, I, RAt RL b q, L, sz, ex) := by
  intro r
  induction r with
  | nil =>
    intro i h0 g hr hi
    have e : i = t.length := by rw [List.length_nil] at hi; omega
    subst e
    rw [v100_6]
    simp (disch := omega) only [v100_0, v100_1, v100_3, v100_4, v100_8, v100_9, v100_12, v100_14, v100_15, v100_16, v100_19, v100_21, v100_22, v100_24, v100_25, u100_26, v100_29, v100_31, v100_34, v100_37, v100_39, n_cl, n_in_t, n_lt_t, n_lt_f, n_eq_t, n_eq_f, n_sub, nI_add, n_mul, n_01, ↓reduceIte, if_true, if_false, eq_self, true_or, or_true, and_self, and_true, true_and, Nat.reduceAdd, Nat.reduceMul, Nat.reduceLeDiff, Nat.zero_le, not_true_eq_false, not_false_eq_true, cat2_n, cat2_i, cat2_r, ws_0, ws_i, ws_r, ws_l, ws_d, aftr_n, aftr_s, bI_ok, bI_t, bI_f, up_s, up_n, n_bit, decide_true, decide_false, Bool.not_true, Bool.not_false, Bool.and_true, Bool.true_and, Bool.false_and, Bool.and_false, va_rf_s, n_nlt0, k_0, k_67, k_68, k_465, k_466, k_467, k_468, k_469, k_470, k_471, k_472, k_565, r_0_0, r_0_1, r_0_2, r_0_3, r_0_4, r_0_5, r_67_0, r_465_0, r_467_0, r_467_2, r_470_0, r_470_1, va_rf_s, n_neg_t, n_neg_f]
    rfl
  | cons x r ih =>
    intro i h0 g hr hi
    obtain ⟨g1, g2⟩ := getD_tail hr
    rw [List.length_cons] at hi
    have mi := ht i (by omega)
    rw [g1] at mi
    rw [v100_6]
    have ia : (isArr 20 = true) = True := eq_true rfl
    simp (disch := omega) only [v100_0, v100_1, v100_3, v100_4, v100_8, v100_9, v100_12, v100_14, v100_15, v100_16, v100_19, v100_21, v100_22, v100_24, v100_25, u100_26, v100_29, v100_31, v100_34, v100_37, v100_39, n_cl, n_in_t, n_lt_t, n_lt_f, n_eq_t, n_eq_f, n_sub, nI_add, n_mul, n_01, ↓reduceIte, if_true, if_false, eq_self, true_or, or_true, and_self, and_true, true_and, Nat.reduceAdd, Nat.reduceMul, Nat.reduceLeDiff, Nat.zero_le, not_true_eq_false, not_false_eq_true, cat2_n, cat2_i, cat2_r, ws_0, ws_i, ws_r, ws_l, ws_d, aftr_n, aftr_s, bI_ok, bI_t, bI_f, up_s, up_n, n_bit, decide_true, decide_false, Bool.not_true, Bool.not_false, Bool.and_true, Bool.true_and, Bool.false_and, Bool.and_false, va_rf_s, n_nlt0, k_0, k_67, k_68, k_465, k_466, k_467, k_468, k_469, k_470, k_471, k_472, k_565, r_0_0, r_0_1, r_0_2, r_0_3, r_0_4, r_0_5, r_67_0, r_465_0, r_467_0, r_467_2, r_470_0, r_470_1, va_rf_s, n_neg_t, n_neg_f, hk, ia, mi, c99]
    rw [ih (i + 1) h0 _ g2 (by omega)]
    rfl
theorem c100 {a len : Nat} {t : List Nat} (hk : KAt KL b (ad b a) = (20, len)) (hl : t.length ≤ len) (hlen : len ≤ 2000) (ht : ∀ k, k < t.length → I (ad b a) k = nI (t.getD k 0)) : X z 100 0 [some (.long h), none, some (.ref (ad b a)), some (.int (nI t.length)), none, none, none] [] (0, 0) (KAt KL b, I, RAt RL b q, L, sz, ex) Q = Q (.inl (some (.long (mxN h t)))) (KAt KL b, I, RAt RL b q, L, sz, ex) := by
  simp (disch := omega) only [v100_0, v100_1, v100_3, v100_4, n_cl, n_in_t, n_lt_t, n_lt_f, n_eq_t, n_eq_f, n_sub, nI_add, n_mul, n_01, ↓reduceIte, if_true, if_false, eq_self, true_or, or_true, and_self, and_true, true_and, Nat.reduceAdd, Nat.reduceMul, Nat.reduceLeDiff, Nat.zero_le, not_true_eq_false, not_false_eq_true, cat2_n, cat2_i, cat2_r, ws_0, ws_i, ws_r, ws_l, ws_d, aftr_n, aftr_s, bI_ok, bI_t, bI_f, up_s, up_n, n_bit, decide_true, decide_false, Bool.not_true, Bool.not_false, Bool.and_true, Bool.true_and, Bool.false_and, Bool.and_false, va_rf_s, n_nlt0, k_0, k_67, k_68, k_465, k_466, k_467, k_468, k_469, k_470, k_471, k_472, k_565, r_0_0, r_0_1, r_0_2, r_0_3, r_0_4, r_0_5, r_67_0, r_465_0, r_467_0, r_467_2, r_470_0, r_470_1, va_rf_s, n_neg_t, n_neg_f]
  exact l100 hk hl hlen ht t 0 h h (fun j _ => by rw [Nat.zero_add]) (by omega)
end CU
