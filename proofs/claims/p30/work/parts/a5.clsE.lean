/-! texts of the JDK: length, charAt -/
/-- the string at a holds the characters cs -/
def SO (KL : Nat → Nat × Nat) (RL : Nat → Nat → Option Nat) (b : Nat) (I : Nat → Nat → Int32) (a : Nat) (cs : List Nat) : Prop := a < b ∧ (KL a).1 = 52 ∧ I a 0 = nI 0 ∧ (∃ v, v < b ∧ RL a 1 = some v ∧ KL v = (51, cs.length) ∧ ∀ k, k < cs.length → I v k = nI (cs.getD k 0)) ∧ cs.length ≤ 10 ∧ ∀ c ∈ cs, c < 128
theorem one_n : (1 : Int32) = nI 1 := one1.symm
theorem nar_b0 : (narrow .byte (.int (nI 0)) = .int (nI 0)) = True := eq_true rfl
theorem nar_ch : ∀ c, c < 128 → narrow .char (.int (nI c)) = .int (nI c) := by decide +kernel
theorem i2c_ch : ∀ c, c < 128 → ((nI c &&& nI 255).toUInt32 % 65536).toInt32 = nI c := by decide +kernel
theorem n_shr0 {a : Nat} (h : a < 2147483648) : nI a >>> (nI 0 &&& 31) = nI a := by rw [pk_shrN h _ 0 (n_sm 0 (by omega)), Nat.pow_zero, Nat.div_one]
theorem isArr_51 : isArr 51 = true := rfl
theorem isArr_20 : isArr 20 = true := rfl
section CE
variable {z : P0} {KL : Nat → Nat × Nat} {RL : Nat → Nat → Option Nat} {q : Nat → Nat} {b : Nat} {I : Nat → Nat → Int32} {L : Nat → Nat → Int64} {sz : Nat} {ex : Bool} {Q : Res → Mem → Prop} {A : Row}
theorem u189_5 {a0 a1 : Int32} {ls : Lcs} {st : List Value} {K : Nat → Nat × Nat} {R : Nat → Nat → Option Nat} (hc : z.2.category = 1) : X z 189 5 ls (z.2 :: .int a1 :: .int a0 :: st) (0, 0) (K, I, R, L, sz, ex) Q = (wsum st ≤ 8 ∧ X z 191 0 [some (.int a0), some (.int a1), some z.2] [] (0, 0) (K, I, R, L, sz, ex) (aftr (X z) mT 189 5 ls st (0, 0) Q)) := by
  have e : ent1 [.int a0, .int a1, z.2] = [some (.int a0), some (.int a1), some z.2] := by
    show (if (1 : Nat) = 2 then _ else some (.int a0) :: (if (1 : Nat) = 2 then _ else some (.int a1) :: (if z.2.category = 2 then _ else some z.2 :: []))) = _
    rw [if_neg (by omega), if_neg (by omega), hc, if_neg (by omega)]
  rw [x189_5]
  refine (inv_s (As := [.int a0, .int a1, z.2]) (rm := mi189) (ry := mi191) rfl rfl (by decide) rfl rfl (by rw [e]; exact Nat.le_refl 3) (E := [some (.int a0), some (.int a1), some z.2]) (by unfold ent; rw [e]; rfl) (by decide)).trans ?_
  refine congrArg _ ?_
  exact Eq.trans (and_t (Nat.zero_le _)) (and_t (Nat.zero_le _))
theorem c189 {i n : Nat} {K : Nat → Nat × Nat} {R : Nat → Nat → Option Nat} (hc : z.2.category = 1) (hi : i < n) (hn : n < 2147483648) : X z 189 0 [some (.int (nI i)), some (.int (nI n))] [] (0, 0) (K, I, R, L, sz, ex) Q = Q (.inl none) (K, I, R, L, sz, ex) := by
  simp (disch := omega) only [v189_0, v189_1, v189_2, v189_8, v189_9, n_cl, n_in_t, n_lt_t, n_lt_f, n_eq_t, n_eq_f, n_sub, nI_add, n_mul, n_01, ↓reduceIte, if_true, if_false, eq_self, true_or, or_true, and_self, and_true, true_and, Nat.reduceAdd, Nat.reduceMul, Nat.reduceLeDiff, Nat.zero_le, not_true_eq_false, not_false_eq_true, cat2_n, cat2_i, cat2_r, ws_0, ws_i, ws_r, ws_l, ws_d, aftr_n, aftr_s, bI_ok, bI_t, bI_f, up_s, up_n, n_bit, decide_true, decide_false, Bool.not_true, Bool.not_false, Bool.and_true, Bool.true_and, Bool.false_and, Bool.and_false, va_rf_s, n_nlt0, k_0, k_67, k_68, k_465, k_466, k_467, k_468, k_469, k_470, k_471, k_472, k_565, r_0_0, r_0_1, r_0_2, r_0_3, r_0_4, r_0_5, r_67_0, r_465_0, r_467_0, r_467_2, r_470_0, r_470_1, va_rf_s, n_neg_t, n_neg_f, u189_5 hc, v191_0, v191_1, v191_4, v191_5, v191_6, v191_9, v191_10, v191_11, v191_16, v191_17]
theorem c185 {a : Nat} {cs : List Nat} (h : SO KL RL b I a cs) : X z 185 0 [some (.ref a)] [] (0, 0) (KAt KL b, I, RAt RL b q, L, sz, ex) Q = Q (.inl (some (.int (nI cs.length)))) (KAt KL b, I, RAt RL b q, L, sz, ex) := by
  obtain ⟨h1, h2, h3, ⟨v, v1, v2, v3, v4⟩, h5, h6⟩ := h
  have k1 := kw_lo (KL := KL) h1
  have k2 := kw_lo (KL := KL) v1
  have r1 := rw_lo (RL := RL) (q := q) (j := 1) h1
  simp (disch := omega) only [v185_0, v185_1, v185_4, v185_5, u185_6, v185_9, v185_10, v187_0, v187_3, v187_6, v187_7, v187_10, v187_13, v187_14, n_cl, n_in_t, n_lt_t, n_lt_f, n_eq_t, n_eq_f, n_sub, nI_add, n_mul, n_01, ↓reduceIte, if_true, if_false, eq_self, true_or, or_true, and_self, and_true, true_and, Nat.reduceAdd, Nat.reduceMul, Nat.reduceLeDiff, Nat.zero_le, not_true_eq_false, not_false_eq_true, cat2_n, cat2_i, cat2_r, ws_0, ws_i, ws_r, ws_l, ws_d, aftr_n, aftr_s, bI_ok, bI_t, bI_f, up_s, up_n, n_bit, decide_true, decide_false, Bool.not_true, Bool.not_false, Bool.and_true, Bool.true_and, Bool.false_and, Bool.and_false, va_rf_s, n_nlt0, k_0, k_67, k_68, k_465, k_466, k_467, k_468, k_469, k_470, k_471, k_472, k_565, r_0_0, r_0_1, r_0_2, r_0_3, r_0_4, r_0_5, r_67_0, r_465_0, r_467_0, r_467_2, r_470_0, r_470_1, va_rf_s, n_neg_t, n_neg_f, k1, k2, r1, h2, h3, v2, v3, one_n, nar_b0, n_shr0, isArr_51]
theorem c186 {a k : Nat} {cs : List Nat} (hc : z.2.category = 1) (h : SO KL RL b I a cs) (hk : k < cs.length) : X z 186 0 [some (.ref a), some (.int (nI k))] [] (0, 0) (KAt KL b, I, RAt RL b q, L, sz, ex) Q = Q (.inl (some (.int (nI (cs.getD k 0))))) (KAt KL b, I, RAt RL b q, L, sz, ex) := by
  obtain ⟨h1, h2, h3, ⟨v, v1, v2, v3, v4⟩, h5, h6⟩ := h
  have k1 := kw_lo (KL := KL) h1
  have k2 := kw_lo (KL := KL) v1
  have r1 := rw_lo (RL := RL) (q := q) (j := 1) h1
  have c1 : cs.getD k 0 < 128 := h6 _ (by rw [List.getD_eq_getElem?_getD, List.getElem?_eq_getElem hk]; exact List.getElem_mem _)
  have vk := v4 k hk
  simp (disch := omega) only [v186_0, u186_1, v186_4, v186_7, v186_8, v186_11, u186_12, v186_15, v186_16, v186_17, v186_20, v186_24, v188_0, v188_3, v188_6, v188_7, v188_10, v188_13, v188_14, v188_17, v188_18, v190_0, v190_1, v190_2, u190_3, v190_6, v190_7, v190_8, v190_9, v190_12, v190_13, v190_14, n_cl, n_in_t, n_lt_t, n_lt_f, n_eq_t, n_eq_f, n_sub, nI_add, n_mul, n_01, ↓reduceIte, if_true, if_false, eq_self, true_or, or_true, and_self, and_true, true_and, Nat.reduceAdd, Nat.reduceMul, Nat.reduceLeDiff, Nat.zero_le, not_true_eq_false, not_false_eq_true, cat2_n, cat2_i, cat2_r, ws_0, ws_i, ws_r, ws_l, ws_d, aftr_n, aftr_s, bI_ok, bI_t, bI_f, up_s, up_n, n_bit, decide_true, decide_false, Bool.not_true, Bool.not_false, Bool.and_true, Bool.true_and, Bool.false_and, Bool.and_false, va_rf_s, n_nlt0, k_0, k_67, k_68, k_465, k_466, k_467, k_468, k_469, k_470, k_471, k_472, k_565, r_0_0, r_0_1, r_0_2, r_0_3, r_0_4, r_0_5, r_67_0, r_465_0, r_467_0, r_467_2, r_470_0, r_470_1, va_rf_s, n_neg_t, n_neg_f, k1, k2, r1, h2, h3, v2, v3, one_n, isArr_51, c189 hc, vk, i2c_ch _ c1, nar_ch _ c1]
end CE
