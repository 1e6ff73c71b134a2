/-! THE LAW: its small methods; a text laid out sign by sign -/
theorem atN_n {a n : Nat} (ha : a < 4294967296) (h0 : 0 < n) (hn : n < 2147483648) : ushr (nI a) (nI 1) - ushr (nI a) (nI 1) / nI n * nI n = nI (atN (nI a) n) := by
  have e1 : ushr (nI a) (nI 1) = nI (a / 2) := by
    refine Int32.toBitVec_inj.mp ?_
    apply BitVec.eq_of_toNat_eq
    unfold ushr
    rw [nI_bv, BitVec.toNat_ofNat]
    have : (nI a).toUInt32.toNat = a := by
      show (nI a).toBitVec.toNat = a
      rw [nI_bv, BitVec.toNat_ofNat, Nat.mod_eq_of_lt (by omega)]
    show ((nI a).toUInt32 >>> ((nI 1).toUInt32 &&& Int32.toUInt32 31)).toNat = _
    rw [UInt32.toNat_shiftRight, this]
    rw [show (((nI 1).toUInt32 &&& Int32.toUInt32 31).toNat % 32) = 1 by decide +kernel, Nat.shiftRight_eq_div_pow]
    omega
  have e2 : atN (nI a) n = a / 2 % n := by
    unfold atN
    rw [nI_bv, BitVec.toNat_ofNat, Nat.mod_eq_of_lt (show a < 2 ^ 32 by omega)]
  rw [e1, e2]
  exact n_rem (by omega) hn
def LYs (b : Nat) (I : Nat → Nat → Int32) (t l : Nat) (u : Option Nat) : Prop := match u with
  | none => I (ad b t) 4 = nI (l + 1) ∧ I (ad b t) 3 = nI 1 ∧ I (ad b t) 2 = nI 0
  | some v => I (ad b t) 4 = nI l ∧ I (ad b t) 3 = nI 0 ∧ I (ad b t) 2 = nI v
def SS (b : Nat) (I : Nat → Nat → Int32) (t W H c h : Nat) (s : LSt) : Prop := I (ad b t) 0 = nI c ∧ I (ad b t) 1 = nI s.1 ∧ LYs b I t s.2.1 s.2.2.1 ∧ I (ad b t) 5 = nI s.2.2.2.1 ∧ I (ad b t) 6 = nI s.2.2.2.2 ∧ I (ad b t) 7 = nI W ∧ I (ad b t) 8 = nI H ∧ I (ad b t) 9 = nI h
/-- the text T is told -/
def OS (b : Nat) (I : Nat → Nat → Int32) (t W H : Nat) (T : List Nat) : Prop := SS b I t W H T.length (hshT T) (runT W H T)
/-- it is told and ended -/
def OE (b : Nat) (I : Nat → Nat → Int32) (t W H : Nat) (T : List Nat) : Prop := I (ad b t) 0 = nI T.length ∧ I (ad b t) 4 = nI (layT W H T).1 ∧ I (ad b t) 6 = nI (layT W H T).2 ∧ I (ad b t) 9 = nI (hshT T)
def pL (t o j : Nat) : Prop := o = t ∧ 2 ≤ j ∧ j ≤ 4
def pP1 (t o j : Nat) : Prop := o = t ∧ 1 ≤ j ∧ j ≤ 4
def pS (t o _j : Nat) : Prop := o = t
theorem pL_p {t : Nat} : ∀ o j, pL t o j → pP1 t o j := fun o j h => ⟨h.1, by have := h.2; omega, h.2.2⟩
theorem pP_s {t : Nat} : ∀ o j, pP1 t o j → pS t o j := fun o j h => h.1
section LA
variable {z : P0} {KL : Nat → Nat × Nat} {RL : Nat → Nat → Option Nat} {q : Nat → Nat} {b : Nat} {I : Nat → Nat → Int32} {L : Nat → Nat → Int64} {sz : Nat} {ex : Bool} {Q : Res → Mem → Prop} {A : Row}
variable {t W H : Nat} {T : List Nat}
theorem c193 {a n : Nat} {σ : Mem} (ha : a < 4294967296) (h0 : 0 < n) (hn : n < 2147483648) : X z 193 0 [some (.int (nI a)), some (.int (nI n))] [] (0, 0) σ Q = Q (.inl (some (.int (nI (atN (nI a) n))))) σ := by
  obtain ⟨K, I, R, L, sz, ex⟩ := σ
  simp (disch := omega) only [v193_0, v193_1, v193_2, v193_3, v193_4, v193_5, ↓atN_n, n_z, ↓reduceIte, if_true, if_false, eq_self, true_or, or_true, and_self, and_true, true_and, Nat.reduceAdd, Nat.reduceMul, Nat.reduceLeDiff, Nat.zero_le, not_true_eq_false, not_false_eq_true]
theorem c193v {v : Int32} {n : Nat} {σ : Mem} (h0 : 0 < n) (hn : n < 2147483648) : X z 193 0 [some (.int v), some (.int (nI n))] [] (0, 0) σ Q = Q (.inl (some (.int (nI (atN v n))))) σ := by
  obtain ⟨a, ha, rfl⟩ := n_of v
  exact c193 ha h0 hn
theorem c194 {kind p s k : Nat} {σ : Mem} (hk : kind ≤ 1) (hp : p < 1000) (hs : s < 1000) (hk2 : k < 1000) : X z 194 0 [some (.int (nI kind)), some (.int (nI p)), some (.int (nI s)), some (.int (nI k))] [] (0, 0) σ Q = Q (.inl (some (.int (nI (letN kind p s k))))) σ := by
  obtain ⟨K, I, R, L, sz, ex⟩ := σ
  unfold letN
  rcases (show kind = 0 ∨ kind = 1 by omega) with rfl | rfl
  · rw [if_pos rfl]
    simp (disch := omega) only [v194_0, v194_2, v194_3, v194_6, v194_7, v194_8, v194_9, v194_10, v194_11, v194_12, v194_13, v194_16, v194_17, v194_18, v194_19, v194_21, v194_22, v194_23, v194_24, v194_25, v194_26, v194_28, v194_29, v194_30, Nat.add_zero, n_cl, n_in_t, n_lt_t, n_lt_f, n_eq_t, n_eq_f, n_sub, nI_add, n_mul, n_01, ↓reduceIte, if_true, if_false, eq_self, true_or, or_true, and_self, and_true, true_and, Nat.reduceAdd, Nat.reduceMul, Nat.reduceLeDiff, Nat.zero_le, not_true_eq_false, not_false_eq_true, cat2_n, cat2_i, cat2_r, ws_0, ws_i, ws_r, ws_l, ws_d, aftr_n, aftr_s, bI_ok, bI_t, bI_f, up_s, up_n, n_bit, decide_true, decide_false, Bool.not_true, Bool.not_false, Bool.and_true, Bool.true_and, Bool.false_and, Bool.and_false, n_nlt0, n_neg_t, n_neg_f, k_0, k_566, k_567, k_568, k_569, k_570, k_571, k_572, k_573, k_574, k_575, k_576, n_z]
    rw [n_rem (by omega) (by omega), nI_add]
  · rw [if_neg (by omega)]
    simp (disch := omega) only [v194_0, v194_2, v194_3, v194_6, v194_7, v194_8, v194_9, v194_10, v194_11, v194_12, v194_13, v194_16, v194_17, v194_18, v194_19, v194_21, v194_22, v194_23, v194_24, v194_25, v194_26, v194_28, v194_29, v194_30, Nat.add_zero, n_cl, n_in_t, n_lt_t, n_lt_f, n_eq_t, n_eq_f, n_sub, nI_add, n_mul, n_01, ↓reduceIte, if_true, if_false, eq_self, true_or, or_true, and_self, and_true, true_and, Nat.reduceAdd, Nat.reduceMul, Nat.reduceLeDiff, Nat.zero_le, not_true_eq_false, not_false_eq_true, cat2_n, cat2_i, cat2_r, ws_0, ws_i, ws_r, ws_l, ws_d, aftr_n, aftr_s, bI_ok, bI_t, bI_f, up_s, up_n, n_bit, decide_true, decide_false, Bool.not_true, Bool.not_false, Bool.and_true, Bool.true_and, Bool.false_and, Bool.and_false, n_nlt0, n_neg_t, n_neg_f, k_0, k_566, k_567, k_568, k_569, k_570, k_571, k_572, k_573, k_574, k_575, k_576, n_z]
    rw [n_rem (by omega) (by omega), nI_add]
theorem l206 {m : Nat} {σ : Mem} (hm : m < 2147483648) : ∀ d p c, p + d = 20 → X z 206 4 [some (.int (nI m)), some (.int (nI c)), some (.int (nI p))] [] (0, 0) σ Q = Q (.inl (some (.int (nI (c + popN m p d))))) σ := by
  obtain ⟨K, I, R, L, sz, ex⟩ := σ
  intro d
  induction d with
  | zero =>
    intro p c h
    obtain rfl : p = 20 := by omega
    rw [v206_4]
    simp (disch := omega) only [v206_0, v206_1, v206_2, v206_3, v206_5, v206_7, v206_10, v206_11, v206_12, v206_13, v206_14, v206_15, v206_16, v206_17, v206_18, v206_21, v206_24, v206_25, Nat.add_zero, n_cl, n_in_t, n_lt_t, n_lt_f, n_eq_t, n_eq_f, n_sub, nI_add, n_mul, n_01, ↓reduceIte, if_true, if_false, eq_self, true_or, or_true, and_self, and_true, true_and, Nat.reduceAdd, Nat.reduceMul, Nat.reduceLeDiff, Nat.zero_le, not_true_eq_false, not_false_eq_true, cat2_n, cat2_i, cat2_r, ws_0, ws_i, ws_r, ws_l, ws_d, aftr_n, aftr_s, bI_ok, bI_t, bI_f, up_s, up_n, n_bit, decide_true, decide_false, Bool.not_true, Bool.not_false, Bool.and_true, Bool.true_and, Bool.false_and, Bool.and_false, n_nlt0, n_neg_t, n_neg_f, k_0, k_566, k_567, k_568, k_569, k_570, k_571, k_572, k_573, k_574, k_575, k_576]
    rfl
  | succ d ih =>
    intro p c h
    have u : popN m p (d + 1) = (if m.testBit p = true then 1 else 0) + popN m (p + 1) d := rfl
    rw [v206_4, u]
    simp (disch := omega) only [v206_0, v206_1, v206_2, v206_3, v206_5, v206_7, v206_10, v206_11, v206_12, v206_13, v206_14, v206_15, v206_16, v206_17, v206_18, v206_21, v206_24, v206_25, Nat.add_zero, n_cl, n_in_t, n_lt_t, n_lt_f, n_eq_t, n_eq_f, n_sub, nI_add, n_mul, n_01, ↓reduceIte, if_true, if_false, eq_self, true_or, or_true, and_self, and_true, true_and, Nat.reduceAdd, Nat.reduceMul, Nat.reduceLeDiff, Nat.zero_le, not_true_eq_false, not_false_eq_true, cat2_n, cat2_i, cat2_r, ws_0, ws_i, ws_r, ws_l, ws_d, aftr_n, aftr_s, bI_ok, bI_t, bI_f, up_s, up_n, n_bit, decide_true, decide_false, Bool.not_true, Bool.not_false, Bool.and_true, Bool.true_and, Bool.false_and, Bool.and_false, n_nlt0, n_neg_t, n_neg_f, k_0, k_566, k_567, k_568, k_569, k_570, k_571, k_572, k_573, k_574, k_575, k_576, bI_n, ih (p + 1), Nat.add_assoc]
theorem c206 {g : List Nat} {σ : Mem} (hs : g.Pairwise (· < ·)) (h2 : ∀ x ∈ g, x < 20) : X z 206 0 [some (.int (nI (maskL g))), none, none] [] (0, 0) σ Q = Q (.inl (some (.int (nI g.length)))) σ := by
  have hm : maskL g < 2147483648 := Nat.lt_of_lt_of_le (maskL_lt (n := 20) h2) (by decide)
  obtain ⟨K, I, R, L, sz, ex⟩ := σ
  simp (disch := omega) only [v206_0, v206_1, v206_2, v206_3, Nat.add_zero, n_cl, n_in_t, n_lt_t, n_lt_f, n_eq_t, n_eq_f, n_sub, nI_add, n_mul, n_01, ↓reduceIte, if_true, if_false, eq_self, true_or, or_true, and_self, and_true, true_and, Nat.reduceAdd, Nat.reduceMul, Nat.reduceLeDiff, Nat.zero_le, not_true_eq_false, not_false_eq_true, cat2_n, cat2_i, cat2_r, ws_0, ws_i, ws_r, ws_l, ws_d, aftr_n, aftr_s, bI_ok, bI_t, bI_f, up_s, up_n, n_bit, decide_true, decide_false, Bool.not_true, Bool.not_false, Bool.and_true, Bool.true_and, Bool.false_and, Bool.and_false, n_nlt0, n_neg_t, n_neg_f, k_0, k_566, k_567, k_568, k_569, k_570, k_571, k_572, k_573, k_574, k_575, k_576, l206 hm 20 0 0, popN_mask hs h2, Nat.zero_add]
theorem c206m {m : Nat} {σ : Mem} (hm : m < 2147483648) : X z 206 0 [some (.int (nI m)), none, none] [] (0, 0) σ Q = Q (.inl (some (.int (nI (popN m 0 20))))) σ := by
  obtain ⟨K, I, R, L, sz, ex⟩ := σ
  simp (disch := omega) only [v206_0, v206_1, v206_2, v206_3, Nat.add_zero, n_cl, n_in_t, n_lt_t, n_lt_f, n_eq_t, n_eq_f, n_sub, nI_add, n_mul, n_01, ↓reduceIte, if_true, if_false, eq_self, true_or, or_true, and_self, and_true, true_and, Nat.reduceAdd, Nat.reduceMul, Nat.reduceLeDiff, Nat.zero_le, not_true_eq_false, not_false_eq_true, cat2_n, cat2_i, cat2_r, ws_0, ws_i, ws_r, ws_l, ws_d, aftr_n, aftr_s, bI_ok, bI_t, bI_f, up_s, up_n, n_bit, decide_true, decide_false, Bool.not_true, Bool.not_false, Bool.and_true, Bool.true_and, Bool.false_and, Bool.and_false, n_nlt0, n_neg_t, n_neg_f, k_0, k_566, k_567, k_568, k_569, k_570, k_571, k_572, k_573, k_574, k_575, k_576, l206 hm 20 0 0, Nat.zero_add]
theorem c199 {l p : Nat} {u : Option Nat} (hk : KAt KL b (ad b t) = (20, 10)) (h7 : I (ad b t) 7 = nI W) (hW : W ≤ 40) (h : LYs b I t l u) (hp : p ≤ 10000) (hl : l ≤ 10000) (hu : ∀ v, u = some v → v ≤ 10000) (hQ : ∀ I', LYs b I' t (match u with | none => l + 1 | some v => if v + 1 + p ≤ W then l else l + 1) (some (match u with | none => p | some v => if v + 1 + p ≤ W then v + 1 + p else p)) → Ag (pL t) b I I' → Q (.inl none) (KAt KL b, I', RAt RL b q, L, sz, ex)) :
    X z 199 0 [some (.ref (ad b t)), some (.int (nI p))] [] (0, 0) (KAt KL b, I, RAt RL b q, L, sz, ex) Q := by
  cases u with
  | none =>
    obtain ⟨a1, a2, a3⟩ := h
    simp (disch := omega) only [v199_0, v199_1, v199_2, v199_3, v199_6, v199_7, v199_8, v199_9, v199_10, v199_11, v199_12, v199_13, v199_14, v199_16, v199_17, v199_20, v199_21, v199_22, v199_23, v199_24, v199_25, v199_26, v199_27, v199_28, v199_29, v199_30, v199_31, v199_32, v199_33, v199_34, v199_35, v199_36, v199_37, v199_38, v199_39, v199_40, v199_41, v199_42, v199_43, v199_46, v199_47, v199_50, v199_51, v199_52, v199_53, v199_54, v199_55, v199_56, v199_57, v199_58, v199_59, Nat.add_zero, n_cl, n_in_t, n_lt_t, n_lt_f, n_eq_t, n_eq_f, n_sub, nI_add, n_mul, n_01, ↓reduceIte, if_true, if_false, eq_self, true_or, or_true, and_self, and_true, true_and, Nat.reduceAdd, Nat.reduceMul, Nat.reduceLeDiff, Nat.zero_le, not_true_eq_false, not_false_eq_true, cat2_n, cat2_i, cat2_r, ws_0, ws_i, ws_r, ws_l, ws_d, aftr_n, aftr_s, bI_ok, bI_t, bI_f, up_s, up_n, n_bit, decide_true, decide_false, Bool.not_true, Bool.not_false, Bool.and_true, Bool.true_and, Bool.false_and, Bool.and_false, n_nlt0, n_neg_t, n_neg_f, k_0, k_566, k_567, k_568, k_569, k_570, k_571, k_572, k_573, k_574, k_575, k_576, hk, a1, a2, a3, h7, Nat.add_zero, Nat.zero_add]
    refine hQ _ ⟨?_, ?_, ?_⟩ ((Ag.rf.up ⟨rfl, by omega, by omega⟩).up ⟨rfl, by omega, by omega⟩)
    · rw [up_n (by omega), up_n (by omega)]; exact a1
    · rw [up_s]
    · rw [up_n (by omega), up_s]
  | some v =>
    have hv := hu v rfl
    obtain ⟨a1, a2, a3⟩ := h
    dsimp only at hQ
    by_cases e : v + 1 + p ≤ W
    · rw [if_pos e, if_pos e] at hQ
      simp (disch := omega) only [v199_0, v199_1, v199_2, v199_3, v199_6, v199_7, v199_8, v199_9, v199_10, v199_11, v199_12, v199_13, v199_14, v199_16, v199_17, v199_20, v199_21, v199_22, v199_23, v199_24, v199_25, v199_26, v199_27, v199_28, v199_29, v199_30, v199_31, v199_32, v199_33, v199_34, v199_35, v199_36, v199_37, v199_38, v199_39, v199_40, v199_41, v199_42, v199_43, v199_46, v199_47, v199_50, v199_51, v199_52, v199_53, v199_54, v199_55, v199_56, v199_57, v199_58, v199_59, Nat.add_zero, n_cl, n_in_t, n_lt_t, n_lt_f, n_eq_t, n_eq_f, n_sub, nI_add, n_mul, n_01, ↓reduceIte, if_true, if_false, eq_self, true_or, or_true, and_self, and_true, true_and, Nat.reduceAdd, Nat.reduceMul, Nat.reduceLeDiff, Nat.zero_le, not_true_eq_false, not_false_eq_true, cat2_n, cat2_i, cat2_r, ws_0, ws_i, ws_r, ws_l, ws_d, aftr_n, aftr_s, bI_ok, bI_t, bI_f, up_s, up_n, n_bit, decide_true, decide_false, Bool.not_true, Bool.not_false, Bool.and_true, Bool.true_and, Bool.false_and, Bool.and_false, n_nlt0, n_neg_t, n_neg_f, k_0, k_566, k_567, k_568, k_569, k_570, k_571, k_572, k_573, k_574, k_575, k_576, hk, a1, a2, a3, h7]
      refine hQ _ ⟨?_, ?_, ?_⟩ ((Ag.rf.up ⟨rfl, by omega, by omega⟩).up ⟨rfl, by omega, by omega⟩)
      · rw [up_n (by omega), up_n (by omega), a1]
      · rw [up_s]
      · rw [up_n (by omega), up_s, show v + (1 + p) = v + 1 + p by omega]
    · rw [if_neg e, if_neg e] at hQ
      simp (disch := omega) only [v199_0, v199_1, v199_2, v199_3, v199_6, v199_7, v199_8, v199_9, v199_10, v199_11, v199_12, v199_13, v199_14, v199_16, v199_17, v199_20, v199_21, v199_22, v199_23, v199_24, v199_25, v199_26, v199_27, v199_28, v199_29, v199_30, v199_31, v199_32, v199_33, v199_34, v199_35, v199_36, v199_37, v199_38, v199_39, v199_40, v199_41, v199_42, v199_43, v199_46, v199_47, v199_50, v199_51, v199_52, v199_53, v199_54, v199_55, v199_56, v199_57, v199_58, v199_59, Nat.add_zero, n_cl, n_in_t, n_lt_t, n_lt_f, n_eq_t, n_eq_f, n_sub, nI_add, n_mul, n_01, ↓reduceIte, if_true, if_false, eq_self, true_or, or_true, and_self, and_true, true_and, Nat.reduceAdd, Nat.reduceMul, Nat.reduceLeDiff, Nat.zero_le, not_true_eq_false, not_false_eq_true, cat2_n, cat2_i, cat2_r, ws_0, ws_i, ws_r, ws_l, ws_d, aftr_n, aftr_s, bI_ok, bI_t, bI_f, up_s, up_n, n_bit, decide_true, decide_false, Bool.not_true, Bool.not_false, Bool.and_true, Bool.true_and, Bool.false_and, Bool.and_false, n_nlt0, n_neg_t, n_neg_f, k_0, k_566, k_567, k_568, k_569, k_570, k_571, k_572, k_573, k_574, k_575, k_576, hk, a1, a2, a3, h7, Nat.add_zero, Nat.zero_add]
      refine hQ _ ⟨?_, ?_, ?_⟩ (((((Ag.rf.up ⟨rfl, by omega, by omega⟩).up ⟨rfl, by omega, by omega⟩).up ⟨rfl, by omega, by omega⟩).up ⟨rfl, by omega, by omega⟩).up ⟨rfl, by omega, by omega⟩)
      · rw [up_n (by omega), up_n (by omega), up_n (by omega), up_n (by omega), up_s]
      · rw [up_s]
      · rw [up_n (by omega), up_s]
theorem LYs.ag {P : Nat → Nat → Prop} {I' : Nat → Nat → Int32} {l : Nat} {u : Option Nat} (h : LYs b I t l u) (hg : Ag P b I I') (h1 : ∀ j, 2 ≤ j → j ≤ 4 → ¬ P t j) : LYs b I' t l u := by
  cases u with
  | none => exact ⟨(hg.at (h1 _ (by omega) (by omega))).trans h.1, (hg.at (h1 _ (by omega) (by omega))).trans h.2.1, (hg.at (h1 _ (by omega) (by omega))).trans h.2.2⟩
  | some v => exact ⟨(hg.at (h1 _ (by omega) (by omega))).trans h.1, (hg.at (h1 _ (by omega) (by omega))).trans h.2.1, (hg.at (h1 _ (by omega) (by omega))).trans h.2.2⟩
theorem LYs.at4 {l v : Nat} (h : LYs b I t l (some v)) : I (ad b t) 4 = nI l := h.1
theorem l200 (hk : KAt KL b (ad b t) = (20, 10)) (hW : 1 ≤ W ∧ W ≤ 40) : ∀ n p l (u : Option Nat) I, p ≤ n → p + l ≤ 5000 → (∀ v, u = some v → v ≤ W) → I (ad b t) 7 = nI W → I (ad b t) 1 = nI p → LYs b I t l u → (∀ I', LYs b I' t (plc W l u p).1 (some (plc W l u p).2) → I' (ad b t) 1 = nI 0 → Ag (pP1 t) b I I' → Q (.inl none) (KAt KL b, I', RAt RL b q, L, sz, ex)) →
    X z 200 0 [some (.ref (ad b t))] [] (0, 0) (KAt KL b, I, RAt RL b q, L, sz, ex) Q := by
  intro n
  induction n with
  | zero =>
    intro p l u I hp hp2 hu h7 m1 h hQ
    rw [v200_0]
    simp (disch := omega) only [v200_1, v200_2, v200_3, v200_4, v200_6, v200_7, v200_10, v200_11, v200_12, v200_14, u200_15, v200_18, v200_19, v200_20, v200_21, v200_22, v200_23, v200_25, v200_26, v200_27, v200_28, v200_31, v200_32, v200_33, v200_34, u200_35, v200_38, v200_39, v200_40, v200_41, v200_42, Nat.add_zero, n_cl, n_in_t, n_lt_t, n_lt_f, n_eq_t, n_eq_f, n_sub, nI_add, n_mul, n_01, ↓reduceIte, if_true, if_false, eq_self, true_or, or_true, and_self, and_true, true_and, Nat.reduceAdd, Nat.reduceMul, Nat.reduceLeDiff, Nat.zero_le, not_true_eq_false, not_false_eq_true, cat2_n, cat2_i, cat2_r, ws_0, ws_i, ws_r, ws_l, ws_d, aftr_n, aftr_s, bI_ok, bI_t, bI_f, up_s, up_n, n_bit, decide_true, decide_false, Bool.not_true, Bool.not_false, Bool.and_true, Bool.true_and, Bool.false_and, Bool.and_false, n_nlt0, n_neg_t, n_neg_f, k_0, k_566, k_567, k_568, k_569, k_570, k_571, k_572, k_573, k_574, k_575, k_576, hk, h7, m1]
    refine c199 hk h7 hW.2 h (by omega) (by omega) (fun v hv => by have := hu v hv; omega) (fun I1 g1 g2 => ?_)
    simp (disch := omega) only [v200_1, v200_2, v200_3, v200_4, v200_6, v200_7, v200_10, v200_11, v200_12, v200_14, u200_15, v200_18, v200_19, v200_20, v200_21, v200_22, v200_23, v200_25, v200_26, v200_27, v200_28, v200_31, v200_32, v200_33, v200_34, u200_35, v200_38, v200_39, v200_40, v200_41, v200_42, Nat.add_zero, n_cl, n_in_t, n_lt_t, n_lt_f, n_eq_t, n_eq_f, n_sub, nI_add, n_mul, n_01, ↓reduceIte, if_true, if_false, eq_self, true_or, or_true, and_self, and_true, true_and, Nat.reduceAdd, Nat.reduceMul, Nat.reduceLeDiff, Nat.zero_le, not_true_eq_false, not_false_eq_true, cat2_n, cat2_i, cat2_r, ws_0, ws_i, ws_r, ws_l, ws_d, aftr_n, aftr_s, bI_ok, bI_t, bI_f, up_s, up_n, n_bit, decide_true, decide_false, Bool.not_true, Bool.not_false, Bool.and_true, Bool.true_and, Bool.false_and, Bool.and_false, n_nlt0, n_neg_t, n_neg_f, k_0, k_566, k_567, k_568, k_569, k_570, k_571, k_572, k_573, k_574, k_575, k_576, hk]
    have g3 : LYs b (up2 I1 (ad b t) 1 (nI 0)) t (plc W l u p).1 (some (plc W l u p).2) := by
      have e : p ≤ W := by omega
      unfold plc plN plU
      rw [if_pos e, if_pos e]
      refine LYs.ag (P := fun o j => o = t ∧ j = 1) ?_ (Ag.rf.up ⟨rfl, rfl⟩) (fun j h2 h4 x => by omega)
      cases u with
      | none => exact g1
      | some v => dsimp only at g1 ⊢; split <;> next e2 => (first | rw [if_pos e2, if_pos e2] at g1 | rw [if_neg e2, if_neg e2] at g1); exact g1
    exact hQ _ g3 up_s ((g2.mn pL_p).up ⟨rfl, by omega, by omega⟩)
  | succ n ih =>
    intro p l u I hp hp2 hu h7 m1 h hQ
    by_cases e : p ≤ W
    · rw [v200_0]
      simp (disch := omega) only [v200_1, v200_2, v200_3, v200_4, v200_6, v200_7, v200_10, v200_11, v200_12, v200_14, u200_15, v200_18, v200_19, v200_20, v200_21, v200_22, v200_23, v200_25, v200_26, v200_27, v200_28, v200_31, v200_32, v200_33, v200_34, u200_35, v200_38, v200_39, v200_40, v200_41, v200_42, Nat.add_zero, n_cl, n_in_t, n_lt_t, n_lt_f, n_eq_t, n_eq_f, n_sub, nI_add, n_mul, n_01, ↓reduceIte, if_true, if_false, eq_self, true_or, or_true, and_self, and_true, true_and, Nat.reduceAdd, Nat.reduceMul, Nat.reduceLeDiff, Nat.zero_le, not_true_eq_false, not_false_eq_true, cat2_n, cat2_i, cat2_r, ws_0, ws_i, ws_r, ws_l, ws_d, aftr_n, aftr_s, bI_ok, bI_t, bI_f, up_s, up_n, n_bit, decide_true, decide_false, Bool.not_true, Bool.not_false, Bool.and_true, Bool.true_and, Bool.false_and, Bool.and_false, n_nlt0, n_neg_t, n_neg_f, k_0, k_566, k_567, k_568, k_569, k_570, k_571, k_572, k_573, k_574, k_575, k_576, hk, h7, m1]
      refine c199 hk h7 hW.2 h (by omega) (by omega) (fun v hv => by have := hu v hv; omega) (fun I1 g1 g2 => ?_)
      simp (disch := omega) only [v200_1, v200_2, v200_3, v200_4, v200_6, v200_7, v200_10, v200_11, v200_12, v200_14, u200_15, v200_18, v200_19, v200_20, v200_21, v200_22, v200_23, v200_25, v200_26, v200_27, v200_28, v200_31, v200_32, v200_33, v200_34, u200_35, v200_38, v200_39, v200_40, v200_41, v200_42, Nat.add_zero, n_cl, n_in_t, n_lt_t, n_lt_f, n_eq_t, n_eq_f, n_sub, nI_add, n_mul, n_01, ↓reduceIte, if_true, if_false, eq_self, true_or, or_true, and_self, and_true, true_and, Nat.reduceAdd, Nat.reduceMul, Nat.reduceLeDiff, Nat.zero_le, not_true_eq_false, not_false_eq_true, cat2_n, cat2_i, cat2_r, ws_0, ws_i, ws_r, ws_l, ws_d, aftr_n, aftr_s, bI_ok, bI_t, bI_f, up_s, up_n, n_bit, decide_true, decide_false, Bool.not_true, Bool.not_false, Bool.and_true, Bool.true_and, Bool.false_and, Bool.and_false, n_nlt0, n_neg_t, n_neg_f, k_0, k_566, k_567, k_568, k_569, k_570, k_571, k_572, k_573, k_574, k_575, k_576, hk]
      have g3 : LYs b (up2 I1 (ad b t) 1 (nI 0)) t (plc W l u p).1 (some (plc W l u p).2) := by
        unfold plc plN plU
        rw [if_pos e, if_pos e]
        refine LYs.ag (P := fun o j => o = t ∧ j = 1) ?_ (Ag.rf.up ⟨rfl, rfl⟩) (fun j h2 h4 x => by omega)
        cases u with
        | none => exact g1
        | some v => dsimp only at g1 ⊢; split <;> next e2 => (first | rw [if_pos e2, if_pos e2] at g1 | rw [if_neg e2, if_neg e2] at g1); exact g1
      exact hQ _ g3 up_s ((g2.mn pL_p).up ⟨rfl, by omega, by omega⟩)
    · rw [v200_0]
      simp (disch := omega) only [v200_1, v200_2, v200_3, v200_4, v200_6, v200_7, v200_10, v200_11, v200_12, v200_14, u200_15, v200_18, v200_19, v200_20, v200_21, v200_22, v200_23, v200_25, v200_26, v200_27, v200_31, v200_32, v200_33, v200_34, u200_35, v200_38, v200_39, v200_40, v200_41, v200_42, Nat.add_zero, n_cl, n_in_t, n_lt_t, n_lt_f, n_eq_t, n_eq_f, n_sub, nI_add, n_mul, n_01, ↓reduceIte, if_true, if_false, eq_self, true_or, or_true, and_self, and_true, true_and, Nat.reduceAdd, Nat.reduceMul, Nat.reduceLeDiff, Nat.zero_le, not_true_eq_false, not_false_eq_true, cat2_n, cat2_i, cat2_r, ws_0, ws_i, ws_r, ws_l, ws_d, aftr_n, aftr_s, bI_ok, bI_t, bI_f, up_s, up_n, n_bit, decide_true, decide_false, Bool.not_true, Bool.not_false, Bool.and_true, Bool.true_and, Bool.false_and, Bool.and_false, n_nlt0, n_neg_t, n_neg_f, k_0, k_566, k_567, k_568, k_569, k_570, k_571, k_572, k_573, k_574, k_575, k_576, hk, h7, m1]
      refine c199 hk h7 hW.2 h (by omega) (by omega) (fun v hv => by have := hu v hv; omega) (fun I1 g1 g2 => ?_)
      have n7 : I1 (ad b t) 7 = nI W := (g2.at (fun x => by unfold pL at x; omega)).trans h7
      have n1 : I1 (ad b t) 1 = nI p := (g2.at (fun x => by unfold pL at x; omega)).trans m1
      simp (disch := omega) only [v200_1, v200_2, v200_3, v200_4, v200_6, v200_7, v200_10, v200_11, v200_12, v200_14, u200_15, v200_18, v200_19, v200_20, v200_21, v200_22, v200_23, v200_25, v200_26, v200_27, v200_31, v200_32, v200_33, v200_34, u200_35, v200_38, v200_39, v200_40, v200_41, v200_42, Nat.add_zero, n_cl, n_in_t, n_lt_t, n_lt_f, n_eq_t, n_eq_f, n_sub, nI_add, n_mul, n_01, ↓reduceIte, if_true, if_false, eq_self, true_or, or_true, and_self, and_true, true_and, Nat.reduceAdd, Nat.reduceMul, Nat.reduceLeDiff, Nat.zero_le, not_true_eq_false, not_false_eq_true, cat2_n, cat2_i, cat2_r, ws_0, ws_i, ws_r, ws_l, ws_d, aftr_n, aftr_s, bI_ok, bI_t, bI_f, up_s, up_n, n_bit, decide_true, decide_false, Bool.not_true, Bool.not_false, Bool.and_true, Bool.true_and, Bool.false_and, Bool.and_false, n_nlt0, n_neg_t, n_neg_f, k_0, k_566, k_567, k_568, k_569, k_570, k_571, k_572, k_573, k_574, k_575, k_576, hk, n7, n1]
      rw [v200_28]
      have st := pl_step hW.1 (show W < p by omega)
      have g3 : LYs b I1 t (l + 1) (some W) := by
        cases u with
        | none => exact g1
        | some v => dsimp only at g1; rw [if_neg (by omega), if_neg (by omega)] at g1; exact g1
      have e3 : plc W l u p = plc W (l + 1) (some W) (p - W) := by
        have : plc W (l + 1) (some W) (p - W) = (l + 1 + plN W (p - W), plU W (p - W)) := by show (if _ then _ else _) = _; rw [if_neg (by omega)]
        rw [this]
        have h5 : plc W l u p = (l + plN W p, plU W p) := by
          cases u with
          | none => rfl
          | some v => show (if _ then _ else _) = _; rw [if_neg (by omega)]
        rw [h5, st.1, st.2, Nat.add_assoc]
      rw [e3] at hQ
      have a1 : Ag (pP1 t) b I (up2 I1 (ad b t) 1 (nI (p - W))) := (g2.mn pL_p).up ⟨rfl, by omega, by omega⟩
      refine ih (p - W) (l + 1) (some W) _ (by omega) (by omega) (fun v hv => by cases hv; omega) (by rw [up_n (by omega)]; exact n7) up_s (g3.ag (P := fun o j => o = t ∧ j = 1) (Ag.rf.up ⟨rfl, rfl⟩) (fun j h2 h4 x => by omega)) (fun I2 g4 g5 g6 => hQ I2 g4 g5 (a1.tr g6))
theorem c201 {l pt pg Hh : Nat} (hk : KAt KL b (ad b t) = (20, 10)) (hH : 1 ≤ Hh ∧ Hh ≤ 20) (m4 : I (ad b t) 4 = nI l) (m5 : I (ad b t) 5 = nI pt) (m6 : I (ad b t) 6 = nI pg) (m8 : I (ad b t) 8 = nI Hh) (hl : l ≤ 10000) (hpt : pt ≤ l) (hpg : pg ≤ 10000) (hQ : ∀ I', I' (ad b t) 5 = nI l → I' (ad b t) 6 = nI (pg + pgs Hh (l - pt)) → Ag (fun o j => o = t ∧ (j = 5 ∨ j = 6)) b I I' → Q (.inl none) (KAt KL b, I', RAt RL b q, L, sz, ex)) : X z 201 0 [some (.ref (ad b t)), none] [] (0, 0) (KAt KL b, I, RAt RL b q, L, sz, ex) Q := by
  have dv : nI (l - pt) / nI Hh = nI ((l - pt) / Hh) := n_div (by omega) (by omega)
  have rm : nI (l - pt) - nI ((l - pt) / Hh) * nI Hh = nI ((l - pt) % Hh) := by rw [← dv]; exact n_rem (by omega) (by omega)
  have ml := Nat.mod_lt (l - pt) (show 0 < Hh by omega)
  rw [n_mul] at rm
  have pd := pgs_dm (n := l - pt) hH.1
  by_cases e : (l - pt) % Hh = 0
  · rw [if_pos e] at pd
    rw [e] at rm
    simp (disch := omega) only [v201_0, v201_1, v201_2, v201_3, v201_4, v201_5, v201_6, v201_7, v201_8, v201_9, v201_11, v201_12, v201_13, v201_14, v201_15, v201_17, v201_18, v201_19, v201_20, v201_21, v201_23, v201_24, v201_25, v201_28, v201_29, v201_32, v201_33, v201_34, v201_35, v201_36, v201_37, v201_38, v201_39, v201_40, v201_41, v201_42, ↓rm, Nat.add_zero, n_cl, n_in_t, n_lt_t, n_lt_f, n_eq_t, n_eq_f, n_sub, nI_add, n_mul, n_01, ↓reduceIte, if_true, if_false, eq_self, true_or, or_true, and_self, and_true, true_and, Nat.reduceAdd, Nat.reduceMul, Nat.reduceLeDiff, Nat.zero_le, not_true_eq_false, not_false_eq_true, cat2_n, cat2_i, cat2_r, ws_0, ws_i, ws_r, ws_l, ws_d, aftr_n, aftr_s, bI_ok, bI_t, bI_f, up_s, up_n, n_bit, decide_true, decide_false, Bool.not_true, Bool.not_false, Bool.and_true, Bool.true_and, Bool.false_and, Bool.and_false, n_nlt0, n_neg_t, n_neg_f, k_0, k_566, k_567, k_568, k_569, k_570, k_571, k_572, k_573, k_574, k_575, k_576, hk, m4, m5, m6, m8, n_z, dv]
    refine hQ _ up_s (by rw [up_n (by omega), up_s, ← pd, Nat.add_zero]) ((Ag.rf.up ⟨rfl, Or.inr rfl⟩).up ⟨rfl, Or.inl rfl⟩)
  · rw [if_neg e] at pd
    generalize (l - pt) % Hh = k at e ml rm
    simp (disch := omega) only [v201_0, v201_1, v201_2, v201_3, v201_4, v201_5, v201_6, v201_7, v201_8, v201_9, v201_11, v201_12, v201_13, v201_14, v201_15, v201_17, v201_18, v201_19, v201_20, v201_21, v201_23, v201_24, v201_25, v201_28, v201_29, v201_32, v201_33, v201_34, v201_35, v201_36, v201_37, v201_38, v201_39, v201_40, v201_41, v201_42, ↓rm, Nat.add_zero, n_cl, n_in_t, n_lt_t, n_lt_f, n_eq_t, n_eq_f, n_sub, nI_add, n_mul, n_01, ↓reduceIte, if_true, if_false, eq_self, true_or, or_true, and_self, and_true, true_and, Nat.reduceAdd, Nat.reduceMul, Nat.reduceLeDiff, Nat.zero_le, not_true_eq_false, not_false_eq_true, cat2_n, cat2_i, cat2_r, ws_0, ws_i, ws_r, ws_l, ws_d, aftr_n, aftr_s, bI_ok, bI_t, bI_f, up_s, up_n, n_bit, decide_true, decide_false, Bool.not_true, Bool.not_false, Bool.and_true, Bool.true_and, Bool.false_and, Bool.and_false, n_nlt0, n_neg_t, n_neg_f, k_0, k_566, k_567, k_568, k_569, k_570, k_571, k_572, k_573, k_574, k_575, k_576, hk, m4, m5, m6, m8, n_z, dv]
    refine hQ _ up_s (by rw [up_n (by omega), up_s, ← pd]) ((Ag.rf.up ⟨rfl, Or.inr rfl⟩).up ⟨rfl, Or.inl rfl⟩)
end LA
