/-! THE LAW: its cases -/
theorem int_n (v : Int32) : ∃ a, a < 4294967296 ∧ v = nI a := ⟨v.toBitVec.toNat, v.toBitVec.isLt, Int32.toBitVec_inj.mp (by rw [nI_bv, BitVec.ofNat_toNat, BitVec.setWidth_eq])⟩
theorem lg_self {v : Int64} : lg_cmp v v = nI 0 := by
  unfold lg_cmp
  simp
  rfl
section LO
variable {z : P0} {KL : Nat → Nat × Nat} {RL : Nat → Nat → Option Nat} {q : Nat → Nat} {b : Nat} {I : Nat → Nat → Int32} {L : Nat → Nat → Int64} {sz : Nat} {ex : Bool} {Q : Res → Mem → Prop} {A : Row}
variable {n : Nat} {H : Nat → Row} {B : List Nat}
theorem c105 {t : Nat} (h : I (ad b 566) 5 = nI t) : X z 105 0 [some (.ref (ad b 566))] [] (0, 0) (KAt KL b, I, RAt RL b q, L, sz, ex) Q = Q (.inl (some (.int (nI t)))) (KAt KL b, I, RAt RL b q, L, sz, ex) := by
  simp (disch := omega) only [v105_0, v105_1, v105_4, k_566, k_567, k_568, k_569, k_570, k_571, k_572, k_573, k_574, k_575, k_576, r_566_0, r_566_2, r_566_4, r_566_6, r_566_7, r_566_8, r_566_9, r_566_10, r_566_11, r_566_13, va_rf_s, n_cl, n_in_t, n_lt_t, n_lt_f, n_eq_t, n_eq_f, n_sub, nI_add, n_mul, ↓reduceIte, if_true, if_false, eq_self, true_or, or_true, and_self, and_true, true_and, Nat.reduceAdd, Nat.reduceMul, Nat.reduceLeDiff, Nat.zero_le, not_true_eq_false, not_false_eq_true, cat2_n, cat2_i, cat2_r, ws_0, ws_i, ws_r, ws_l, ws_d, aftr_n, aftr_s, bI_ok, bI_t, bI_f, up_s, up_n, n_bit, decide_true, decide_false, Bool.not_true, Bool.not_false, Bool.and_true, Bool.true_and, Bool.false_and, Bool.and_false, h]
/-- the script -/
def SCR (KL : Nat → Nat × Nat) (b : Nat) (y len i : Nat) : Prop := y < b ∧ KL y = (50, len) ∧ len < 2147483648 ∧ i + 4 ≤ len
def NX (Q : Res → Mem → Prop) (KL : Nat → Nat × Nat) (RL : Nat → Nat → Option Nat) (z : P0) (b : Nat) (I : Nat → Nat → Int32) (sz y i cc cn : Nat) (w : Wd) : Prop := ∀ I' q' L' ex' x5 x6 x7 x8 c' n', c' ≤ cc + 1 → n' ≤ cn + 6 → WD KL RL z b I' q' w → (∀ a, a < b → I' a = I a) → X z 214 1598 [some (.ref y), some (.ref (ad b 0)), some (.ref (ad b 566)), some (.ref (ad b 577)), some (.int (nI i)), x5, x6, x7, x8] [] (c', n') (KAt KL b, I', RAt RL b q', L', sz, ex') Q
end LO
