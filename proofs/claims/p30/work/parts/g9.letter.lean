/-! THE LAW: a letter is typed in -/
theorem leW_app : ∀ (r s : List Nat) (w : Nat), leW w (r ++ s) = leW (leW w r) s
  | [], _, _ => rfl
  | c :: r, s, w => leW_app r s (nxt w c)
theorem tkw_c {w c : Nat} {r : List Nat} : tkw w (c :: r) = if w = 3 ∨ w = 5 then (256 + c) :: tkw (nxt w c) r else if w = 4 ∨ w = 6 ∨ c = 60 then tkw (nxt w c) r else c :: tkw (nxt w c) r := rfl
theorem tkw_app : ∀ (r s : List Nat) (w : Nat), tkw w (r ++ s) = tkw w r ++ tkw (leW w r) s
  | [], s, w => by
    show tkw w s = tkw w [] ++ tkw w s
    have : tkw w [] = [] := rfl
    rw [this, List.nil_append]
  | c :: r, s, w => by
    have h := tkw_app r s (nxt w c)
    have e : leW w (c :: r) = leW (nxt w c) r := rfl
    rw [List.cons_append, e, tkw_c, tkw_c]
    split
    · rw [h, List.cons_append]
    · split
      · exact h
      · rw [h, List.cons_append]
/-- where reading stands: a joint part is begun (j), it holds i items -/
def rdW (j : Bool) (i : Nat) : Nat := if j = true then (if i = 0 then 1 else 2) else 0
def okC (j : Bool) (i c : Nat) : Prop := (plnB c = true ∧ c < 127) ∨ (c = 355 ∨ c = 359 ∨ c = 366 ∨ c = 375) ∨ (c = 123 ∧ j = false) ∨ (c = 125 ∧ j = true ∧ 0 < i)
theorem plnB_n {c : Nat} (h : plnB c = true) : c ≠ 60 ∧ c ≠ 123 ∧ c ≠ 125 ∧ 33 ≤ c := by
  unfold plnB letB at h
  simp only [Bool.or_eq_true, beq_iff_eq, decide_eq_true_eq] at h
  omega
theorem okC_step {j : Bool} {i c : Nat} (h : okC j i c) : leW (rdW j i) (exT c) = rdW (c == 123 || (j && !(c == 125))) (if c = 123 then 0 else i + 1) ∧ tkw (rdW j i) (exT c) = [c] := by
  rcases h with ⟨h1, h2⟩ | h | ⟨rfl, rfl⟩ | ⟨rfl, rfl, hi⟩
  · have pn := plnB_n h1
    have e1 : (c == 123) = false := beq_eq_false_iff_ne.mpr pn.2.1
    have e2 : (c == 125) = false := beq_eq_false_iff_ne.mpr pn.2.2.1
    have ex : exT c = [c] := by unfold exT; rw [if_pos (by omega)]
    rw [e1, e2, ex, if_neg pn.2.1]
    have n0 : nxt 0 c = 0 := by
      have e : nxt 0 c = if c = 123 then 1 else if c = 60 then 3 else if plnB c = true then 0 else 7 := rfl
      rw [e, if_neg pn.2.1, if_neg pn.1, if_pos h1]
    have n1 : nxt 1 c = 2 := by
      have e : nxt 1 c = if c = 60 then 5 else if plnB c = true then 2 else 7 := rfl
      rw [e, if_neg pn.1, if_pos h1]
    have n2 : nxt 2 c = 2 := by
      have e : nxt 2 c = if c = 125 then 0 else if c = 60 then 5 else if plnB c = true then 2 else 7 := rfl
      rw [e, if_neg pn.2.2.1, if_neg pn.1, if_pos h1]
    have t : ∀ w, w < 3 → tkw w [c] = [c] := fun w hw => by
      show (if w = 3 ∨ w = 5 then _ else if w = 4 ∨ w = 6 ∨ c = 60 then _ else c :: tkw (nxt w c) []) = _
      rw [if_neg (by omega), if_neg (by omega)]
      rfl
    cases j with
    | false =>
      refine ⟨?_, t 0 (by omega)⟩
      show nxt 0 c = 0
      exact n0
    | true =>
      refine ⟨?_, t _ (by unfold rdW; split <;> (try split) <;> omega)⟩
      show nxt (if i = 0 then 1 else 2) c = (if i + 1 = 0 then 1 else 2)
      rw [if_neg (show ¬ i + 1 = 0 by omega)]
      split
      · exact n1
      · exact n2
  · have e1 : (c == 123) = false := beq_eq_false_iff_ne.mpr (by omega)
    have e2 : (c == 125) = false := beq_eq_false_iff_ne.mpr (by omega)
    rw [e1, e2, if_neg (by omega)]
    cases j with
    | false =>
      show leW 0 (exT c) = 0 ∧ tkw 0 (exT c) = [c]
      rcases h with rfl | rfl | rfl | rfl <;> exact ⟨by decide, by decide⟩
    | true =>
      have key : rdW true (i + 1) = 2 := by unfold rdW; rw [if_pos rfl, if_neg (by omega)]
      show leW (rdW true i) (exT c) = rdW true (i + 1) ∧ tkw (rdW true i) (exT c) = [c]
      rw [key]
      have k2 : rdW true i = 1 ∨ rdW true i = 2 := by unfold rdW; rw [if_pos rfl]; split <;> omega
      rcases k2 with k2 | k2 <;> rw [k2] <;> (rcases h with rfl | rfl | rfl | rfl <;> exact ⟨by decide, by decide⟩)
  · rw [if_pos rfl]
    show leW 0 (exT 123) = 1 ∧ tkw 0 (exT 123) = [123]
    exact ⟨by decide, by decide⟩
  · have k2 : rdW true i = 2 := by unfold rdW; rw [if_pos rfl, if_neg (by omega)]
    rw [k2, if_neg (by omega)]
    refine ⟨?_, by decide⟩
    show leW 2 [125] = 0
    decide
def pLt (o j : Nat) : Prop := pCls o j ∨ o = 575
/-- the items are written down -/
def IT (b : Nat) (I : Nat → Nat → Int32) (T : List Nat) : Prop := ∀ k, k < T.length → I (ad b 575) k = nI (T.getD k 0)
section LI
variable {z : P0} {KL : Nat → Nat × Nat} {RL : Nat → Nat → Option Nat} {q : Nat → Nat} {b : Nat} {I : Nat → Nat → Int32} {L : Nat → Nat → Int64} {sz : Nat} {ex : Bool} {Q : Res → Mem → Prop} {A : Row}
variable {n : Nat} {H : Nat → Row} {B T : List Nat}
theorem IT.ag {P : Nat → Nat → Prop} {I' : Nat → Nat → Int32} (h : IT b I T) (hg : Ag P b I I') (hP : ∀ j, ¬ P 575 j) : IT b I' T := fun k hk => (hg.at (hP k)).trans (h k hk)
theorem IT.snoc {c : Nat} (h : IT b I T) : IT b (up2 I (ad b 575) T.length (nI c)) (T ++ [c]) := fun k hk => by
  rw [List.length_append, List.length_singleton] at hk
  rw [getD_snoc]
  by_cases e : k < T.length
  · rw [if_pos e, up_n (by omega)]; exact h k e
  · rw [if_neg e, show k = T.length by omega, up_s, if_pos rfl]
theorem pCls_lt : ∀ o j, pCls o j → pLt o j := fun o j h => Or.inl h
theorem pCls_5 : ∀ j, ¬ pCls 575 j := fun j h => by unfold pCls at h; omega
set_option maxHeartbeats 4000000 in
/-- which item comes -/
theorem l197a {x y : Int32} {i k s a cc cn : Nat} {j : Bool} {T : List Nat} (hi : i < 1000) (ha : a < 16) (hk : k < 32) (hc : cc ≤ 60) (hn : cn ≤ 360) {x10 : Option Value} (hQ : ∀ c, okC j i c → c < 400 → X z 197 212 [some (.ref (ad b 0)), some (.int x), some (.int y), some (.ref (ad b 575)), some (.int (nI T.length)), some (.int (bI j)), some (.int (nI i)), some (.int (nI s)), some (.int (nI k)), some (.int (nI a)), x10] [.int (nI c)] (cc, cn) (KAt KL b, I, RAt RL b q, L, sz, ex) Q) :
    X z 197 45 [some (.ref (ad b 0)), some (.int x), some (.int y), some (.ref (ad b 575)), some (.int (nI T.length)), some (.int (bI j)), some (.int (nI i)), some (.int (nI s)), some (.int (nI k)), some (.int (nI a)), x10] [] (cc, cn) (KAt KL b, I, RAt RL b q, L, sz, ex) Q := by
  have q95 := hQ 95 (Or.inl ⟨by decide, by omega⟩) (by omega)
  by_cases e1 : a < 4
  · simp (disch := omega) only [v197_45, v197_47, v197_48, v197_51, v197_53, v197_56, v197_58, v197_60, v197_63, v197_65, v197_66, v197_68, v197_69, u197_71, v197_74, v197_75, v197_78, v197_80, v197_82, v197_85, v197_87, v197_90, v197_92, v197_94, v197_97, v197_99, v197_102, v197_104, v197_106, v197_109, v197_111, v197_114, v197_116, v197_118, v197_121, v197_123, v197_126, v197_128, v197_130, v197_133, v197_136, v197_138, v197_140, v197_143, v197_145, v197_148, v197_150, v197_152, v197_155, v197_157, v197_160, v197_162, v197_164, v197_167, v197_169, v197_172, v197_174, v197_175, v197_178, v197_180, v197_182, v197_185, v197_187, v197_190, v197_192, v197_195, v197_197, v197_200, v197_202, v197_205, v197_207, v197_210, Nat.add_zero, n_cl, n_in_t, n_lt_t, n_lt_f, n_eq_t, n_eq_f, n_sub, nI_add, n_mul, n_01, ↓reduceIte, if_true, if_false, eq_self, true_or, or_true, and_self, and_true, true_and, Nat.reduceAdd, Nat.reduceMul, Nat.reduceLeDiff, Nat.zero_le, not_true_eq_false, not_false_eq_true, cat2_n, cat2_i, cat2_r, ws_0, ws_i, ws_r, ws_l, ws_d, aftr_n, aftr_s, bI_ok, bI_t, bI_f, up_s, up_n, n_bit, decide_true, decide_false, Bool.not_true, Bool.not_false, Bool.and_true, Bool.true_and, Bool.false_and, Bool.and_false, n_nlt0, n_neg_t, n_neg_f, k_0, k_566, k_567, k_568, k_569, k_570, k_571, k_572, k_573, k_574, k_575, k_576]
    exact q95
  by_cases e2 : a < 6
  · have al := atN_lt (v := x >>> (nI k &&& 31)) (show 0 < 20 by omega)
    have := hQ (98 + atN (x >>> (nI k &&& 31)) 20) (Or.inl ⟨by unfold plnB letB; rw [decide_eq_true (by omega)]; rfl, by omega⟩) (by omega)
    simp (disch := omega) only [v197_45, v197_47, v197_48, v197_51, v197_53, v197_56, v197_58, v197_60, v197_63, v197_65, v197_66, v197_68, v197_69, u197_71, v197_74, v197_75, v197_78, v197_80, v197_82, v197_85, v197_87, v197_90, v197_92, v197_94, v197_97, v197_99, v197_102, v197_104, v197_106, v197_109, v197_111, v197_114, v197_116, v197_118, v197_121, v197_123, v197_126, v197_128, v197_130, v197_133, v197_136, v197_138, v197_140, v197_143, v197_145, v197_148, v197_150, v197_152, v197_155, v197_157, v197_160, v197_162, v197_164, v197_167, v197_169, v197_172, v197_174, v197_175, v197_178, v197_180, v197_182, v197_185, v197_187, v197_190, v197_192, v197_195, v197_197, v197_200, v197_202, v197_205, v197_207, v197_210, Nat.add_zero, n_cl, n_in_t, n_lt_t, n_lt_f, n_eq_t, n_eq_f, n_sub, nI_add, n_mul, n_01, ↓reduceIte, if_true, if_false, eq_self, true_or, or_true, and_self, and_true, true_and, Nat.reduceAdd, Nat.reduceMul, Nat.reduceLeDiff, Nat.zero_le, not_true_eq_false, not_false_eq_true, cat2_n, cat2_i, cat2_r, ws_0, ws_i, ws_r, ws_l, ws_d, aftr_n, aftr_s, bI_ok, bI_t, bI_f, up_s, up_n, n_bit, decide_true, decide_false, Bool.not_true, Bool.not_false, Bool.and_true, Bool.true_and, Bool.false_and, Bool.and_false, n_nlt0, n_neg_t, n_neg_f, k_0, k_566, k_567, k_568, k_569, k_570, k_571, k_572, k_573, k_574, k_575, k_576, leq_t, c193v]
    exact this
  rcases (show a = 6 ∨ a = 7 ∨ a = 8 ∨ a = 9 ∨ a = 10 ∨ a = 11 ∨ a = 12 ∨ a = 13 ∨ a = 14 ∨ a = 15 by omega) with rfl | rfl | rfl | rfl | rfl | rfl | rfl | rfl | rfl | rfl
  · have := hQ 47 (Or.inl ⟨by decide, by omega⟩) (by omega)
    simp (disch := omega) only [v197_45, v197_47, v197_48, v197_51, v197_53, v197_56, v197_58, v197_60, v197_63, v197_65, v197_66, v197_68, v197_69, u197_71, v197_74, v197_75, v197_78, v197_80, v197_82, v197_85, v197_87, v197_90, v197_92, v197_94, v197_97, v197_99, v197_102, v197_104, v197_106, v197_109, v197_111, v197_114, v197_116, v197_118, v197_121, v197_123, v197_126, v197_128, v197_130, v197_133, v197_136, v197_138, v197_140, v197_143, v197_145, v197_148, v197_150, v197_152, v197_155, v197_157, v197_160, v197_162, v197_164, v197_167, v197_169, v197_172, v197_174, v197_175, v197_178, v197_180, v197_182, v197_185, v197_187, v197_190, v197_192, v197_195, v197_197, v197_200, v197_202, v197_205, v197_207, v197_210, Nat.add_zero, n_cl, n_in_t, n_lt_t, n_lt_f, n_eq_t, n_eq_f, n_sub, nI_add, n_mul, n_01, ↓reduceIte, if_true, if_false, eq_self, true_or, or_true, and_self, and_true, true_and, Nat.reduceAdd, Nat.reduceMul, Nat.reduceLeDiff, Nat.zero_le, not_true_eq_false, not_false_eq_true, cat2_n, cat2_i, cat2_r, ws_0, ws_i, ws_r, ws_l, ws_d, aftr_n, aftr_s, bI_ok, bI_t, bI_f, up_s, up_n, n_bit, decide_true, decide_false, Bool.not_true, Bool.not_false, Bool.and_true, Bool.true_and, Bool.false_and, Bool.and_false, n_nlt0, n_neg_t, n_neg_f, k_0, k_566, k_567, k_568, k_569, k_570, k_571, k_572, k_573, k_574, k_575, k_576]
    exact this
  · have := hQ 124 (Or.inl ⟨by decide, by omega⟩) (by omega)
    simp (disch := omega) only [v197_45, v197_47, v197_48, v197_51, v197_53, v197_56, v197_58, v197_60, v197_63, v197_65, v197_66, v197_68, v197_69, u197_71, v197_74, v197_75, v197_78, v197_80, v197_82, v197_85, v197_87, v197_90, v197_92, v197_94, v197_97, v197_99, v197_102, v197_104, v197_106, v197_109, v197_111, v197_114, v197_116, v197_118, v197_121, v197_123, v197_126, v197_128, v197_130, v197_133, v197_136, v197_138, v197_140, v197_143, v197_145, v197_148, v197_150, v197_152, v197_155, v197_157, v197_160, v197_162, v197_164, v197_167, v197_169, v197_172, v197_174, v197_175, v197_178, v197_180, v197_182, v197_185, v197_187, v197_190, v197_192, v197_195, v197_197, v197_200, v197_202, v197_205, v197_207, v197_210, Nat.add_zero, n_cl, n_in_t, n_lt_t, n_lt_f, n_eq_t, n_eq_f, n_sub, nI_add, n_mul, n_01, ↓reduceIte, if_true, if_false, eq_self, true_or, or_true, and_self, and_true, true_and, Nat.reduceAdd, Nat.reduceMul, Nat.reduceLeDiff, Nat.zero_le, not_true_eq_false, not_false_eq_true, cat2_n, cat2_i, cat2_r, ws_0, ws_i, ws_r, ws_l, ws_d, aftr_n, aftr_s, bI_ok, bI_t, bI_f, up_s, up_n, n_bit, decide_true, decide_false, Bool.not_true, Bool.not_false, Bool.and_true, Bool.true_and, Bool.false_and, Bool.and_false, n_nlt0, n_neg_t, n_neg_f, k_0, k_566, k_567, k_568, k_569, k_570, k_571, k_572, k_573, k_574, k_575, k_576]
    exact this
  · have := hQ 44 (Or.inl ⟨by decide, by omega⟩) (by omega)
    simp (disch := omega) only [v197_45, v197_47, v197_48, v197_51, v197_53, v197_56, v197_58, v197_60, v197_63, v197_65, v197_66, v197_68, v197_69, u197_71, v197_74, v197_75, v197_78, v197_80, v197_82, v197_85, v197_87, v197_90, v197_92, v197_94, v197_97, v197_99, v197_102, v197_104, v197_106, v197_109, v197_111, v197_114, v197_116, v197_118, v197_121, v197_123, v197_126, v197_128, v197_130, v197_133, v197_136, v197_138, v197_140, v197_143, v197_145, v197_148, v197_150, v197_152, v197_155, v197_157, v197_160, v197_162, v197_164, v197_167, v197_169, v197_172, v197_174, v197_175, v197_178, v197_180, v197_182, v197_185, v197_187, v197_190, v197_192, v197_195, v197_197, v197_200, v197_202, v197_205, v197_207, v197_210, Nat.add_zero, n_cl, n_in_t, n_lt_t, n_lt_f, n_eq_t, n_eq_f, n_sub, nI_add, n_mul, n_01, ↓reduceIte, if_true, if_false, eq_self, true_or, or_true, and_self, and_true, true_and, Nat.reduceAdd, Nat.reduceMul, Nat.reduceLeDiff, Nat.zero_le, not_true_eq_false, not_false_eq_true, cat2_n, cat2_i, cat2_r, ws_0, ws_i, ws_r, ws_l, ws_d, aftr_n, aftr_s, bI_ok, bI_t, bI_f, up_s, up_n, n_bit, decide_true, decide_false, Bool.not_true, Bool.not_false, Bool.and_true, Bool.true_and, Bool.false_and, Bool.and_false, n_nlt0, n_neg_t, n_neg_f, k_0, k_566, k_567, k_568, k_569, k_570, k_571, k_572, k_573, k_574, k_575, k_576]
    exact this
  · have := hQ 46 (Or.inl ⟨by decide, by omega⟩) (by omega)
    simp (disch := omega) only [v197_45, v197_47, v197_48, v197_51, v197_53, v197_56, v197_58, v197_60, v197_63, v197_65, v197_66, v197_68, v197_69, u197_71, v197_74, v197_75, v197_78, v197_80, v197_82, v197_85, v197_87, v197_90, v197_92, v197_94, v197_97, v197_99, v197_102, v197_104, v197_106, v197_109, v197_111, v197_114, v197_116, v197_118, v197_121, v197_123, v197_126, v197_128, v197_130, v197_133, v197_136, v197_138, v197_140, v197_143, v197_145, v197_148, v197_150, v197_152, v197_155, v197_157, v197_160, v197_162, v197_164, v197_167, v197_169, v197_172, v197_174, v197_175, v197_178, v197_180, v197_182, v197_185, v197_187, v197_190, v197_192, v197_195, v197_197, v197_200, v197_202, v197_205, v197_207, v197_210, Nat.add_zero, n_cl, n_in_t, n_lt_t, n_lt_f, n_eq_t, n_eq_f, n_sub, nI_add, n_mul, n_01, ↓reduceIte, if_true, if_false, eq_self, true_or, or_true, and_self, and_true, true_and, Nat.reduceAdd, Nat.reduceMul, Nat.reduceLeDiff, Nat.zero_le, not_true_eq_false, not_false_eq_true, cat2_n, cat2_i, cat2_r, ws_0, ws_i, ws_r, ws_l, ws_d, aftr_n, aftr_s, bI_ok, bI_t, bI_f, up_s, up_n, n_bit, decide_true, decide_false, Bool.not_true, Bool.not_false, Bool.and_true, Bool.true_and, Bool.false_and, Bool.and_false, n_nlt0, n_neg_t, n_neg_f, k_0, k_566, k_567, k_568, k_569, k_570, k_571, k_572, k_573, k_574, k_575, k_576]
    exact this
  · have := hQ 366 (Or.inr (Or.inl (by omega))) (by omega)
    simp (disch := omega) only [v197_45, v197_47, v197_48, v197_51, v197_53, v197_56, v197_58, v197_60, v197_63, v197_65, v197_66, v197_68, v197_69, u197_71, v197_74, v197_75, v197_78, v197_80, v197_82, v197_85, v197_87, v197_90, v197_92, v197_94, v197_97, v197_99, v197_102, v197_104, v197_106, v197_109, v197_111, v197_114, v197_116, v197_118, v197_121, v197_123, v197_126, v197_128, v197_130, v197_133, v197_136, v197_138, v197_140, v197_143, v197_145, v197_148, v197_150, v197_152, v197_155, v197_157, v197_160, v197_162, v197_164, v197_167, v197_169, v197_172, v197_174, v197_175, v197_178, v197_180, v197_182, v197_185, v197_187, v197_190, v197_192, v197_195, v197_197, v197_200, v197_202, v197_205, v197_207, v197_210, Nat.add_zero, n_cl, n_in_t, n_lt_t, n_lt_f, n_eq_t, n_eq_f, n_sub, nI_add, n_mul, n_01, ↓reduceIte, if_true, if_false, eq_self, true_or, or_true, and_self, and_true, true_and, Nat.reduceAdd, Nat.reduceMul, Nat.reduceLeDiff, Nat.zero_le, not_true_eq_false, not_false_eq_true, cat2_n, cat2_i, cat2_r, ws_0, ws_i, ws_r, ws_l, ws_d, aftr_n, aftr_s, bI_ok, bI_t, bI_f, up_s, up_n, n_bit, decide_true, decide_false, Bool.not_true, Bool.not_false, Bool.and_true, Bool.true_and, Bool.false_and, Bool.and_false, n_nlt0, n_neg_t, n_neg_f, k_0, k_566, k_567, k_568, k_569, k_570, k_571, k_572, k_573, k_574, k_575, k_576]
    exact this
  · have := hQ 359 (Or.inr (Or.inl (by omega))) (by omega)
    simp (disch := omega) only [v197_45, v197_47, v197_48, v197_51, v197_53, v197_56, v197_58, v197_60, v197_63, v197_65, v197_66, v197_68, v197_69, u197_71, v197_74, v197_75, v197_78, v197_80, v197_82, v197_85, v197_87, v197_90, v197_92, v197_94, v197_97, v197_99, v197_102, v197_104, v197_106, v197_109, v197_111, v197_114, v197_116, v197_118, v197_121, v197_123, v197_126, v197_128, v197_130, v197_133, v197_136, v197_138, v197_140, v197_143, v197_145, v197_148, v197_150, v197_152, v197_155, v197_157, v197_160, v197_162, v197_164, v197_167, v197_169, v197_172, v197_174, v197_175, v197_178, v197_180, v197_182, v197_185, v197_187, v197_190, v197_192, v197_195, v197_197, v197_200, v197_202, v197_205, v197_207, v197_210, Nat.add_zero, n_cl, n_in_t, n_lt_t, n_lt_f, n_eq_t, n_eq_f, n_sub, nI_add, n_mul, n_01, ↓reduceIte, if_true, if_false, eq_self, true_or, or_true, and_self, and_true, true_and, Nat.reduceAdd, Nat.reduceMul, Nat.reduceLeDiff, Nat.zero_le, not_true_eq_false, not_false_eq_true, cat2_n, cat2_i, cat2_r, ws_0, ws_i, ws_r, ws_l, ws_d, aftr_n, aftr_s, bI_ok, bI_t, bI_f, up_s, up_n, n_bit, decide_true, decide_false, Bool.not_true, Bool.not_false, Bool.and_true, Bool.true_and, Bool.false_and, Bool.and_false, n_nlt0, n_neg_t, n_neg_f, k_0, k_566, k_567, k_568, k_569, k_570, k_571, k_572, k_573, k_574, k_575, k_576]
    exact this
  · have := hQ 375 (Or.inr (Or.inl (by omega))) (by omega)
    simp (disch := omega) only [v197_45, v197_47, v197_48, v197_51, v197_53, v197_56, v197_58, v197_60, v197_63, v197_65, v197_66, v197_68, v197_69, u197_71, v197_74, v197_75, v197_78, v197_80, v197_82, v197_85, v197_87, v197_90, v197_92, v197_94, v197_97, v197_99, v197_102, v197_104, v197_106, v197_109, v197_111, v197_114, v197_116, v197_118, v197_121, v197_123, v197_126, v197_128, v197_130, v197_133, v197_136, v197_138, v197_140, v197_143, v197_145, v197_148, v197_150, v197_152, v197_155, v197_157, v197_160, v197_162, v197_164, v197_167, v197_169, v197_172, v197_174, v197_175, v197_178, v197_180, v197_182, v197_185, v197_187, v197_190, v197_192, v197_195, v197_197, v197_200, v197_202, v197_205, v197_207, v197_210, Nat.add_zero, n_cl, n_in_t, n_lt_t, n_lt_f, n_eq_t, n_eq_f, n_sub, nI_add, n_mul, n_01, ↓reduceIte, if_true, if_false, eq_self, true_or, or_true, and_self, and_true, true_and, Nat.reduceAdd, Nat.reduceMul, Nat.reduceLeDiff, Nat.zero_le, not_true_eq_false, not_false_eq_true, cat2_n, cat2_i, cat2_r, ws_0, ws_i, ws_r, ws_l, ws_d, aftr_n, aftr_s, bI_ok, bI_t, bI_f, up_s, up_n, n_bit, decide_true, decide_false, Bool.not_true, Bool.not_false, Bool.and_true, Bool.true_and, Bool.false_and, Bool.and_false, n_nlt0, n_neg_t, n_neg_f, k_0, k_566, k_567, k_568, k_569, k_570, k_571, k_572, k_573, k_574, k_575, k_576]
    exact this
  · have := hQ 355 (Or.inr (Or.inl (by omega))) (by omega)
    simp (disch := omega) only [v197_45, v197_47, v197_48, v197_51, v197_53, v197_56, v197_58, v197_60, v197_63, v197_65, v197_66, v197_68, v197_69, u197_71, v197_74, v197_75, v197_78, v197_80, v197_82, v197_85, v197_87, v197_90, v197_92, v197_94, v197_97, v197_99, v197_102, v197_104, v197_106, v197_109, v197_111, v197_114, v197_116, v197_118, v197_121, v197_123, v197_126, v197_128, v197_130, v197_133, v197_136, v197_138, v197_140, v197_143, v197_145, v197_148, v197_150, v197_152, v197_155, v197_157, v197_160, v197_162, v197_164, v197_167, v197_169, v197_172, v197_174, v197_175, v197_178, v197_180, v197_182, v197_185, v197_187, v197_190, v197_192, v197_195, v197_197, v197_200, v197_202, v197_205, v197_207, v197_210, Nat.add_zero, n_cl, n_in_t, n_lt_t, n_lt_f, n_eq_t, n_eq_f, n_sub, nI_add, n_mul, n_01, ↓reduceIte, if_true, if_false, eq_self, true_or, or_true, and_self, and_true, true_and, Nat.reduceAdd, Nat.reduceMul, Nat.reduceLeDiff, Nat.zero_le, not_true_eq_false, not_false_eq_true, cat2_n, cat2_i, cat2_r, ws_0, ws_i, ws_r, ws_l, ws_d, aftr_n, aftr_s, bI_ok, bI_t, bI_f, up_s, up_n, n_bit, decide_true, decide_false, Bool.not_true, Bool.not_false, Bool.and_true, Bool.true_and, Bool.false_and, Bool.and_false, n_nlt0, n_neg_t, n_neg_f, k_0, k_566, k_567, k_568, k_569, k_570, k_571, k_572, k_573, k_574, k_575, k_576]
    exact this
  · cases j with
    | false =>
      have := hQ 123 (Or.inr (Or.inr (Or.inl ⟨rfl, rfl⟩))) (by omega)
      rw [bI_f] at this ⊢
      simp (disch := omega) only [v197_45, v197_47, v197_48, v197_51, v197_53, v197_56, v197_58, v197_60, v197_63, v197_65, v197_66, v197_68, v197_69, u197_71, v197_74, v197_75, v197_78, v197_80, v197_82, v197_85, v197_87, v197_90, v197_92, v197_94, v197_97, v197_99, v197_102, v197_104, v197_106, v197_109, v197_111, v197_114, v197_116, v197_118, v197_121, v197_123, v197_126, v197_128, v197_130, v197_133, v197_136, v197_138, v197_140, v197_143, v197_145, v197_148, v197_150, v197_152, v197_155, v197_157, v197_160, v197_162, v197_164, v197_167, v197_169, v197_172, v197_174, v197_175, v197_178, v197_180, v197_182, v197_185, v197_187, v197_190, v197_192, v197_195, v197_197, v197_200, v197_202, v197_205, v197_207, v197_210, Nat.add_zero, n_cl, n_in_t, n_lt_t, n_lt_f, n_eq_t, n_eq_f, n_sub, nI_add, n_mul, n_01, ↓reduceIte, if_true, if_false, eq_self, true_or, or_true, and_self, and_true, true_and, Nat.reduceAdd, Nat.reduceMul, Nat.reduceLeDiff, Nat.zero_le, not_true_eq_false, not_false_eq_true, cat2_n, cat2_i, cat2_r, ws_0, ws_i, ws_r, ws_l, ws_d, aftr_n, aftr_s, bI_ok, bI_t, bI_f, up_s, up_n, n_bit, decide_true, decide_false, Bool.not_true, Bool.not_false, Bool.and_true, Bool.true_and, Bool.false_and, Bool.and_false, n_nlt0, n_neg_t, n_neg_f, k_0, k_566, k_567, k_568, k_569, k_570, k_571, k_572, k_573, k_574, k_575, k_576]
      exact this
    | true =>
      by_cases e3 : 0 < i
      · have := hQ 125 (Or.inr (Or.inr (Or.inr ⟨rfl, rfl, e3⟩))) (by omega)
        rw [bI_t] at this ⊢
        simp (disch := omega) only [v197_45, v197_47, v197_48, v197_51, v197_53, v197_56, v197_58, v197_60, v197_63, v197_65, v197_66, v197_68, v197_69, u197_71, v197_74, v197_75, v197_78, v197_80, v197_82, v197_85, v197_87, v197_90, v197_92, v197_94, v197_97, v197_99, v197_102, v197_104, v197_106, v197_109, v197_111, v197_114, v197_116, v197_118, v197_121, v197_123, v197_126, v197_128, v197_130, v197_133, v197_136, v197_138, v197_140, v197_143, v197_145, v197_148, v197_150, v197_152, v197_155, v197_157, v197_160, v197_162, v197_164, v197_167, v197_169, v197_172, v197_174, v197_175, v197_178, v197_180, v197_182, v197_185, v197_187, v197_190, v197_192, v197_195, v197_197, v197_200, v197_202, v197_205, v197_207, v197_210, Nat.add_zero, n_cl, n_in_t, n_lt_t, n_lt_f, n_eq_t, n_eq_f, n_sub, nI_add, n_mul, n_01, ↓reduceIte, if_true, if_false, eq_self, true_or, or_true, and_self, and_true, true_and, Nat.reduceAdd, Nat.reduceMul, Nat.reduceLeDiff, Nat.zero_le, not_true_eq_false, not_false_eq_true, cat2_n, cat2_i, cat2_r, ws_0, ws_i, ws_r, ws_l, ws_d, aftr_n, aftr_s, bI_ok, bI_t, bI_f, up_s, up_n, n_bit, decide_true, decide_false, Bool.not_true, Bool.not_false, Bool.and_true, Bool.true_and, Bool.false_and, Bool.and_false, n_nlt0, n_neg_t, n_neg_f, k_0, k_566, k_567, k_568, k_569, k_570, k_571, k_572, k_573, k_574, k_575, k_576]
        exact this
      · rw [bI_t] at q95 ⊢
        simp (disch := omega) only [v197_45, v197_47, v197_48, v197_51, v197_53, v197_56, v197_58, v197_60, v197_63, v197_65, v197_66, v197_68, v197_69, u197_71, v197_74, v197_75, v197_78, v197_80, v197_82, v197_85, v197_87, v197_90, v197_92, v197_94, v197_97, v197_99, v197_102, v197_104, v197_106, v197_109, v197_111, v197_114, v197_116, v197_118, v197_121, v197_123, v197_126, v197_128, v197_130, v197_133, v197_136, v197_138, v197_140, v197_143, v197_145, v197_148, v197_150, v197_152, v197_155, v197_157, v197_160, v197_162, v197_164, v197_167, v197_169, v197_172, v197_174, v197_175, v197_178, v197_180, v197_182, v197_185, v197_187, v197_190, v197_192, v197_195, v197_197, v197_200, v197_202, v197_205, v197_207, v197_210, Nat.add_zero, n_cl, n_in_t, n_lt_t, n_lt_f, n_eq_t, n_eq_f, n_sub, nI_add, n_mul, n_01, ↓reduceIte, if_true, if_false, eq_self, true_or, or_true, and_self, and_true, true_and, Nat.reduceAdd, Nat.reduceMul, Nat.reduceLeDiff, Nat.zero_le, not_true_eq_false, not_false_eq_true, cat2_n, cat2_i, cat2_r, ws_0, ws_i, ws_r, ws_l, ws_d, aftr_n, aftr_s, bI_ok, bI_t, bI_f, up_s, up_n, n_bit, decide_true, decide_false, Bool.not_true, Bool.not_false, Bool.and_true, Bool.true_and, Bool.false_and, Bool.and_false, n_nlt0, n_neg_t, n_neg_f, k_0, k_566, k_567, k_568, k_569, k_570, k_571, k_572, k_573, k_574, k_575, k_576]
        exact q95
  · cases j with
    | false =>
      rw [bI_f] at q95 ⊢
      simp (disch := omega) only [v197_45, v197_47, v197_48, v197_51, v197_53, v197_56, v197_58, v197_60, v197_63, v197_65, v197_66, v197_68, v197_69, u197_71, v197_74, v197_75, v197_78, v197_80, v197_82, v197_85, v197_87, v197_90, v197_92, v197_94, v197_97, v197_99, v197_102, v197_104, v197_106, v197_109, v197_111, v197_114, v197_116, v197_118, v197_121, v197_123, v197_126, v197_128, v197_130, v197_133, v197_136, v197_138, v197_140, v197_143, v197_145, v197_148, v197_150, v197_152, v197_155, v197_157, v197_160, v197_162, v197_164, v197_167, v197_169, v197_172, v197_174, v197_175, v197_178, v197_180, v197_182, v197_185, v197_187, v197_190, v197_192, v197_195, v197_197, v197_200, v197_202, v197_205, v197_207, v197_210, Nat.add_zero, n_cl, n_in_t, n_lt_t, n_lt_f, n_eq_t, n_eq_f, n_sub, nI_add, n_mul, n_01, ↓reduceIte, if_true, if_false, eq_self, true_or, or_true, and_self, and_true, true_and, Nat.reduceAdd, Nat.reduceMul, Nat.reduceLeDiff, Nat.zero_le, not_true_eq_false, not_false_eq_true, cat2_n, cat2_i, cat2_r, ws_0, ws_i, ws_r, ws_l, ws_d, aftr_n, aftr_s, bI_ok, bI_t, bI_f, up_s, up_n, n_bit, decide_true, decide_false, Bool.not_true, Bool.not_false, Bool.and_true, Bool.true_and, Bool.false_and, Bool.and_false, n_nlt0, n_neg_t, n_neg_f, k_0, k_566, k_567, k_568, k_569, k_570, k_571, k_572, k_573, k_574, k_575, k_576]
      exact q95
    | true =>
      by_cases e3 : 0 < i
      · have := hQ 125 (Or.inr (Or.inr (Or.inr ⟨rfl, rfl, e3⟩))) (by omega)
        rw [bI_t] at this ⊢
        simp (disch := omega) only [v197_45, v197_47, v197_48, v197_51, v197_53, v197_56, v197_58, v197_60, v197_63, v197_65, v197_66, v197_68, v197_69, u197_71, v197_74, v197_75, v197_78, v197_80, v197_82, v197_85, v197_87, v197_90, v197_92, v197_94, v197_97, v197_99, v197_102, v197_104, v197_106, v197_109, v197_111, v197_114, v197_116, v197_118, v197_121, v197_123, v197_126, v197_128, v197_130, v197_133, v197_136, v197_138, v197_140, v197_143, v197_145, v197_148, v197_150, v197_152, v197_155, v197_157, v197_160, v197_162, v197_164, v197_167, v197_169, v197_172, v197_174, v197_175, v197_178, v197_180, v197_182, v197_185, v197_187, v197_190, v197_192, v197_195, v197_197, v197_200, v197_202, v197_205, v197_207, v197_210, Nat.add_zero, n_cl, n_in_t, n_lt_t, n_lt_f, n_eq_t, n_eq_f, n_sub, nI_add, n_mul, n_01, ↓reduceIte, if_true, if_false, eq_self, true_or, or_true, and_self, and_true, true_and, Nat.reduceAdd, Nat.reduceMul, Nat.reduceLeDiff, Nat.zero_le, not_true_eq_false, not_false_eq_true, cat2_n, cat2_i, cat2_r, ws_0, ws_i, ws_r, ws_l, ws_d, aftr_n, aftr_s, bI_ok, bI_t, bI_f, up_s, up_n, n_bit, decide_true, decide_false, Bool.not_true, Bool.not_false, Bool.and_true, Bool.true_and, Bool.false_and, Bool.and_false, n_nlt0, n_neg_t, n_neg_f, k_0, k_566, k_567, k_568, k_569, k_570, k_571, k_572, k_573, k_574, k_575, k_576]
        exact this
      · rw [bI_t] at q95 ⊢
        simp (disch := omega) only [v197_45, v197_47, v197_48, v197_51, v197_53, v197_56, v197_58, v197_60, v197_63, v197_65, v197_66, v197_68, v197_69, u197_71, v197_74, v197_75, v197_78, v197_80, v197_82, v197_85, v197_87, v197_90, v197_92, v197_94, v197_97, v197_99, v197_102, v197_104, v197_106, v197_109, v197_111, v197_114, v197_116, v197_118, v197_121, v197_123, v197_126, v197_128, v197_130, v197_133, v197_136, v197_138, v197_140, v197_143, v197_145, v197_148, v197_150, v197_152, v197_155, v197_157, v197_160, v197_162, v197_164, v197_167, v197_169, v197_172, v197_174, v197_175, v197_178, v197_180, v197_182, v197_185, v197_187, v197_190, v197_192, v197_195, v197_197, v197_200, v197_202, v197_205, v197_207, v197_210, Nat.add_zero, n_cl, n_in_t, n_lt_t, n_lt_f, n_eq_t, n_eq_f, n_sub, nI_add, n_mul, n_01, ↓reduceIte, if_true, if_false, eq_self, true_or, or_true, and_self, and_true, true_and, Nat.reduceAdd, Nat.reduceMul, Nat.reduceLeDiff, Nat.zero_le, not_true_eq_false, not_false_eq_true, cat2_n, cat2_i, cat2_r, ws_0, ws_i, ws_r, ws_l, ws_d, aftr_n, aftr_s, bI_ok, bI_t, bI_f, up_s, up_n, n_bit, decide_true, decide_false, Bool.not_true, Bool.not_false, Bool.and_true, Bool.true_and, Bool.false_and, Bool.and_false, n_nlt0, n_neg_t, n_neg_f, k_0, k_566, k_567, k_568, k_569, k_570, k_571, k_572, k_573, k_574, k_575, k_576]
        exact q95
set_option maxHeartbeats 4000000 in
/-- it is typed in and written down -/
theorem l197b {x y : Int32} {i k s a c cc cn : Nat} {j : Bool} {x10 : Option Value} (hi : i < 1000) (hok : okC j i c) (hc4 : c < 400) (hc : cc ≤ 50) (hn : cn ≤ 300) (hT : T.length < 20) (hB : B.length ≤ 50) (hk : k < 32) (hw : CSt b I q (A, n, H, B)) (hg : GoodW (A, n, H, B)) (hit : IT b I T)
    (hQ : ∀ I' q' cc' cn' c10, cc' ≤ cc + 3 → cn' ≤ cn + 18 → CSt b I' q' (A, n, H, B ++ exT c) → IT b I' (T ++ [c]) → Ag pLt b I I' → X z 197 27 [some (.ref (ad b 0)), some (.int x), some (.int y), some (.ref (ad b 575)), some (.int (nI (T.length + 1))), some (.int (bI (c == 123 || (j && !(c == 125))))), some (.int (nI (if c = 123 then 0 else i + 1))), some (.int (nI s)), some (.int (nI (k + 1))), some (.int (nI a)), some (.int (nI c10))] [] (cc', cn') (KAt KL b, I', RAt RL b (q'), L, sz, ex) Q) :
    X z 197 212 [some (.ref (ad b 0)), some (.int x), some (.int y), some (.ref (ad b 575)), some (.int (nI T.length)), some (.int (bI j)), some (.int (nI i)), some (.int (nI s)), some (.int (nI k)), some (.int (nI a)), x10] [.int (nI c)] (cc, cn) (KAt KL b, I, RAt RL b q, L, sz, ex) Q := by
  have tail : ∀ I1 q1 cc' cn', cc' ≤ cc + 3 → cn' ≤ cn + 18 → CSt b I1 q1 (A, n, H, B ++ exT c) → Ag pCls b I I1 → X z 197 257 [some (.ref (ad b 0)), some (.int x), some (.int y), some (.ref (ad b 575)), some (.int (nI T.length)), some (.int (bI j)), some (.int (nI i)), some (.int (nI s)), some (.int (nI k)), some (.int (nI a)), some (.int (nI c))] [] (cc', cn') (KAt KL b, I1, RAt RL b (q1), L, sz, ex) Q := by
    intro I1 q1 cc' cn' h1 h2 w1 g1
    have a1 : Ag pLt b I (up2 I1 (ad b 575) T.length (nI c)) := (g1.mn pCls_lt).up (Or.inr rfl)
    have i1 : IT b (up2 I1 (ad b 575) T.length (nI c)) (T ++ [c]) := (hit.ag g1 pCls_5).snoc
    have w2 : CSt b (up2 I1 (ad b 575) T.length (nI c)) q1 (A, n, H, B ++ exT c) := w1.scr (P := fun o _ => o = 575) hg (Ag.rf.up rfl) (fun o j h => by omega)
    have f := hQ _ q1 cc' cn' c h1 h2 w2 i1 a1
    by_cases e1 : c = 123
    · subst e1
      have e : ((123 : Nat) == 123 || (j && !((123 : Nat) == 125))) = true := rfl
      rw [e, if_pos rfl, bI_t] at f
      cases j with
      | false =>
        rw [bI_f]
        simp (disch := omega) only [v197_257, v197_258, v197_260, v197_262, v197_263, v197_266, v197_268, v197_270, v197_273, v197_274, v197_277, v197_279, v197_280, v197_281, v197_283, v197_285, v197_287, v197_290, v197_292, v197_295, v197_297, v197_299, v197_302, v197_303, v197_306, v197_307, v197_309, v197_312, Nat.add_zero, n_cl, n_in_t, n_lt_t, n_lt_f, n_eq_t, n_eq_f, n_sub, nI_add, n_mul, n_01, ↓reduceIte, if_true, if_false, eq_self, true_or, or_true, and_self, and_true, true_and, Nat.reduceAdd, Nat.reduceMul, Nat.reduceLeDiff, Nat.zero_le, not_true_eq_false, not_false_eq_true, cat2_n, cat2_i, cat2_r, ws_0, ws_i, ws_r, ws_l, ws_d, aftr_n, aftr_s, bI_ok, bI_t, bI_f, up_s, up_n, n_bit, decide_true, decide_false, Bool.not_true, Bool.not_false, Bool.and_true, Bool.true_and, Bool.false_and, Bool.and_false, n_nlt0, n_neg_t, n_neg_f, k_0, k_566, k_567, k_568, k_569, k_570, k_571, k_572, k_573, k_574, k_575, k_576]
        exact f
      | true =>
        rw [bI_t]
        simp (disch := omega) only [v197_257, v197_258, v197_260, v197_262, v197_263, v197_266, v197_268, v197_270, v197_273, v197_274, v197_277, v197_279, v197_280, v197_281, v197_283, v197_285, v197_287, v197_290, v197_292, v197_295, v197_297, v197_299, v197_302, v197_303, v197_306, v197_307, v197_309, v197_312, Nat.add_zero, n_cl, n_in_t, n_lt_t, n_lt_f, n_eq_t, n_eq_f, n_sub, nI_add, n_mul, n_01, ↓reduceIte, if_true, if_false, eq_self, true_or, or_true, and_self, and_true, true_and, Nat.reduceAdd, Nat.reduceMul, Nat.reduceLeDiff, Nat.zero_le, not_true_eq_false, not_false_eq_true, cat2_n, cat2_i, cat2_r, ws_0, ws_i, ws_r, ws_l, ws_d, aftr_n, aftr_s, bI_ok, bI_t, bI_f, up_s, up_n, n_bit, decide_true, decide_false, Bool.not_true, Bool.not_false, Bool.and_true, Bool.true_and, Bool.false_and, Bool.and_false, n_nlt0, n_neg_t, n_neg_f, k_0, k_566, k_567, k_568, k_569, k_570, k_571, k_572, k_573, k_574, k_575, k_576]
        exact f
    · have e0 : (c == 123) = false := beq_eq_false_iff_ne.mpr e1
      rw [e0, if_neg e1, Bool.false_or] at f
      cases j with
      | false =>
        rw [Bool.false_and, bI_f] at f
        rw [bI_f]
        simp (disch := omega) only [v197_257, v197_258, v197_260, v197_262, v197_263, v197_266, v197_268, v197_270, v197_273, v197_274, v197_277, v197_279, v197_280, v197_281, v197_283, v197_285, v197_287, v197_290, v197_292, v197_295, v197_297, v197_299, v197_302, v197_303, v197_306, v197_307, v197_309, v197_312, Nat.add_zero, n_cl, n_in_t, n_lt_t, n_lt_f, n_eq_t, n_eq_f, n_sub, nI_add, n_mul, n_01, ↓reduceIte, if_true, if_false, eq_self, true_or, or_true, and_self, and_true, true_and, Nat.reduceAdd, Nat.reduceMul, Nat.reduceLeDiff, Nat.zero_le, not_true_eq_false, not_false_eq_true, cat2_n, cat2_i, cat2_r, ws_0, ws_i, ws_r, ws_l, ws_d, aftr_n, aftr_s, bI_ok, bI_t, bI_f, up_s, up_n, n_bit, decide_true, decide_false, Bool.not_true, Bool.not_false, Bool.and_true, Bool.true_and, Bool.false_and, Bool.and_false, n_nlt0, n_neg_t, n_neg_f, k_0, k_566, k_567, k_568, k_569, k_570, k_571, k_572, k_573, k_574, k_575, k_576]
        exact f
      | true =>
        rw [Bool.true_and] at f
        by_cases e2 : c = 125
        · subst e2
          have e : (!((125 : Nat) == 125)) = false := rfl
          rw [e, bI_f] at f
          rw [bI_t]
          simp (disch := omega) only [v197_257, v197_258, v197_260, v197_262, v197_263, v197_266, v197_268, v197_270, v197_273, v197_274, v197_277, v197_279, v197_280, v197_281, v197_283, v197_285, v197_287, v197_290, v197_292, v197_295, v197_297, v197_299, v197_302, v197_303, v197_306, v197_307, v197_309, v197_312, Nat.add_zero, n_cl, n_in_t, n_lt_t, n_lt_f, n_eq_t, n_eq_f, n_sub, nI_add, n_mul, n_01, ↓reduceIte, if_true, if_false, eq_self, true_or, or_true, and_self, and_true, true_and, Nat.reduceAdd, Nat.reduceMul, Nat.reduceLeDiff, Nat.zero_le, not_true_eq_false, not_false_eq_true, cat2_n, cat2_i, cat2_r, ws_0, ws_i, ws_r, ws_l, ws_d, aftr_n, aftr_s, bI_ok, bI_t, bI_f, up_s, up_n, n_bit, decide_true, decide_false, Bool.not_true, Bool.not_false, Bool.and_true, Bool.true_and, Bool.false_and, Bool.and_false, n_nlt0, n_neg_t, n_neg_f, k_0, k_566, k_567, k_568, k_569, k_570, k_571, k_572, k_573, k_574, k_575, k_576]
          exact f
        · have e : (c == 125) = false := beq_eq_false_iff_ne.mpr e2
          rw [e, Bool.not_false, bI_t] at f
          rw [bI_t]
          simp (disch := omega) only [v197_257, v197_258, v197_260, v197_262, v197_263, v197_266, v197_268, v197_270, v197_273, v197_274, v197_277, v197_279, v197_280, v197_281, v197_283, v197_285, v197_287, v197_290, v197_292, v197_295, v197_297, v197_299, v197_302, v197_303, v197_306, v197_307, v197_309, v197_312, Nat.add_zero, n_cl, n_in_t, n_lt_t, n_lt_f, n_eq_t, n_eq_f, n_sub, nI_add, n_mul, n_01, ↓reduceIte, if_true, if_false, eq_self, true_or, or_true, and_self, and_true, true_and, Nat.reduceAdd, Nat.reduceMul, Nat.reduceLeDiff, Nat.zero_le, not_true_eq_false, not_false_eq_true, cat2_n, cat2_i, cat2_r, ws_0, ws_i, ws_r, ws_l, ws_d, aftr_n, aftr_s, bI_ok, bI_t, bI_f, up_s, up_n, n_bit, decide_true, decide_false, Bool.not_true, Bool.not_false, Bool.and_true, Bool.true_and, Bool.false_and, Bool.and_false, n_nlt0, n_neg_t, n_neg_f, k_0, k_566, k_567, k_568, k_569, k_570, k_571, k_572, k_573, k_574, k_575, k_576]
          exact f
  by_cases e : 255 < c
  · have hc5 : c = 355 ∨ c = 359 ∨ c = 366 ∨ c = 375 := by
      rcases hok with h | h | h | h <;> omega
    have ex : exT c = [60] ++ ([c - 256] ++ [62]) := by unfold exT; rw [if_neg (by omega)]; rfl
    rw [ex] at tail
    simp (disch := omega) only [v197_212, v197_214, v197_216, v197_219, v197_222, v197_223, u197_225, Nat.add_zero, n_cl, n_in_t, n_lt_t, n_lt_f, n_eq_t, n_eq_f, n_sub, nI_add, n_mul, n_01, ↓reduceIte, if_true, if_false, eq_self, true_or, or_true, and_self, and_true, true_and, Nat.reduceAdd, Nat.reduceMul, Nat.reduceLeDiff, Nat.zero_le, not_true_eq_false, not_false_eq_true, cat2_n, cat2_i, cat2_r, ws_0, ws_i, ws_r, ws_l, ws_d, aftr_n, aftr_s, bI_ok, bI_t, bI_f, up_s, up_n, n_bit, decide_true, decide_false, Bool.not_true, Bool.not_false, Bool.and_true, Bool.true_and, Bool.false_and, Bool.and_false, n_nlt0, n_neg_t, n_neg_f, k_0, k_566, k_567, k_568, k_569, k_570, k_571, k_572, k_573, k_574, k_575, k_576, leq_t]
    refine c67 (by omega) hw hg (CQ_ok (opApp_ok (by omega) (by omega)) (fun I1 q1 w1 g1 => ?_))
    simp (disch := omega) only [v197_228, v197_229, v197_230, v197_232, v197_235, u197_236, Nat.add_zero, n_cl, n_in_t, n_lt_t, n_lt_f, n_eq_t, n_eq_f, n_sub, nI_add, n_mul, n_01, ↓reduceIte, if_true, if_false, eq_self, true_or, or_true, and_self, and_true, true_and, Nat.reduceAdd, Nat.reduceMul, Nat.reduceLeDiff, Nat.zero_le, not_true_eq_false, not_false_eq_true, cat2_n, cat2_i, cat2_r, ws_0, ws_i, ws_r, ws_l, ws_d, aftr_n, aftr_s, bI_ok, bI_t, bI_f, up_s, up_n, n_bit, decide_true, decide_false, Bool.not_true, Bool.not_false, Bool.and_true, Bool.true_and, Bool.false_and, Bool.and_false, n_nlt0, n_neg_t, n_neg_f, k_0, k_566, k_567, k_568, k_569, k_570, k_571, k_572, k_573, k_574, k_575, k_576, leq_t]
    refine c67 (by omega) w1 hg (CQ_ok (opApp_ok (by omega) (by simp only [List.length_append, List.length_singleton]; omega)) (fun I2 q2 w2 g2 => ?_))
    simp (disch := omega) only [v197_239, v197_240, v197_241, u197_243, Nat.add_zero, n_cl, n_in_t, n_lt_t, n_lt_f, n_eq_t, n_eq_f, n_sub, nI_add, n_mul, n_01, ↓reduceIte, if_true, if_false, eq_self, true_or, or_true, and_self, and_true, true_and, Nat.reduceAdd, Nat.reduceMul, Nat.reduceLeDiff, Nat.zero_le, not_true_eq_false, not_false_eq_true, cat2_n, cat2_i, cat2_r, ws_0, ws_i, ws_r, ws_l, ws_d, aftr_n, aftr_s, bI_ok, bI_t, bI_f, up_s, up_n, n_bit, decide_true, decide_false, Bool.not_true, Bool.not_false, Bool.and_true, Bool.true_and, Bool.false_and, Bool.and_false, n_nlt0, n_neg_t, n_neg_f, k_0, k_566, k_567, k_568, k_569, k_570, k_571, k_572, k_573, k_574, k_575, k_576, leq_t]
    refine c67 (by omega) w2 hg (CQ_ok (opApp_ok (by omega) (by simp only [List.length_append, List.length_singleton]; omega)) (fun I3 q3 w3 g3 => ?_))
    simp (disch := omega) only [v197_246, v197_247, Nat.add_zero, n_cl, n_in_t, n_lt_t, n_lt_f, n_eq_t, n_eq_f, n_sub, nI_add, n_mul, n_01, ↓reduceIte, if_true, if_false, eq_self, true_or, or_true, and_self, and_true, true_and, Nat.reduceAdd, Nat.reduceMul, Nat.reduceLeDiff, Nat.zero_le, not_true_eq_false, not_false_eq_true, cat2_n, cat2_i, cat2_r, ws_0, ws_i, ws_r, ws_l, ws_d, aftr_n, aftr_s, bI_ok, bI_t, bI_f, up_s, up_n, n_bit, decide_true, decide_false, Bool.not_true, Bool.not_false, Bool.and_true, Bool.true_and, Bool.false_and, Bool.and_false, n_nlt0, n_neg_t, n_neg_f, k_0, k_566, k_567, k_568, k_569, k_570, k_571, k_572, k_573, k_574, k_575, k_576]
    rw [List.append_assoc, List.append_assoc] at w3
    exact tail I3 q3 _ _ (by omega) (by omega) w3 ((g1.tr g2).tr g3)
  · have ex : exT c = [c] := by unfold exT; rw [if_pos (by omega)]
    have rc : 33 ≤ c ∧ c ≤ 126 := by
      rcases hok with h | h | h | h
      · have := plnB_n h.1; omega
      · omega
      · omega
      · omega
    rw [ex] at tail
    simp (disch := omega) only [v197_212, v197_214, v197_216, v197_219, v197_222, v197_223, u197_225, v197_228, v197_229, v197_230, v197_232, v197_235, u197_236, v197_239, v197_240, v197_241, u197_243, v197_246, v197_247, v197_250, v197_251, u197_253, Nat.add_zero, n_cl, n_in_t, n_lt_t, n_lt_f, n_eq_t, n_eq_f, n_sub, nI_add, n_mul, n_01, ↓reduceIte, if_true, if_false, eq_self, true_or, or_true, and_self, and_true, true_and, Nat.reduceAdd, Nat.reduceMul, Nat.reduceLeDiff, Nat.zero_le, not_true_eq_false, not_false_eq_true, cat2_n, cat2_i, cat2_r, ws_0, ws_i, ws_r, ws_l, ws_d, aftr_n, aftr_s, bI_ok, bI_t, bI_f, up_s, up_n, n_bit, decide_true, decide_false, Bool.not_true, Bool.not_false, Bool.and_true, Bool.true_and, Bool.false_and, Bool.and_false, n_nlt0, n_neg_t, n_neg_f, k_0, k_566, k_567, k_568, k_569, k_570, k_571, k_572, k_573, k_574, k_575, k_576, leq_t]
    refine c67 (by omega) hw hg (CQ_ok (opApp_ok rc (by omega)) (fun I1 q1 w1 g1 => ?_))
    simp (disch := omega) only [v197_256, Nat.add_zero, n_cl, n_in_t, n_lt_t, n_lt_f, n_eq_t, n_eq_f, n_sub, nI_add, n_mul, n_01, ↓reduceIte, if_true, if_false, eq_self, true_or, or_true, and_self, and_true, true_and, Nat.reduceAdd, Nat.reduceMul, Nat.reduceLeDiff, Nat.zero_le, not_true_eq_false, not_false_eq_true, cat2_n, cat2_i, cat2_r, ws_0, ws_i, ws_r, ws_l, ws_d, aftr_n, aftr_s, bI_ok, bI_t, bI_f, up_s, up_n, n_bit, decide_true, decide_false, Bool.not_true, Bool.not_false, Bool.and_true, Bool.true_and, Bool.false_and, Bool.and_false, n_nlt0, n_neg_t, n_neg_f, k_0, k_566, k_567, k_568, k_569, k_570, k_571, k_572, k_573, k_574, k_575, k_576]
    exact tail I1 q1 _ _ (by omega) (by omega) w1 g1
set_option maxHeartbeats 4000000 in
theorem l197 {x y : Int32} {s : Nat} (hs : s ≤ 14) (hs3 : 3 ≤ s) (hQ : ∀ I' q' B' T', CSt b I' q' (A, n, H, B') → leW 0 B' = 0 → tkw 0 B' = T' → 1 ≤ T'.length → T'.length ≤ 16 → B'.length ≤ 60 → IT b I' T' → Ag pLt b I I' → Q (.inl (some (.int (nI T'.length)))) (KAt KL b, I', RAt RL b (q'), L, sz, ex)) : ∀ d k I1 q1 B T (j : Bool) i cc cn (x9 x10 : Option Value), cat2 x9 = false → k + d = s → T.length = k → i ≤ k → B.length ≤ 3 * k → cc ≤ 3 * k → cn ≤ 18 * k → CSt b I1 q1 (A, n, H, B) → GoodW (A, n, H, B) → leW 0 B = rdW j i → tkw 0 B = T → IT b I1 T → Ag pLt b I I1 →
    X z 197 27 [some (.ref (ad b 0)), some (.int x), some (.int y), some (.ref (ad b 575)), some (.int (nI T.length)), some (.int (bI j)), some (.int (nI i)), some (.int (nI s)), some (.int (nI k)), x9, x10] [] (cc, cn) (KAt KL b, I1, RAt RL b (q1), L, sz, ex) Q := by
  intro d
  induction d with
  | zero =>
    intro k I1 q1 B T j i cc cn x9 x10 hx9 h hT hi hB hc hn hw hg hle htk hit ga
    obtain rfl : k = s := by omega
    rw [v197_27]
    have endd : ∀ I2 q2 B2 T2 i2 cc' cn', T2.length ≤ k + 1 → k ≤ T2.length → B2.length ≤ 3 * k + 1 → cc' ≤ 3 * k + 1 → cn' ≤ 18 * k + 6 → 0 < i2 → i2 < 1000 → CSt b I2 q2 (A, n, H, B2) → leW 0 B2 = rdW j i2 → tkw 0 B2 = T2 → IT b I2 T2 → Ag pLt b I I2 → X z 197 341 [some (.ref (ad b 0)), some (.int x), some (.int y), some (.ref (ad b 575)), some (.int (nI T2.length)), some (.int (bI j)), some (.int (nI i)), some (.int (nI k)), some (.int (nI k)), x9, x10] [] (cc', cn') (KAt KL b, I2, RAt RL b (q2), L, sz, ex) Q := by
      intro I2 q2 B2 T2 i2 cc' cn' t1 t2 t3 t4 t5 t6 t7 w2 l2 k2 i2' g2
      cases j with
      | false =>
        rw [bI_f]
        simp (disch := omega) only [v197_341, v197_343, v197_346, v197_347, u197_349, v197_352, v197_353, v197_354, v197_356, v197_358, v197_359, v197_362, v197_364, Nat.add_zero, n_cl, n_in_t, n_lt_t, n_lt_f, n_eq_t, n_eq_f, n_sub, nI_add, n_mul, n_01, ↓reduceIte, if_true, if_false, eq_self, true_or, or_true, and_self, and_true, true_and, Nat.reduceAdd, Nat.reduceMul, Nat.reduceLeDiff, Nat.zero_le, not_true_eq_false, not_false_eq_true, cat2_n, cat2_i, cat2_r, ws_0, ws_i, ws_r, ws_l, ws_d, aftr_n, aftr_s, bI_ok, bI_t, bI_f, up_s, up_n, n_bit, decide_true, decide_false, Bool.not_true, Bool.not_false, Bool.and_true, Bool.true_and, Bool.false_and, Bool.and_false, n_nlt0, n_neg_t, n_neg_f, k_0, k_566, k_567, k_568, k_569, k_570, k_571, k_572, k_573, k_574, k_575, k_576]
        exact hQ I2 q2 B2 T2 w2 l2 k2 (by omega) (by omega) (by omega) i2' g2
      | true =>
        rw [bI_t]
        have st := okC_step (j := true) (i := i2) (c := 125) (Or.inr (Or.inr (Or.inr ⟨rfl, rfl, t6⟩)))
        have ex : exT 125 = [125] := rfl
        rw [ex] at st
        simp (disch := omega) only [v197_341, v197_343, v197_346, v197_347, u197_349, Nat.add_zero, n_cl, n_in_t, n_lt_t, n_lt_f, n_eq_t, n_eq_f, n_sub, nI_add, n_mul, n_01, ↓reduceIte, if_true, if_false, eq_self, true_or, or_true, and_self, and_true, true_and, Nat.reduceAdd, Nat.reduceMul, Nat.reduceLeDiff, Nat.zero_le, not_true_eq_false, not_false_eq_true, cat2_n, cat2_i, cat2_r, ws_0, ws_i, ws_r, ws_l, ws_d, aftr_n, aftr_s, bI_ok, bI_t, bI_f, up_s, up_n, n_bit, decide_true, decide_false, Bool.not_true, Bool.not_false, Bool.and_true, Bool.true_and, Bool.false_and, Bool.and_false, n_nlt0, n_neg_t, n_neg_f, k_0, k_566, k_567, k_568, k_569, k_570, k_571, k_572, k_573, k_574, k_575, k_576, leq_t]
        refine c67 (by omega) w2 hg (CQ_ok (opApp_ok (by omega) (by omega)) (fun I3 q3 w3 g3 => ?_))
        simp (disch := omega) only [v197_352, v197_353, v197_354, v197_356, v197_358, v197_359, v197_362, v197_364, Nat.add_zero, n_cl, n_in_t, n_lt_t, n_lt_f, n_eq_t, n_eq_f, n_sub, nI_add, n_mul, n_01, ↓reduceIte, if_true, if_false, eq_self, true_or, or_true, and_self, and_true, true_and, Nat.reduceAdd, Nat.reduceMul, Nat.reduceLeDiff, Nat.zero_le, not_true_eq_false, not_false_eq_true, cat2_n, cat2_i, cat2_r, ws_0, ws_i, ws_r, ws_l, ws_d, aftr_n, aftr_s, bI_ok, bI_t, bI_f, up_s, up_n, n_bit, decide_true, decide_false, Bool.not_true, Bool.not_false, Bool.and_true, Bool.true_and, Bool.false_and, Bool.and_false, n_nlt0, n_neg_t, n_neg_f, k_0, k_566, k_567, k_568, k_569, k_570, k_571, k_572, k_573, k_574, k_575, k_576]
        have w4 : CSt b (up2 I3 (ad b 575) T2.length (nI 125)) q3 (A, n, H, B2 ++ [125]) := w3.scr (P := fun o _ => o = 575) hg (Ag.rf.up rfl) (fun o j h => by omega)
        have := hQ _ q3 (B2 ++ [125]) (T2 ++ [125]) w4 (by rw [leW_app, l2, st.1]; rfl) (by rw [tkw_app, k2, l2, st.2]) (by rw [List.length_append]; simp) (by rw [List.length_append, List.length_singleton]; omega) (by rw [List.length_append, List.length_singleton]; omega) ((i2'.ag g3 pCls_5).snoc) ((g2.tr (g3.mn pCls_lt)).up (Or.inr rfl))
        rwa [List.length_append, List.length_singleton] at this
    cases j with
    | false =>
      have e := endd I1 q1 B T (i + 1) cc cn (by omega) (by omega) (by omega) (by omega) (by omega) (by omega) (by omega) hw (by rw [hle]; rfl) htk hit ga
      rw [bI_f] at e ⊢
      simp (disch := omega) only [v197_29, v197_31, v197_315, v197_317, v197_320, v197_322, v197_325, v197_326, u197_328, v197_331, v197_332, v197_333, v197_335, v197_337, v197_338, Nat.add_zero, n_cl, n_in_t, n_lt_t, n_lt_f, n_eq_t, n_eq_f, n_sub, nI_add, n_mul, n_01, ↓reduceIte, if_true, if_false, eq_self, true_or, or_true, and_self, and_true, true_and, Nat.reduceAdd, Nat.reduceMul, Nat.reduceLeDiff, Nat.zero_le, not_true_eq_false, not_false_eq_true, cat2_n, cat2_i, cat2_r, ws_0, ws_i, ws_r, ws_l, ws_d, aftr_n, aftr_s, bI_ok, bI_t, bI_f, up_s, up_n, n_bit, decide_true, decide_false, Bool.not_true, Bool.not_false, Bool.and_true, Bool.true_and, Bool.false_and, Bool.and_false, n_nlt0, n_neg_t, n_neg_f, k_0, k_566, k_567, k_568, k_569, k_570, k_571, k_572, k_573, k_574, k_575, k_576]
      exact e
    | true =>
      by_cases e0 : i = 0
      · subst e0
        have st := okC_step (j := true) (i := 0) (c := 120) (Or.inl ⟨by decide, by omega⟩)
        have ex : exT 120 = [120] := rfl
        rw [ex] at st
        rw [bI_t] at endd ⊢
        simp (disch := omega) only [v197_29, v197_31, v197_315, v197_317, v197_320, v197_322, v197_325, v197_326, u197_328, Nat.add_zero, n_cl, n_in_t, n_lt_t, n_lt_f, n_eq_t, n_eq_f, n_sub, nI_add, n_mul, n_01, ↓reduceIte, if_true, if_false, eq_self, true_or, or_true, and_self, and_true, true_and, Nat.reduceAdd, Nat.reduceMul, Nat.reduceLeDiff, Nat.zero_le, not_true_eq_false, not_false_eq_true, cat2_n, cat2_i, cat2_r, ws_0, ws_i, ws_r, ws_l, ws_d, aftr_n, aftr_s, bI_ok, bI_t, bI_f, up_s, up_n, n_bit, decide_true, decide_false, Bool.not_true, Bool.not_false, Bool.and_true, Bool.true_and, Bool.false_and, Bool.and_false, n_nlt0, n_neg_t, n_neg_f, k_0, k_566, k_567, k_568, k_569, k_570, k_571, k_572, k_573, k_574, k_575, k_576, leq_t]
        refine c67 (by omega) hw hg (CQ_ok (opApp_ok (by omega) (by omega)) (fun I3 q3 w3 g3 => ?_))
        simp (disch := omega) only [v197_331, v197_332, v197_333, v197_335, v197_337, v197_338, Nat.add_zero, n_cl, n_in_t, n_lt_t, n_lt_f, n_eq_t, n_eq_f, n_sub, nI_add, n_mul, n_01, ↓reduceIte, if_true, if_false, eq_self, true_or, or_true, and_self, and_true, true_and, Nat.reduceAdd, Nat.reduceMul, Nat.reduceLeDiff, Nat.zero_le, not_true_eq_false, not_false_eq_true, cat2_n, cat2_i, cat2_r, ws_0, ws_i, ws_r, ws_l, ws_d, aftr_n, aftr_s, bI_ok, bI_t, bI_f, up_s, up_n, n_bit, decide_true, decide_false, Bool.not_true, Bool.not_false, Bool.and_true, Bool.true_and, Bool.false_and, Bool.and_false, n_nlt0, n_neg_t, n_neg_f, k_0, k_566, k_567, k_568, k_569, k_570, k_571, k_572, k_573, k_574, k_575, k_576]
        have w4 : CSt b (up2 I3 (ad b 575) T.length (nI 120)) q3 (A, n, H, B ++ [120]) := w3.scr (P := fun o _ => o = 575) hg (Ag.rf.up rfl) (fun o j h => by omega)
        have := endd _ q3 (B ++ [120]) (T ++ [120]) 1 (cc + 1) (cn + 6) (by rw [List.length_append, List.length_singleton]; omega) (by rw [List.length_append, List.length_singleton]; omega) (by rw [List.length_append, List.length_singleton]; omega) (by omega) (by omega) (by omega) (by omega) w4 (by rw [leW_app, hle, st.1]; rfl) (by rw [tkw_app, htk, hle, st.2]) ((hit.ag g3 pCls_5).snoc) ((ga.tr (g3.mn pCls_lt)).up (Or.inr rfl))
        rwa [List.length_append, List.length_singleton] at this
      · have e := endd I1 q1 B T i cc cn (by omega) (by omega) (by omega) (by omega) (by omega) (by omega) (by omega) hw hle htk hit ga
        rw [bI_t] at e ⊢
        simp (disch := omega) only [v197_29, v197_31, v197_315, v197_317, v197_320, v197_322, v197_325, v197_326, u197_328, v197_331, v197_332, v197_333, v197_335, v197_337, v197_338, Nat.add_zero, n_cl, n_in_t, n_lt_t, n_lt_f, n_eq_t, n_eq_f, n_sub, nI_add, n_mul, n_01, ↓reduceIte, if_true, if_false, eq_self, true_or, or_true, and_self, and_true, true_and, Nat.reduceAdd, Nat.reduceMul, Nat.reduceLeDiff, Nat.zero_le, not_true_eq_false, not_false_eq_true, cat2_n, cat2_i, cat2_r, ws_0, ws_i, ws_r, ws_l, ws_d, aftr_n, aftr_s, bI_ok, bI_t, bI_f, up_s, up_n, n_bit, decide_true, decide_false, Bool.not_true, Bool.not_false, Bool.and_true, Bool.true_and, Bool.false_and, Bool.and_false, n_nlt0, n_neg_t, n_neg_f, k_0, k_566, k_567, k_568, k_569, k_570, k_571, k_572, k_573, k_574, k_575, k_576]
        exact e
  | succ d ih =>
    intro k I1 q1 B T j i cc cn x9 x10 hx9 h hT hi hB hc hn hw hg hle htk hit ga
    rw [v197_27]
    have al := atN_lt (v := y >>> (nI k &&& 31)) (show 0 < 16 by omega)
    simp (disch := omega) only [v197_29, v197_31, v197_34, v197_35, v197_37, v197_38, u197_40, v197_43, Nat.add_zero, n_cl, n_in_t, n_lt_t, n_lt_f, n_eq_t, n_eq_f, n_sub, nI_add, n_mul, n_01, ↓reduceIte, if_true, if_false, eq_self, true_or, or_true, and_self, and_true, true_and, Nat.reduceAdd, Nat.reduceMul, Nat.reduceLeDiff, Nat.zero_le, not_true_eq_false, not_false_eq_true, cat2_n, cat2_i, cat2_r, ws_0, ws_i, ws_r, ws_l, ws_d, aftr_n, aftr_s, bI_ok, bI_t, bI_f, up_s, up_n, n_bit, decide_true, decide_false, Bool.not_true, Bool.not_false, Bool.and_true, Bool.true_and, Bool.false_and, Bool.and_false, n_nlt0, n_neg_t, n_neg_f, k_0, k_566, k_567, k_568, k_569, k_570, k_571, k_572, k_573, k_574, k_575, k_576, leq_t, c193v]
    generalize atN (y >>> (nI k &&& 31)) 16 = a at al
    refine l197a (by omega) al (by omega) (by omega) (by omega) (fun c hc1 hc2 => ?_)
    have st := okC_step hc1
    have il : (exT c).length ≤ 3 := by unfold exT; split <;> simp
    refine l197b (by omega) hc1 hc2 (by omega) (by omega) (by omega) (by omega) (by omega) hw hg hit (fun I2 q2 cc' cn' c10 h1 h2 w2 i2 g2 => ?_)
    have := ih (k + 1) I2 q2 (B ++ exT c) (T ++ [c]) (c == 123 || (j && !(c == 125))) (if c = 123 then 0 else i + 1) cc' cn' (some (.int (nI a))) (some (.int (nI c10))) rfl (by omega) (by rw [List.length_append, List.length_singleton]; omega) (by split <;> omega) (by rw [List.length_append]; omega) (by omega) (by omega) w2 hg (by rw [leW_app, hle, st.1]) (by rw [tkw_app, htk, hle, st.2]) i2 (ga.tr g2)
    rwa [List.length_append, List.length_singleton] at this
theorem c197 {x y : Int32} (hw : CSt b I q (A, n, H, B)) (hg : GoodW (A, n, H, B)) (hQ : ∀ I' q' B' T', CSt b I' q' (A, n, H, B') → leW 0 B' = 0 → tkw 0 B' = T' → 1 ≤ T'.length → T'.length ≤ 16 → B'.length ≤ 60 → IT b I' T' → Ag pLt b I I' → Q (.inl (some (.int (nI T'.length)))) (KAt KL b, I', RAt RL b (q'), L, sz, ex)) :
    X z 197 0 [some (.ref (ad b 0)), some (.int x), some (.int y), some (.ref (ad b 575)), none, none, none, none, none, none, none] [] (0, 0) (KAt KL b, I, RAt RL b q, L, sz, ex) Q := by
  have al := atN_lt (v := x) (show 0 < 12 by omega)
  simp (disch := omega) only [v197_0, u197_1, Nat.add_zero, n_cl, n_in_t, n_lt_t, n_lt_f, n_eq_t, n_eq_f, n_sub, nI_add, n_mul, n_01, ↓reduceIte, if_true, if_false, eq_self, true_or, or_true, and_self, and_true, true_and, Nat.reduceAdd, Nat.reduceMul, Nat.reduceLeDiff, Nat.zero_le, not_true_eq_false, not_false_eq_true, cat2_n, cat2_i, cat2_r, ws_0, ws_i, ws_r, ws_l, ws_d, aftr_n, aftr_s, bI_ok, bI_t, bI_f, up_s, up_n, n_bit, decide_true, decide_false, Bool.not_true, Bool.not_false, Bool.and_true, Bool.true_and, Bool.false_and, Bool.and_false, n_nlt0, n_neg_t, n_neg_f, k_0, k_566, k_567, k_568, k_569, k_570, k_571, k_572, k_573, k_574, k_575, k_576, leq_t]
  refine c68 hw hg (CQ_ok (v := B.length) (w := (A, n, H, [])) rfl (fun I1 q1 w1 g1 => ?_))
  simp (disch := omega) only [v197_4, v197_5, v197_6, v197_8, v197_9, v197_11, v197_12, v197_14, v197_15, v197_16, u197_18, v197_21, v197_22, v197_24, v197_25, Nat.add_zero, n_cl, n_in_t, n_lt_t, n_lt_f, n_eq_t, n_eq_f, n_sub, nI_add, n_mul, n_01, ↓reduceIte, if_true, if_false, eq_self, true_or, or_true, and_self, and_true, true_and, Nat.reduceAdd, Nat.reduceMul, Nat.reduceLeDiff, Nat.zero_le, not_true_eq_false, not_false_eq_true, cat2_n, cat2_i, cat2_r, ws_0, ws_i, ws_r, ws_l, ws_d, aftr_n, aftr_s, bI_ok, bI_t, bI_f, up_s, up_n, n_bit, decide_true, decide_false, Bool.not_true, Bool.not_false, Bool.and_true, Bool.true_and, Bool.false_and, Bool.and_false, n_nlt0, n_neg_t, n_neg_f, k_0, k_566, k_567, k_568, k_569, k_570, k_571, k_572, k_573, k_574, k_575, k_576, leq_t, c193v]
  have := l197 (Q := Q) (z := z) (KL := KL) (RL := RL) (L := L) (sz := sz) (ex := ex) (x := x) (y := y) (s := 3 + atN x 12) (by omega) (by omega) hQ (3 + atN x 12) 0 I1 q1 [] [] false 0 0 0 none none rfl (by omega) rfl (by omega) (by simp) (by omega) (by omega) w1 hg rfl rfl (fun k hk => absurd hk (Nat.not_lt_zero _)) (g1.mn pCls_lt)
  rw [bI_f] at this
  exact this
end LI
