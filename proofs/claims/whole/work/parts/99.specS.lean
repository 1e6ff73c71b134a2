/-! THE REFERENCE: what a text begins with -/
def letB (c : Nat) : Bool := decide (97 ≤ c ∧ c ≤ 122)
/-- how many characters of r are right as a name or a word (kind 1) of which k letters stood before -/
def wE (kind : Nat) : Nat → List Nat → Nat
  | _, [] => 0
  | k, c :: r => if kind = 1 ∧ c = 42 then (if 0 < k then 1 else 0) else if letB c = true ∧ k < 8 then 1 + wE kind (k + 1) r else 0
/-- the letters that r begins with, m at most -/
def ldr : Nat → List Nat → Nat
  | 0, _ => 0
  | _ + 1, [] => 0
  | m + 1, c :: r => if letB c = true then 1 + ldr m r else 0
theorem ldr_nil {m : Nat} : ldr m [] = 0 := by cases m <;> rfl
def fldB (c : Nat) : Bool := c == 110 || c == 103 || c == 119 || c == 99
def plnB (c : Nat) : Bool := letB c || c == 95 || c == 44 || c == 46 || c == 47 || c == 124
/-- how a letter is read on: 0 outside, 1 a joint part begun, 2 in one, 3 and 4 (5 and 6) in a field, 7 wrong -/
def nxt (w c : Nat) : Nat := if w = 3 then (if fldB c = true then 4 else 7) else if w = 5 then (if fldB c = true then 6 else 7) else if w = 4 then (if c = 62 then 0 else 7) else if w = 6 then (if c = 62 then 2 else 7)
  else if w = 0 then (if c = 123 then 1 else if c = 60 then 3 else if plnB c = true then 0 else 7) else if w = 1 then (if c = 60 then 5 else if plnB c = true then 2 else 7)
  else if w = 2 then (if c = 125 then 0 else if c = 60 then 5 else if plnB c = true then 2 else 7) else 7
def leF : Nat → List Nat → Nat
  | _, [] => 0
  | w, c :: r => if nxt w c = 7 then 0 else 1 + leF (nxt w c) r
def leW : Nat → List Nat → Nat
  | w, [] => w
  | w, c :: r => leW (nxt w c) r
def rgt (kind : Nat) (B : List Nat) : Nat := if kind = 2 then leF 0 B else wE kind 0 B
def cpl (kind : Nat) (B : List Nat) : Bool := if kind = 2 then decide (B ≠ []) && decide (leW 0 B = 0) else decide (B ≠ []) && decide (wE kind 0 B = B.length)
theorem nxt_7 {c : Nat} : nxt 7 c = 7 := rfl
theorem leW_7 : ∀ r, leW 7 r = 7
  | [] => rfl
  | _ :: r => leW_7 r
theorem nxt_le {w c : Nat} : nxt w c ≤ 7 := by
  unfold nxt
  repeat' split
  all_goals omega
theorem leF_le : ∀ (r : List Nat) (w : Nat), leF w r ≤ r.length
  | [], _ => Nat.le_refl _
  | c :: r, w => by
    have := leF_le r (nxt w c)
    unfold leF
    rw [List.length_cons]
    split <;> omega
theorem wE_le {kind : Nat} : ∀ (r : List Nat) (k : Nat), wE kind k r ≤ r.length
  | [], _ => Nat.le_refl _
  | c :: r, k => by
    have := wE_le (kind := kind) r (k + 1)
    unfold wE
    rw [List.length_cons]
    split
    · split <;> omega
    · split <;> omega
theorem wE_ldr {kind : Nat} : ∀ (r : List Nat) (k : Nat), k ≤ 8 → wE kind k r = if kind = 1 ∧ 0 < k + ldr (8 - k) r ∧ ldr (8 - k) r < r.length ∧ r.getD (ldr (8 - k) r) 0 = 42 then ldr (8 - k) r + 1 else ldr (8 - k) r
  | [], k, hk => by rw [ldr_nil, if_neg (fun x => absurd x.2.2.1 (Nat.not_lt_zero _))]; rfl
  | c :: r, k, hk => by
    unfold wE
    by_cases h8 : k = 8
    · subst h8
      have e0 : ldr (8 - 8) (c :: r) = 0 := rfl
      rw [e0]
      by_cases e : kind = 1 ∧ c = 42
      · rw [if_pos e, if_pos (show 0 < 8 by omega), if_pos (show kind = 1 ∧ 0 < 8 + 0 ∧ 0 < (c :: r).length ∧ (c :: r).getD 0 0 = 42 from ⟨e.1, by omega, by simp, e.2⟩)]
      · rw [if_neg e, if_neg (show ¬ (letB c = true ∧ 8 < 8) from fun x => by omega), if_neg (show ¬ (kind = 1 ∧ 0 < 8 + 0 ∧ 0 < (c :: r).length ∧ (c :: r).getD 0 0 = 42) from fun x => e ⟨x.1, x.2.2.2⟩)]
    · obtain ⟨m, hm⟩ : ∃ m, 8 - k = m + 1 := ⟨7 - k, by omega⟩
      have hm2 : 8 - (k + 1) = m := by omega
      rw [hm]
      unfold ldr
      by_cases hl : letB c = true
      · have hc : ¬ c = 42 := by unfold letB at hl; rw [decide_eq_true_eq] at hl; omega
        rw [if_neg (fun x => hc x.2), if_pos ⟨hl, by omega⟩, if_pos hl, wE_ldr r (k + 1) (by omega), hm2]
        have e : (kind = 1 ∧ 0 < k + 1 + ldr m r ∧ ldr m r < r.length ∧ r.getD (ldr m r) 0 = 42) = (kind = 1 ∧ 0 < k + (1 + ldr m r) ∧ 1 + ldr m r < (c :: r).length ∧ (c :: r).getD (1 + ldr m r) 0 = 42) := by
          rw [List.length_cons, Nat.add_comm 1 (ldr m r), List.getD_cons_succ]
          exact propext ⟨fun x => ⟨x.1, by omega, by omega, x.2.2.2⟩, fun x => ⟨x.1, by omega, by omega, x.2.2.2⟩⟩
        simp only [e]
        split <;> omega
      · rw [if_neg hl]
        by_cases e : kind = 1 ∧ c = 42
        · rw [if_pos e]
          by_cases h0 : 0 < k
          · rw [if_pos h0, if_pos ⟨e.1, by omega, by simp, e.2⟩]
          · rw [if_neg h0, if_neg (fun x => by omega)]
        · rw [if_neg e, if_neg (fun x => hl x.1), if_neg (fun x => e ⟨x.1, x.2.2.2⟩)]
def pSx (o j : Nat) : Prop := o = 566 ∧ 18 ≤ j ∧ j ≤ 21
section OX
variable {z : P0} {KL : Nat → Nat × Nat} {RL : Nat → Nat → Option Nat} {q : Nat → Nat} {b : Nat} {I : Nat → Nat → Int32} {L : Nat → Nat → Int64} {sz : Nat} {ex : Bool} {Q : Res → Mem → Prop} {A : Row}
variable {n : Nat} {H : Nat → Row} {B : List Nat}
theorem pSx_r : ∀ o j, pSx o j → pRef o j := fun o j h => by unfold pSx at h; unfold pRef; omega
theorem RS.sx {w : Wd} {I' : Nat → Nat → Int32} (h : RS b I w) (hg : Ag pSx b I I') : RS b I' w := h.ag hg (fun o j x => by unfold pSx at x; omega)
set_option maxHeartbeats 4000000 in
theorem c147 {c kind k s : Nat} (hk : kind ≤ 1) (hc : c < 4294967296) (hk8 : k ≤ 8) (hs1 : s ≤ 1) (m1 : I (ad b 566) 18 = nI k) (m2 : I (ad b 566) 19 = nI s)
    (q1 : kind = 1 → c = 42 → 0 < k → s = 0 → ∀ I', Ag pSx b I I' → I' (ad b 566) 18 = nI k → I' (ad b 566) 19 = nI 1 → Q (.inl (some (.int (nI 1)))) (KAt KL b, I', RAt RL b q, L, sz, ex))
    (q2 : ¬ (kind = 1 ∧ c = 42) → letB c = true → k < 8 → s = 0 → ∀ I', Ag pSx b I I' → I' (ad b 566) 18 = nI (k + 1) → I' (ad b 566) 19 = nI 0 → Q (.inl (some (.int (nI 1)))) (KAt KL b, I', RAt RL b q, L, sz, ex))
    (q3 : ¬ ((kind = 1 ∧ c = 42 ∧ 0 < k ∧ s = 0) ∨ (¬ (kind = 1 ∧ c = 42) ∧ letB c = true ∧ k < 8 ∧ s = 0)) → ∀ I', Ag pSx b I I' → Q (.inl (some (.int (nI 0)))) (KAt KL b, I', RAt RL b q, L, sz, ex)) :
    X z 147 0 [some (.ref (ad b 566)), some (.int (nI c)), some (.int (nI kind)), none] [] (0, 0) (KAt KL b, I, RAt RL b q, L, sz, ex) Q := by
  have a1 : ∀ v, Ag pSx b I (up2 I (ad b 566) 19 v) := fun v => Ag.rf.up ⟨rfl, by omega, by omega⟩
  have a2 : ∀ v, Ag pSx b I (up2 I (ad b 566) 18 v) := fun v => Ag.rf.up ⟨rfl, by omega, by omega⟩
  by_cases e : kind = 1 ∧ c = 42
  · obtain ⟨rfl, rfl⟩ := e
    by_cases h0 : 0 < k
    · by_cases h1 : s = 0
      · subst h1
        simp (disch := omega) only [v147_0, v147_1, v147_2, v147_5, v147_6, v147_8, v147_11, v147_12, v147_15, v147_18, v147_19, v147_22, v147_25, v147_26, v147_29, v147_30, v147_31, v147_32, v147_33, v147_36, v147_37, v147_38, v147_39, v147_41, u147_43, v147_46, v147_49, v147_50, v147_53, v147_55, v147_58, v147_59, v147_62, v147_65, v147_66, v147_69, v147_70, v147_71, v147_72, v147_72i, v147_73, v147_76, v147_77, v147_80, v147_81, v147_84, v147_85, v147_86, v147_89, v147_90, k_566, k_567, k_568, k_569, k_570, k_571, k_572, k_573, k_574, k_575, k_576, r_566_0, r_566_2, r_566_4, r_566_6, r_566_7, r_566_8, r_566_9, r_566_10, r_566_11, r_566_13, va_rf_s, n_cl, n_in_t, n_lt_t, n_lt_f, n_eq_t, n_eq_f, n_sub, nI_add, n_mul, ↓reduceIte, if_true, if_false, eq_self, true_or, or_true, and_self, and_true, true_and, Nat.reduceAdd, Nat.reduceMul, Nat.reduceLeDiff, Nat.zero_le, not_true_eq_false, not_false_eq_true, cat2_n, cat2_i, cat2_r, ws_0, ws_i, ws_r, ws_l, ws_d, aftr_n, aftr_s, bI_ok, bI_t, bI_f, up_s, up_n, n_bit, decide_true, decide_false, Bool.not_true, Bool.not_false, Bool.and_true, Bool.true_and, Bool.false_and, Bool.and_false, m1, m2]
        exact q1 rfl rfl h0 rfl _ (a1 _) (by rw [up_n (by omega)]; exact m1) up_s
      · have h2 : s = 1 := by omega
        subst h2
        simp (disch := omega) only [v147_0, v147_1, v147_2, v147_5, v147_6, v147_8, v147_11, v147_12, v147_15, v147_18, v147_19, v147_22, v147_25, v147_26, v147_29, v147_30, v147_31, v147_32, v147_33, v147_36, v147_37, v147_38, v147_39, v147_41, u147_43, v147_46, v147_49, v147_50, v147_53, v147_55, v147_58, v147_59, v147_62, v147_65, v147_66, v147_69, v147_70, v147_71, v147_72, v147_72i, v147_73, v147_76, v147_77, v147_80, v147_81, v147_84, v147_85, v147_86, v147_89, v147_90, k_566, k_567, k_568, k_569, k_570, k_571, k_572, k_573, k_574, k_575, k_576, r_566_0, r_566_2, r_566_4, r_566_6, r_566_7, r_566_8, r_566_9, r_566_10, r_566_11, r_566_13, va_rf_s, n_cl, n_in_t, n_lt_t, n_lt_f, n_eq_t, n_eq_f, n_sub, nI_add, n_mul, ↓reduceIte, if_true, if_false, eq_self, true_or, or_true, and_self, and_true, true_and, Nat.reduceAdd, Nat.reduceMul, Nat.reduceLeDiff, Nat.zero_le, not_true_eq_false, not_false_eq_true, cat2_n, cat2_i, cat2_r, ws_0, ws_i, ws_r, ws_l, ws_d, aftr_n, aftr_s, bI_ok, bI_t, bI_f, up_s, up_n, n_bit, decide_true, decide_false, Bool.not_true, Bool.not_false, Bool.and_true, Bool.true_and, Bool.false_and, Bool.and_false, m1, m2]
        exact q3 (by omega) _ (a1 _)
    · simp (disch := omega) only [v147_0, v147_1, v147_2, v147_5, v147_6, v147_8, v147_11, v147_12, v147_15, v147_18, v147_19, v147_22, v147_25, v147_26, v147_29, v147_30, v147_31, v147_32, v147_33, v147_36, v147_37, v147_38, v147_39, v147_41, u147_43, v147_46, v147_49, v147_50, v147_53, v147_55, v147_58, v147_59, v147_62, v147_65, v147_66, v147_69, v147_70, v147_71, v147_72, v147_72i, v147_73, v147_76, v147_77, v147_80, v147_81, v147_84, v147_85, v147_86, v147_89, v147_90, k_566, k_567, k_568, k_569, k_570, k_571, k_572, k_573, k_574, k_575, k_576, r_566_0, r_566_2, r_566_4, r_566_6, r_566_7, r_566_8, r_566_9, r_566_10, r_566_11, r_566_13, va_rf_s, n_cl, n_in_t, n_lt_t, n_lt_f, n_eq_t, n_eq_f, n_sub, nI_add, n_mul, ↓reduceIte, if_true, if_false, eq_self, true_or, or_true, and_self, and_true, true_and, Nat.reduceAdd, Nat.reduceMul, Nat.reduceLeDiff, Nat.zero_le, not_true_eq_false, not_false_eq_true, cat2_n, cat2_i, cat2_r, ws_0, ws_i, ws_r, ws_l, ws_d, aftr_n, aftr_s, bI_ok, bI_t, bI_f, up_s, up_n, n_bit, decide_true, decide_false, Bool.not_true, Bool.not_false, Bool.and_true, Bool.true_and, Bool.false_and, Bool.and_false, m1, m2]
      exact q3 (by omega) _ (a1 _)
  · have fin : X z 147 38 [some (.ref (ad b 566)), some (.int (nI c)), some (.int (nI kind)), none] [] (0, 0) (KAt KL b, I, RAt RL b q, L, sz, ex) Q := by
      cases hl : letB c with
      | true =>
        unfold letB at hl
        have hl2 := of_decide_eq_true hl
        by_cases h8 : k < 8
        · by_cases h1 : s = 0
          · subst h1
            simp (disch := omega) only [v147_38, v147_39, v147_41, u147_43, v147_46, v147_49, v147_50, v147_53, v147_55, v147_58, v147_59, v147_62, v147_65, v147_66, v147_69, v147_70, v147_71, v147_72, v147_72i, v147_73, v147_76, v147_77, v147_80, v147_81, v147_84, v147_85, v147_86, v147_89, v147_90, k_566, k_567, k_568, k_569, k_570, k_571, k_572, k_573, k_574, k_575, k_576, r_566_0, r_566_2, r_566_4, r_566_6, r_566_7, r_566_8, r_566_9, r_566_10, r_566_11, r_566_13, va_rf_s, n_cl, n_in_t, n_lt_t, n_lt_f, n_eq_t, n_eq_f, n_sub, nI_add, n_mul, ↓reduceIte, if_true, if_false, eq_self, true_or, or_true, and_self, and_true, true_and, Nat.reduceAdd, Nat.reduceMul, Nat.reduceLeDiff, Nat.zero_le, not_true_eq_false, not_false_eq_true, cat2_n, cat2_i, cat2_r, ws_0, ws_i, ws_r, ws_l, ws_d, aftr_n, aftr_s, bI_ok, bI_t, bI_f, up_s, up_n, n_bit, decide_true, decide_false, Bool.not_true, Bool.not_false, Bool.and_true, Bool.true_and, Bool.false_and, Bool.and_false, c106, n_wi, m1, m2, decide_eq_true hl2]
            exact q2 e hl h8 rfl _ (a2 _) up_s (by rw [up_n (by omega)]; exact m2)
          · simp (disch := omega) only [v147_38, v147_39, v147_41, u147_43, v147_46, v147_49, v147_50, v147_53, v147_55, v147_58, v147_59, v147_62, v147_65, v147_66, v147_69, v147_70, v147_71, v147_72, v147_72i, v147_73, v147_76, v147_77, v147_80, v147_81, v147_84, v147_85, v147_86, v147_89, v147_90, k_566, k_567, k_568, k_569, k_570, k_571, k_572, k_573, k_574, k_575, k_576, r_566_0, r_566_2, r_566_4, r_566_6, r_566_7, r_566_8, r_566_9, r_566_10, r_566_11, r_566_13, va_rf_s, n_cl, n_in_t, n_lt_t, n_lt_f, n_eq_t, n_eq_f, n_sub, nI_add, n_mul, ↓reduceIte, if_true, if_false, eq_self, true_or, or_true, and_self, and_true, true_and, Nat.reduceAdd, Nat.reduceMul, Nat.reduceLeDiff, Nat.zero_le, not_true_eq_false, not_false_eq_true, cat2_n, cat2_i, cat2_r, ws_0, ws_i, ws_r, ws_l, ws_d, aftr_n, aftr_s, bI_ok, bI_t, bI_f, up_s, up_n, n_bit, decide_true, decide_false, Bool.not_true, Bool.not_false, Bool.and_true, Bool.true_and, Bool.false_and, Bool.and_false, c106, n_wi, m1, m2, decide_eq_true hl2, Nat.add_zero]
            exact q3 (by omega) _ (a2 _)
        · simp (disch := omega) only [v147_38, v147_39, v147_41, u147_43, v147_46, v147_49, v147_50, v147_53, v147_55, v147_58, v147_59, v147_62, v147_65, v147_66, v147_69, v147_70, v147_71, v147_72, v147_72i, v147_73, v147_76, v147_77, v147_80, v147_81, v147_84, v147_85, v147_86, v147_89, v147_90, k_566, k_567, k_568, k_569, k_570, k_571, k_572, k_573, k_574, k_575, k_576, r_566_0, r_566_2, r_566_4, r_566_6, r_566_7, r_566_8, r_566_9, r_566_10, r_566_11, r_566_13, va_rf_s, n_cl, n_in_t, n_lt_t, n_lt_f, n_eq_t, n_eq_f, n_sub, nI_add, n_mul, ↓reduceIte, if_true, if_false, eq_self, true_or, or_true, and_self, and_true, true_and, Nat.reduceAdd, Nat.reduceMul, Nat.reduceLeDiff, Nat.zero_le, not_true_eq_false, not_false_eq_true, cat2_n, cat2_i, cat2_r, ws_0, ws_i, ws_r, ws_l, ws_d, aftr_n, aftr_s, bI_ok, bI_t, bI_f, up_s, up_n, n_bit, decide_true, decide_false, Bool.not_true, Bool.not_false, Bool.and_true, Bool.true_and, Bool.false_and, Bool.and_false, c106, n_wi, m1, m2, decide_eq_true hl2, Nat.add_zero]
          exact q3 (by omega) _ (a2 _)
      | false =>
        have hl2 := of_decide_eq_false hl
        simp (disch := omega) only [v147_38, v147_39, v147_41, u147_43, v147_46, v147_49, v147_50, v147_53, v147_55, v147_58, v147_59, v147_62, v147_65, v147_66, v147_69, v147_70, v147_71, v147_72, v147_72i, v147_73, v147_76, v147_77, v147_80, v147_81, v147_84, v147_85, v147_86, v147_89, v147_90, k_566, k_567, k_568, k_569, k_570, k_571, k_572, k_573, k_574, k_575, k_576, r_566_0, r_566_2, r_566_4, r_566_6, r_566_7, r_566_8, r_566_9, r_566_10, r_566_11, r_566_13, va_rf_s, n_cl, n_in_t, n_lt_t, n_lt_f, n_eq_t, n_eq_f, n_sub, nI_add, n_mul, ↓reduceIte, if_true, if_false, eq_self, true_or, or_true, and_self, and_true, true_and, Nat.reduceAdd, Nat.reduceMul, Nat.reduceLeDiff, Nat.zero_le, not_true_eq_false, not_false_eq_true, cat2_n, cat2_i, cat2_r, ws_0, ws_i, ws_r, ws_l, ws_d, aftr_n, aftr_s, bI_ok, bI_t, bI_f, up_s, up_n, n_bit, decide_true, decide_false, Bool.not_true, Bool.not_false, Bool.and_true, Bool.true_and, Bool.false_and, Bool.and_false, c106, n_wi, m1, m2, decide_eq_false hl2, Nat.add_zero]
        refine q3 (fun x => ?_) _ (a2 _)
        rcases x with x | x
        · exact e ⟨x.1, x.2.1⟩
        · rw [x.2.1] at hl; cases hl
    by_cases e1 : kind = 1
    · simp (disch := omega) only [v147_0, v147_1, v147_2, v147_5, v147_6, v147_8, k_566, k_567, k_568, k_569, k_570, k_571, k_572, k_573, k_574, k_575, k_576, r_566_0, r_566_2, r_566_4, r_566_6, r_566_7, r_566_8, r_566_9, r_566_10, r_566_11, r_566_13, va_rf_s, n_cl, n_in_t, n_lt_t, n_lt_f, n_eq_t, n_eq_f, n_sub, nI_add, n_mul, ↓reduceIte, if_true, if_false, eq_self, true_or, or_true, and_self, and_true, true_and, Nat.reduceAdd, Nat.reduceMul, Nat.reduceLeDiff, Nat.zero_le, not_true_eq_false, not_false_eq_true, cat2_n, cat2_i, cat2_r, ws_0, ws_i, ws_r, ws_l, ws_d, aftr_n, aftr_s, bI_ok, bI_t, bI_f, up_s, up_n, n_bit, decide_true, decide_false, Bool.not_true, Bool.not_false, Bool.and_true, Bool.true_and, Bool.false_and, Bool.and_false]
      exact fin
    · simp (disch := omega) only [v147_0, v147_1, v147_2, v147_5, v147_6, v147_8, k_566, k_567, k_568, k_569, k_570, k_571, k_572, k_573, k_574, k_575, k_576, r_566_0, r_566_2, r_566_4, r_566_6, r_566_7, r_566_8, r_566_9, r_566_10, r_566_11, r_566_13, va_rf_s, n_cl, n_in_t, n_lt_t, n_lt_f, n_eq_t, n_eq_f, n_sub, nI_add, n_mul, ↓reduceIte, if_true, if_false, eq_self, true_or, or_true, and_self, and_true, true_and, Nat.reduceAdd, Nat.reduceMul, Nat.reduceLeDiff, Nat.zero_le, not_true_eq_false, not_false_eq_true, cat2_n, cat2_i, cat2_r, ws_0, ws_i, ws_r, ws_l, ws_d, aftr_n, aftr_s, bI_ok, bI_t, bI_f, up_s, up_n, n_bit, decide_true, decide_false, Bool.not_true, Bool.not_false, Bool.and_true, Bool.true_and, Bool.false_and, Bool.and_false]
      exact fin
theorem getD_tail {B r : List Nat} {c i : Nat} (h : ∀ j, j < (c :: r).length → B.getD (i + j) 0 = (c :: r).getD j 0) : B.getD i 0 = c ∧ ∀ j, j < r.length → B.getD (i + 1 + j) 0 = r.getD j 0 := by
  refine ⟨?_, fun j hj => ?_⟩
  · have := h 0 (by simp)
    rwa [Nat.add_zero] at this
  · have := h (j + 1) (by rw [List.length_cons]; omega)
    rw [show i + 1 + j = i + (j + 1) by omega, this]; rfl
/-- behind a star nothing is right -/
theorem l150s {i : Nat} (hs : RS b I (A, n, H, B)) {k : Nat} (hk : k ≤ 8) (hi : i ≤ B.length) (m1 : I (ad b 566) 18 = nI k) (m2 : I (ad b 566) 19 = nI 1) (hQ : ∀ I', Ag pSx b I I' → (i = B.length → I' = I) → Q (.inl (some (.int (nI i)))) (KAt KL b, I', RAt RL b q, L, sz, ex)) : X z 150 22 [some (.ref (ad b 566)), some (.int (nI 1)), some (.int (nI i))] [] (0, 0) (KAt KL b, I, RAt RL b q, L, sz, ex) Q := by
  have hl : I (ad b 566) 3 = nI B.length := hs.2.2.2.1
  have hb : B.length ≤ 60 := hs.2.2.2.2.1
  rw [v150_22]
  by_cases e : i = B.length
  · simp (disch := omega) only [v150_23, v150_24, v150_27, v150_30, v150_31, v150_32, v150_35, v150_36, v150_37, v150_40, v150_41, u150_42, v150_45, v150_48, v150_51, v150_52, v150_53, v150_56, v150_57, v150_58, u150_59, v150_62, v150_65, v150_68, v150_71, v150_72, k_566, k_567, k_568, k_569, k_570, k_571, k_572, k_573, k_574, k_575, k_576, r_566_0, r_566_2, r_566_4, r_566_6, r_566_7, r_566_8, r_566_9, r_566_10, r_566_11, r_566_13, va_rf_s, n_cl, n_in_t, n_lt_t, n_lt_f, n_eq_t, n_eq_f, n_sub, nI_add, n_mul, ↓reduceIte, if_true, if_false, eq_self, true_or, or_true, and_self, and_true, true_and, Nat.reduceAdd, Nat.reduceMul, Nat.reduceLeDiff, Nat.zero_le, not_true_eq_false, not_false_eq_true, cat2_n, cat2_i, cat2_r, ws_0, ws_i, ws_r, ws_l, ws_d, aftr_n, aftr_s, bI_ok, bI_t, bI_f, up_s, up_n, n_bit, decide_true, decide_false, Bool.not_true, Bool.not_false, Bool.and_true, Bool.true_and, Bool.false_and, Bool.and_false, hl]
    exact hQ I Ag.rf (fun _ => rfl)
  · have hc := hs.2.2.2.2.2.1 i (by show i < B.length; omega)
    dsimp only at hc
    have hcb : 33 ≤ B.getD i 0 ∧ B.getD i 0 ≤ 126 := hs.2.2.2.2.2.2 _ (by show B.getD i 0 ∈ B; rw [List.getD_eq_getElem?_getD, List.getElem?_eq_getElem (by omega)]; exact List.getElem_mem _)
    simp (disch := omega) only [v150_23, v150_24, v150_27, v150_30, v150_31, v150_32, v150_35, v150_36, v150_37, v150_40, v150_41, u150_42, v150_45, v150_48, v150_51, v150_52, v150_53, v150_56, v150_57, v150_58, u150_59, v150_62, v150_65, v150_68, v150_71, v150_72, k_566, k_567, k_568, k_569, k_570, k_571, k_572, k_573, k_574, k_575, k_576, r_566_0, r_566_2, r_566_4, r_566_6, r_566_7, r_566_8, r_566_9, r_566_10, r_566_11, r_566_13, va_rf_s, n_cl, n_in_t, n_lt_t, n_lt_f, n_eq_t, n_eq_f, n_sub, nI_add, n_mul, ↓reduceIte, if_true, if_false, eq_self, true_or, or_true, and_self, and_true, true_and, Nat.reduceAdd, Nat.reduceMul, Nat.reduceLeDiff, Nat.zero_le, not_true_eq_false, not_false_eq_true, cat2_n, cat2_i, cat2_r, ws_0, ws_i, ws_r, ws_l, ws_d, aftr_n, aftr_s, bI_ok, bI_t, bI_f, up_s, up_n, n_bit, decide_true, decide_false, Bool.not_true, Bool.not_false, Bool.and_true, Bool.true_and, Bool.false_and, Bool.and_false, hl, hc]
    refine c147 (by omega) (by omega) hk (Nat.le_refl 1) m1 m2 (fun _ _ _ h => by cases h) (fun _ _ _ h => by cases h) (fun _ I1 g1 => ?_)
    simp (disch := omega) only [v150_62, v150_65, v150_68, v150_71, v150_72, k_566, k_567, k_568, k_569, k_570, k_571, k_572, k_573, k_574, k_575, k_576, r_566_0, r_566_2, r_566_4, r_566_6, r_566_7, r_566_8, r_566_9, r_566_10, r_566_11, r_566_13, va_rf_s, n_cl, n_in_t, n_lt_t, n_lt_f, n_eq_t, n_eq_f, n_sub, nI_add, n_mul, ↓reduceIte, if_true, if_false, eq_self, true_or, or_true, and_self, and_true, true_and, Nat.reduceAdd, Nat.reduceMul, Nat.reduceLeDiff, Nat.zero_le, not_true_eq_false, not_false_eq_true, cat2_n, cat2_i, cat2_r, ws_0, ws_i, ws_r, ws_l, ws_d, aftr_n, aftr_s, bI_ok, bI_t, bI_f, up_s, up_n, n_bit, decide_true, decide_false, Bool.not_true, Bool.not_false, Bool.and_true, Bool.true_and, Bool.false_and, Bool.and_false]
    exact hQ I1 g1 (fun x => absurd x e)
theorem l150w {kind : Nat} (hkd : kind ≤ 1) : ∀ (r : List Nat) k I, k + r.length = B.length → (∀ j, j < r.length → B.getD (k + j) 0 = r.getD j 0) → k ≤ 8 → RS b I (A, n, H, B) → I (ad b 566) 18 = nI k → I (ad b 566) 19 = nI 0 →
    (∀ I', Ag pSx b I I' → (wE kind k r = r.length → I' (ad b 566) 18 = nI (k + ldr (8 - k) r) ∧ I' (ad b 566) 19 = nI (if ldr (8 - k) r < r.length then 1 else 0)) → Q (.inl (some (.int (nI (k + wE kind k r))))) (KAt KL b, I', RAt RL b q, L, sz, ex)) → X z 150 22 [some (.ref (ad b 566)), some (.int (nI kind)), some (.int (nI k))] [] (0, 0) (KAt KL b, I, RAt RL b q, L, sz, ex) Q := by
  intro r
  induction r with
  | nil =>
    intro k I hk hB h8 hs m1 m2 hQ
    have hl : I (ad b 566) 3 = nI B.length := hs.2.2.2.1
    have hb : B.length ≤ 60 := hs.2.2.2.2.1
    rw [List.length_nil, Nat.add_zero] at hk
    rw [v150_22]
    simp (disch := omega) only [v150_23, v150_24, v150_27, v150_30, v150_31, v150_32, v150_35, v150_36, v150_37, v150_40, v150_41, u150_42, v150_45, v150_48, v150_51, v150_52, v150_53, v150_56, v150_57, v150_58, u150_59, v150_62, v150_65, v150_68, v150_71, v150_72, k_566, k_567, k_568, k_569, k_570, k_571, k_572, k_573, k_574, k_575, k_576, r_566_0, r_566_2, r_566_4, r_566_6, r_566_7, r_566_8, r_566_9, r_566_10, r_566_11, r_566_13, va_rf_s, n_cl, n_in_t, n_lt_t, n_lt_f, n_eq_t, n_eq_f, n_sub, nI_add, n_mul, ↓reduceIte, if_true, if_false, eq_self, true_or, or_true, and_self, and_true, true_and, Nat.reduceAdd, Nat.reduceMul, Nat.reduceLeDiff, Nat.zero_le, not_true_eq_false, not_false_eq_true, cat2_n, cat2_i, cat2_r, ws_0, ws_i, ws_r, ws_l, ws_d, aftr_n, aftr_s, bI_ok, bI_t, bI_f, up_s, up_n, n_bit, decide_true, decide_false, Bool.not_true, Bool.not_false, Bool.and_true, Bool.true_and, Bool.false_and, Bool.and_false, hl]
    refine hQ I Ag.rf (fun _ => ?_)
    rw [ldr_nil]
    exact ⟨m1, m2⟩
  | cons c r ih =>
    intro k I hk hB h8 hs m1 m2 hQ
    have hl : I (ad b 566) 3 = nI B.length := hs.2.2.2.1
    have hb : B.length ≤ 60 := hs.2.2.2.2.1
    obtain ⟨hB1, hB2⟩ := getD_tail hB
    rw [List.length_cons] at hk
    have hc := hs.2.2.2.2.2.1 k (by show k < B.length; omega)
    dsimp only at hc
    rw [hB1] at hc
    have hcb : 33 ≤ c ∧ c ≤ 126 := hs.2.2.2.2.2.2 c (by show c ∈ B; rw [← hB1, List.getD_eq_getElem?_getD, List.getElem?_eq_getElem (by omega)]; exact List.getElem_mem _)
    rw [v150_22]
    simp (disch := omega) only [v150_23, v150_24, v150_27, v150_30, v150_31, v150_32, v150_35, v150_36, v150_37, v150_40, v150_41, u150_42, v150_45, v150_48, v150_51, v150_52, v150_53, v150_56, v150_57, v150_58, u150_59, v150_62, v150_65, v150_68, v150_71, v150_72, k_566, k_567, k_568, k_569, k_570, k_571, k_572, k_573, k_574, k_575, k_576, r_566_0, r_566_2, r_566_4, r_566_6, r_566_7, r_566_8, r_566_9, r_566_10, r_566_11, r_566_13, va_rf_s, n_cl, n_in_t, n_lt_t, n_lt_f, n_eq_t, n_eq_f, n_sub, nI_add, n_mul, ↓reduceIte, if_true, if_false, eq_self, true_or, or_true, and_self, and_true, true_and, Nat.reduceAdd, Nat.reduceMul, Nat.reduceLeDiff, Nat.zero_le, not_true_eq_false, not_false_eq_true, cat2_n, cat2_i, cat2_r, ws_0, ws_i, ws_r, ws_l, ws_d, aftr_n, aftr_s, bI_ok, bI_t, bI_f, up_s, up_n, n_bit, decide_true, decide_false, Bool.not_true, Bool.not_false, Bool.and_true, Bool.true_and, Bool.false_and, Bool.and_false, hl, hc]
    refine c147 hkd (by omega) h8 (by omega) m1 m2 (fun e1 e2 h0 _ I1 g1 y1 y2 => ?_) (fun ne hlt hk8 _ I1 g1 y1 y2 => ?_) (fun ne I1 g1 => ?_)
    · subst e1
      simp (disch := omega) only [v150_62, v150_65, v150_68, k_566, k_567, k_568, k_569, k_570, k_571, k_572, k_573, k_574, k_575, k_576, r_566_0, r_566_2, r_566_4, r_566_6, r_566_7, r_566_8, r_566_9, r_566_10, r_566_11, r_566_13, va_rf_s, n_cl, n_in_t, n_lt_t, n_lt_f, n_eq_t, n_eq_f, n_sub, nI_add, n_mul, ↓reduceIte, if_true, if_false, eq_self, true_or, or_true, and_self, and_true, true_and, Nat.reduceAdd, Nat.reduceMul, Nat.reduceLeDiff, Nat.zero_le, not_true_eq_false, not_false_eq_true, cat2_n, cat2_i, cat2_r, ws_0, ws_i, ws_r, ws_l, ws_d, aftr_n, aftr_s, bI_ok, bI_t, bI_f, up_s, up_n, n_bit, decide_true, decide_false, Bool.not_true, Bool.not_false, Bool.and_true, Bool.true_and, Bool.false_and, Bool.and_false]
      have ew : wE 1 k (c :: r) = 1 := by unfold wE; rw [if_pos ⟨rfl, e2⟩, if_pos h0]
      have nl : ¬ letB c = true := by unfold letB; rw [decide_eq_true_eq]; omega
      have el : ldr (8 - k) (c :: r) = 0 := by
        rcases (show 8 - k = 0 ∨ ∃ m, 8 - k = m + 1 from by rcases h : 8 - k with _ | m; exact Or.inl rfl; exact Or.inr ⟨m, rfl⟩) with h | ⟨m, h⟩
        · rw [h]; rfl
        · rw [h]; unfold ldr; rw [if_neg nl]
      rw [ew, el] at hQ
      refine l150s (hs.sx g1) h8 (by omega) y1 y2 (fun I2 g2 h2 => hQ I2 (g1.tr g2) (fun h3 => ?_))
      rw [List.length_cons] at h3
      rw [h2 (by omega), if_pos (by rw [List.length_cons]; omega)]
      exact ⟨y1, y2⟩
    · simp (disch := omega) only [v150_62, v150_65, v150_68, k_566, k_567, k_568, k_569, k_570, k_571, k_572, k_573, k_574, k_575, k_576, r_566_0, r_566_2, r_566_4, r_566_6, r_566_7, r_566_8, r_566_9, r_566_10, r_566_11, r_566_13, va_rf_s, n_cl, n_in_t, n_lt_t, n_lt_f, n_eq_t, n_eq_f, n_sub, nI_add, n_mul, ↓reduceIte, if_true, if_false, eq_self, true_or, or_true, and_self, and_true, true_and, Nat.reduceAdd, Nat.reduceMul, Nat.reduceLeDiff, Nat.zero_le, not_true_eq_false, not_false_eq_true, cat2_n, cat2_i, cat2_r, ws_0, ws_i, ws_r, ws_l, ws_d, aftr_n, aftr_s, bI_ok, bI_t, bI_f, up_s, up_n, n_bit, decide_true, decide_false, Bool.not_true, Bool.not_false, Bool.and_true, Bool.true_and, Bool.false_and, Bool.and_false]
      obtain ⟨m, hm⟩ : ∃ m, 8 - k = m + 1 := ⟨7 - k, by omega⟩
      have hm2 : 8 - (k + 1) = m := by omega
      have ew : wE kind k (c :: r) = 1 + wE kind (k + 1) r := by show (if _ then _ else if _ then _ else _) = _; rw [if_neg ne, if_pos ⟨hlt, hk8⟩]
      have el : ldr (8 - k) (c :: r) = 1 + ldr m r := by
        rw [hm]
        show (if letB c = true then 1 + ldr m r else 0) = _
        rw [if_pos hlt]
      rw [ew, el] at hQ
      refine ih (k + 1) I1 (by omega) hB2 (by omega) (hs.sx g1) y1 y2 (fun I2 g2 h2 => ?_)
      rw [hm2] at h2
      have := hQ I2 (g1.tr g2) (fun h3 => by
        rw [List.length_cons] at h3
        have h4 := h2 (by omega)
        rw [h4.1, h4.2, List.length_cons]
        refine ⟨by rw [Nat.add_assoc], ?_⟩
        congr 1
        split <;> split <;> omega)
      rwa [← Nat.add_assoc] at this
    · simp (disch := omega) only [v150_62, v150_65, v150_68, v150_71, v150_72, k_566, k_567, k_568, k_569, k_570, k_571, k_572, k_573, k_574, k_575, k_576, r_566_0, r_566_2, r_566_4, r_566_6, r_566_7, r_566_8, r_566_9, r_566_10, r_566_11, r_566_13, va_rf_s, n_cl, n_in_t, n_lt_t, n_lt_f, n_eq_t, n_eq_f, n_sub, nI_add, n_mul, ↓reduceIte, if_true, if_false, eq_self, true_or, or_true, and_self, and_true, true_and, Nat.reduceAdd, Nat.reduceMul, Nat.reduceLeDiff, Nat.zero_le, not_true_eq_false, not_false_eq_true, cat2_n, cat2_i, cat2_r, ws_0, ws_i, ws_r, ws_l, ws_d, aftr_n, aftr_s, bI_ok, bI_t, bI_f, up_s, up_n, n_bit, decide_true, decide_false, Bool.not_true, Bool.not_false, Bool.and_true, Bool.true_and, Bool.false_and, Bool.and_false]
      have ew : wE kind k (c :: r) = 0 := by
        unfold wE
        by_cases e1 : kind = 1 ∧ c = 42
        · rw [if_pos e1, if_neg (fun x => ne (Or.inl ⟨e1.1, e1.2, x, rfl⟩))]
        · rw [if_neg e1, if_neg (fun x => ne (Or.inr ⟨e1, x.1, x.2, rfl⟩))]
      rw [ew] at hQ
      exact hQ I1 g1 (fun h3 => by rw [List.length_cons] at h3; omega)
end OX
