/-! THE CLASS: a text laid out -/
def pcsF : List Nat → Nat → List (Nat × Nat)
  | [], p => [(p, 124)]
  | c :: r, p => if c = 95 ∨ c = 47 ∨ c = 124 then (p, c) :: pcsF r 0 else pcsF r (p + 1)
def fitF (W H : Nat) : List (Nat × Nat) → Nat → Option Nat → Nat → Nat → Nat × Nat
  | [], l, _, _, pg => (l, pg)
  | pe :: r, l, u, pt, pg => if pe.2 = 124 then fitF W H r (plc W l u pe.1).1 none (plc W l u pe.1).1 (pg + pgs H ((plc W l u pe.1).1 - pt)) else fitF W H r (plc W l u pe.1).1 (if pe.2 = 95 then some (plc W l u pe.1).2 else none) pt pg
theorem fit_lay {W H : Nat} : ∀ (t : List Nat) (p l : Nat) (u : Option Nat) (pt pg : Nat), layF W H t p l u pt pg = fitF W H (pcsF t p) l u pt pg
  | [], p, l, u, pt, pg => rfl
  | c :: r, p, l, u, pt, pg => by
    unfold layF pcsF
    by_cases e1 : c = 95
    · rw [if_pos e1, if_pos (Or.inl e1), fit_lay r]
      show _ = (if c = 124 then _ else _)
      rw [if_neg (by omega), if_pos e1]
    · rw [if_neg e1]
      by_cases e2 : c = 47
      · rw [if_pos e2, if_pos (Or.inr (Or.inl e2)), fit_lay r]
        show _ = (if c = 124 then _ else _)
        rw [if_neg (by omega), if_neg e1]
      · rw [if_neg e2]
        by_cases e3 : c = 124
        · rw [if_pos e3, if_pos (Or.inr (Or.inr e3)), fit_lay r]
          show _ = (if c = 124 then _ else _)
          rw [if_pos e3]
        · rw [if_neg e3, if_neg (by omega), fit_lay r]
def lenP : List (Nat × Nat) → Nat
  | [] => 0
  | pe :: r => pe.1 + 1 + lenP r
theorem pcs_len : ∀ (t : List Nat) (p : Nat), lenP (pcsF t p) = t.length + p + 1
  | [], p => by show p + 1 + 0 = 0 + p + 1; omega
  | c :: r, p => by
    unfold pcsF
    rw [List.length_cons]
    split
    · show p + 1 + lenP (pcsF r 0) = _
      rw [pcs_len r]; omega
    · rw [pcs_len r]; omega
def sepC (c : Nat) : Nat := if c = 95 ∨ c = 47 ∨ c = 124 then 1 else 0
def seps : List Nat → Nat
  | [] => 0
  | c :: r => sepC c + seps r
theorem seps_a : ∀ (x y : List Nat), seps (x ++ y) = seps x + seps y
  | [], y => by show seps y = 0 + seps y; omega
  | c :: r, y => by show sepC c + seps (r ++ y) = sepC c + seps r + seps y; rw [seps_a r y]; omega
theorem pcs_n : ∀ (t : List Nat) (p : Nat), (pcsF t p).length = seps t + 1
  | [], _ => rfl
  | c :: r, p => by
    unfold pcsF seps sepC
    split
    · rw [List.length_cons, pcs_n r]; omega
    · rw [pcs_n r]; omega
theorem seps_0 : ∀ (x : List Nat), (∀ c ∈ x, c ≠ 95 ∧ c ≠ 47 ∧ c ≠ 124) → seps x = 0
  | [], _ => rfl
  | c :: r, h => by
    have h1 := h c List.mem_cons_self
    unfold seps sepC
    rw [if_neg (by omega), seps_0 r (fun x hx => h x (List.mem_cons_of_mem _ hx))]
theorem seps_seq {n : Nat} : ∀ (L : List (List Nat)) (i : Nat), (∀ x ∈ L, seps x ≤ 1) → seps (seqL n i L) ≤ L.length
  | [], _, _ => Nat.le_refl _
  | x :: r, i, h => by
    have h1 := h x List.mem_cons_self
    have h2 := seps_seq (n := n) r (i + 1) (fun y hy => h y (List.mem_cons_of_mem _ hy))
    have h3 : seps (sepL i n) = 0 := by unfold sepL; split; rfl; split <;> rfl
    rw [seqL_c, seps_a, seps_a, h3, List.length_cons]
    omega
theorem let_no {c : Nat} (h : isLet c) : c ≠ 95 ∧ c ≠ 47 ∧ c ≠ 124 := by unfold isLet at h; omega
theorem seps_item {A : Row} {g : List Nat} {t : Nat} (hg : Good A) (ok : OkL A g) (ht : okTok t) (hw : t = 375 → hasW A = true) : seps (itemT A g t) ≤ 2 * (exT t).length := by
  unfold itemT exT
  by_cases e : t < 256
  · rw [if_pos e, if_pos e]
    show sepC t + 0 ≤ 2 * 1
    unfold sepC
    split <;> omega
  · rw [if_neg e, if_neg e]
    show _ ≤ 2 * 3
    unfold fieldT
    rcases ht with ht | ht | ht | ht | ht
    · omega
    · subst ht
      rw [if_neg (by omega), if_neg (by omega), if_neg (by omega)]
      show sepC _ + 0 ≤ 6
      unfold sepC; split <;> omega
    · subst ht
      rw [if_neg (by omega), if_pos (by omega)]
      unfold formT
      split
      · show sepC _ + seps _ ≤ 6
        unfold sepC
        split
        · split <;> (show _ + _ ≤ 6; simp [seps, sepC])
        · split <;> simp [seps, sepC]
      · simp [seps, sepC]
    · subst ht
      rw [if_pos (by omega)]
      unfold namesT
      have h0 : ∀ x ∈ g.map (nameL A), seps x ≤ 1 := fun x hx => by
        obtain ⟨p, hp, rfl⟩ := List.mem_map.mp hx
        rw [seps_0 _ (fun c hc => by
          obtain ⟨k, hk, rfl⟩ := (segF_mem _ _).mp hc
          rw [Nat.zero_add]
          exact let_no ((hg.2.2.1 p (ok.2.2.1 p hp)).2.2.2.2.2.2.2 k hk))]
        omega
      have := seps_seq (n := g.length) (g.map (nameL A)) 0 h0
      rw [List.length_map] at this
      have := ok.2.2.2.1
      omega
    · have hw' := hw ht
      subst ht
      rw [if_neg (by omega), if_neg (by omega), if_pos (by omega)]
      unfold wordsT
      have h0 : ∀ x ∈ (nws A [] g).map (wordT A), seps x ≤ 1 := fun x hx => by
        obtain ⟨w, hw1, rfl⟩ := List.mem_map.mp hx
        obtain ⟨p, hp, rfl⟩ := nws_mem _ _ _ hw1
        unfold wordT
        rw [seps_a]
        have a0 : seps (artT (artN A (A (53 + p)))) = 0 := by unfold artT; split; rfl; split <;> rfl
        have b0 : seps (wordL A (A (53 + p))) = 0 := seps_0 _ (fun c hc => by
          obtain ⟨k, hk, rfl⟩ := (segF_mem _ _).mp hc
          rw [Nat.zero_add]
          exact let_no ((hg.2.2.2.1 _ (ok.2.2.2.2 hw' p hp)).2.2.2 k hk))
        show _ + (sepC 95 + seps (wordL A (A (53 + p)))) ≤ 1
        rw [a0, b0]
        decide
      have := seps_seq (n := (nws A [] g).length) ((nws A [] g).map (wordT A)) 0 h0
      rw [List.length_map] at this
      have := nws_len (A := A) g []
      have := ok.2.2.2.1
      omega
theorem seps_text {A : Row} {g : List Nat} (hg : Good A) (ok : OkL A g) : ∀ (T : List Nat) (j : Bool), (∀ t ∈ T, okTok t ∧ (t = 375 → hasW A = true)) → seps (textF A g j T) ≤ 2 * (T.flatMap exT).length
  | [], j, _ => Nat.zero_le _
  | t :: r, j, ht => by
    have ih := fun j => seps_text hg ok r j (fun x hx => ht x (List.mem_cons_of_mem _ hx))
    have h1 := seps_item hg ok (ht t List.mem_cons_self).1 (ht t List.mem_cons_self).2
    unfold textF
    rw [List.flatMap_cons, List.length_append]
    split
    · have := ih true; omega
    · split
      · have := ih false; omega
      · rw [seps_a]
        have := ih j
        split
        · unfold itemT at h1; omega
        · show 0 + _ ≤ _; omega
theorem pcs_le {A : Row} {g : List Nat} (hg : Good A) (ok : OkL A g) : (pcsF (textT A g) 0).length ≤ 121 := by
  have h1 := seps_text hg ok (toks A) false (toks_ok hg)
  have h2 := hg.2.2.2.2.2
  unfold raw at h2
  rw [pcs_n]
  unfold textT
  omega
def PZ (b : Nat) (I : Nat → Nat → Int32) (P : List (Nat × Nat)) : Prop := I (ad b 470) 2 = nI P.length ∧ ∀ k, k < P.length → I (ad b 471) k = nI (P.getD k (0, 0)).1 ∧ I (ad b 472) k = nI (P.getD k (0, 0)).2
def uN (u : Option Nat) : Nat := match u with
  | none => 4294967295
  | some v => v
theorem n_rem2 {a b : Nat} : nI a - nI (a / b * b) = nI (a % b) := by
  rw [n_sub (Nat.div_mul_le_self a b)]
  congr 1
  have := Nat.div_add_mod a b
  rw [Nat.mul_comm] at this
  omega
def pLl (o j : Nat) : Prop := o = 470 ∧ j = 3
def pRd (o j : Nat) : Prop := o = 471 ∨ o = 472 ∨ (o = 470 ∧ j = 2)
def pFt (o j : Nat) : Prop := o = 470 ∧ (j = 3 ∨ j = 4)
section CI
variable {z : P0} {KL : Nat → Nat × Nat} {RL : Nat → Nat → Option Nat} {q : Nat → Nat} {b : Nat} {I : Nat → Nat → Int32} {L : Nat → Nat → Int64} {sz : Nat} {ex : Bool} {Q : Res → Mem → Prop} {A : Row}
variable {t : List Nat}
theorem getD_snocP {P : List (Nat × Nat)} {c : Nat × Nat} {k : Nat} : (P ++ [c]).getD k (0, 0) = if k < P.length then P.getD k (0, 0) else if k = P.length then c else (0, 0) := by
  by_cases h : k < P.length
  · rw [if_pos h, List.getD_eq_getElem?_getD, List.getElem?_append_left h, ← List.getD_eq_getElem?_getD]
  · rw [if_neg h, List.getD_eq_getElem?_getD, List.getElem?_append_right (by omega)]
    by_cases e : k = P.length
    · rw [if_pos e, e, Nat.sub_self]; rfl
    · rw [if_neg e]
      obtain ⟨j, hj⟩ : ∃ j, k - P.length = j + 1 := ⟨k - P.length - 1, by omega⟩
      rw [hj]; rfl
theorem PZ.snoc {P : List (Nat × Nat)} {x y : Nat} (h : PZ b I P) : PZ b (up2 (up2 (up2 I (ad b 471) P.length (nI x)) (ad b 472) P.length (nI y)) (ad b 470) 2 (nI (P.length + 1))) (P ++ [(x, y)]) := by
  refine ⟨by rw [up_s, List.length_append, List.length_singleton], fun k hk => ?_⟩
  rw [List.length_append, List.length_singleton] at hk
  rw [getD_snocP]
  by_cases e : k = P.length
  · rw [if_neg (by omega), if_pos e, e]
    exact ⟨by rw [up_n (by omega), up_n (by omega), up_s], by rw [up_n (by omega), up_s]⟩
  · rw [if_pos (by omega)]
    have := h.2 k (by omega)
    exact ⟨by rw [up_n (by omega), up_n (by omega), up_n (by omega)]; exact this.1, by rw [up_n (by omega), up_n (by omega), up_n (by omega)]; exact this.2⟩
set_option maxHeartbeats 4000000 in
theorem c35 {p l W : Nat} {u : Option Nat} (hp : p ≤ 5000) (hl : l ≤ 100000) (hW : 1 ≤ W ∧ W ≤ 40) (hu : ∀ v, u = some v → v ≤ 10000) (m : I (ad b 470) 3 = nI l) (hQ : ∀ I', I' (ad b 470) 3 = nI (plc W l u p).1 → Ag pLl b I I' → Q (.inl (some (.int (nI (plc W l u p).2)))) (KAt KL b, I', RAt RL b q, L, sz, ex)) :
    X z 35 0 [some (.ref (ad b 470)), some (.int (nI p)), some (.int (nI (uN u))), some (.int (nI W)), none] [] (0, 0) (KAt KL b, I, RAt RL b q, L, sz, ex) Q := by
  have new : (∀ v, u = some v → ¬ v + 1 + p ≤ W) → X z 35 20 [some (.ref (ad b 470)), some (.int (nI p)), some (.int (nI (uN u))), some (.int (nI W)), none] [] (0, 0) (KAt KL b, I, RAt RL b q, L, sz, ex) Q := by
    intro hn
    have e : plc W l u p = (l + plN W p, plU W p) := by
      unfold plc
      cases u with
      | none => rfl
      | some v => dsimp only; rw [if_neg (hn v rfl)]
    rw [e] at hQ
    unfold plN plU at hQ
    by_cases h1 : p ≤ W
    · rw [if_pos h1, if_pos h1] at hQ
      simp (disch := omega) only [v35_20, v35_21, v35_22, v35_25, v35_26, v35_27, v35_30, v35_31, v35_31i, v35_32, v35_35, v35_36, v35_37, v35_40, v35_41, v35_42, v35_43, v35_44, v35_45, v35_47, v35_48, v35_48i, v35_49, v35_52, v35_53, v35_54, v35_55, v35_57, v35_60, v35_61, v35_64, v35_65, v35_66, v35_67, v35_70, v35_72, v35_75, v35_77, v35_80, v35_81, n_cl, n_in_t, n_lt_t, n_lt_f, n_eq_t, n_eq_f, n_sub, nI_add, n_mul, n_01, ↓reduceIte, if_true, if_false, eq_self, true_or, or_true, and_self, and_true, true_and, Nat.reduceAdd, Nat.reduceMul, Nat.reduceLeDiff, Nat.zero_le, not_true_eq_false, not_false_eq_true, cat2_n, cat2_i, cat2_r, ws_0, ws_i, ws_r, ws_l, ws_d, aftr_n, aftr_s, bI_ok, bI_t, bI_f, up_s, up_n, n_bit, decide_true, decide_false, Bool.not_true, Bool.not_false, Bool.and_true, Bool.true_and, Bool.false_and, Bool.and_false, va_rf_s, n_nlt0, k_0, k_67, k_68, k_465, k_466, k_467, k_468, k_469, k_470, k_471, k_472, k_565, r_0_0, r_0_1, r_0_2, r_0_3, r_0_4, r_0_5, r_67_0, r_465_0, r_467_0, r_467_2, r_470_0, r_470_1, va_rf_s, n_neg_t, n_neg_f, m]
      exact hQ _ up_s (Ag.rf.up ⟨rfl, rfl⟩)
    · rw [if_neg h1, if_neg h1] at hQ
      have hd := Nat.div_le_self p W
      have hm := Nat.mod_le p W
      by_cases h2 : 0 < p % W
      · rw [if_pos h2, if_pos h2] at hQ
        simp (disch := omega) only [v35_20, v35_21, v35_22, v35_25, v35_26, v35_27, v35_30, v35_31, v35_31i, v35_32, v35_35, v35_36, v35_37, v35_40, v35_41, v35_42, v35_43, v35_44, v35_45, v35_47, v35_48, v35_48i, v35_49, v35_52, v35_53, v35_54, v35_55, v35_57, v35_60, v35_61, v35_64, v35_65, v35_66, v35_67, v35_70, v35_72, v35_75, v35_77, v35_80, v35_81, n_cl, n_in_t, n_lt_t, n_lt_f, n_eq_t, n_eq_f, n_sub, nI_add, n_mul, n_01, ↓reduceIte, if_true, if_false, eq_self, true_or, or_true, and_self, and_true, true_and, Nat.reduceAdd, Nat.reduceMul, Nat.reduceLeDiff, Nat.zero_le, not_true_eq_false, not_false_eq_true, cat2_n, cat2_i, cat2_r, ws_0, ws_i, ws_r, ws_l, ws_d, aftr_n, aftr_s, bI_ok, bI_t, bI_f, up_s, up_n, n_bit, decide_true, decide_false, Bool.not_true, Bool.not_false, Bool.and_true, Bool.true_and, Bool.false_and, Bool.and_false, va_rf_s, n_nlt0, k_0, k_67, k_68, k_465, k_466, k_467, k_468, k_469, k_470, k_471, k_472, k_565, r_0_0, r_0_1, r_0_2, r_0_3, r_0_4, r_0_5, r_67_0, r_465_0, r_467_0, r_467_2, r_470_0, r_470_1, va_rf_s, n_neg_t, n_neg_f, m, n_z, n_div, n_rem2]
        exact hQ _ up_s (Ag.rf.up ⟨rfl, rfl⟩)
      · rw [if_neg h2, if_neg h2] at hQ
        simp (disch := omega) only [v35_20, v35_21, v35_22, v35_25, v35_26, v35_27, v35_30, v35_31, v35_31i, v35_32, v35_35, v35_36, v35_37, v35_40, v35_41, v35_42, v35_43, v35_44, v35_45, v35_47, v35_48, v35_48i, v35_49, v35_52, v35_53, v35_54, v35_55, v35_57, v35_60, v35_61, v35_64, v35_65, v35_66, v35_67, v35_70, v35_72, v35_75, v35_77, v35_80, v35_81, n_cl, n_in_t, n_lt_t, n_lt_f, n_eq_t, n_eq_f, n_sub, nI_add, n_mul, n_01, ↓reduceIte, if_true, if_false, eq_self, true_or, or_true, and_self, and_true, true_and, Nat.reduceAdd, Nat.reduceMul, Nat.reduceLeDiff, Nat.zero_le, not_true_eq_false, not_false_eq_true, cat2_n, cat2_i, cat2_r, ws_0, ws_i, ws_r, ws_l, ws_d, aftr_n, aftr_s, bI_ok, bI_t, bI_f, up_s, up_n, n_bit, decide_true, decide_false, Bool.not_true, Bool.not_false, Bool.and_true, Bool.true_and, Bool.false_and, Bool.and_false, va_rf_s, n_nlt0, k_0, k_67, k_68, k_465, k_466, k_467, k_468, k_469, k_470, k_471, k_472, k_565, r_0_0, r_0_1, r_0_2, r_0_3, r_0_4, r_0_5, r_67_0, r_465_0, r_467_0, r_467_2, r_470_0, r_470_1, va_rf_s, n_neg_t, n_neg_f, m, n_z, n_div, n_rem2]
        exact hQ _ up_s (Ag.rf.up ⟨rfl, rfl⟩)
  cases u with
  | none =>
    have := new (fun v hv => by cases hv)
    unfold uN at this ⊢
    simp (disch := omega) only [v35_0, v35_1, v35_2, v35_5, v35_6, v35_7, v35_8, v35_9, v35_10, v35_11, v35_14, v35_15, v35_16, v35_17, v35_18, v35_19, n_cl, n_in_t, n_lt_t, n_lt_f, n_eq_t, n_eq_f, n_sub, nI_add, n_mul, n_01, ↓reduceIte, if_true, if_false, eq_self, true_or, or_true, and_self, and_true, true_and, Nat.reduceAdd, Nat.reduceMul, Nat.reduceLeDiff, Nat.zero_le, not_true_eq_false, not_false_eq_true, cat2_n, cat2_i, cat2_r, ws_0, ws_i, ws_r, ws_l, ws_d, aftr_n, aftr_s, bI_ok, bI_t, bI_f, up_s, up_n, n_bit, decide_true, decide_false, Bool.not_true, Bool.not_false, Bool.and_true, Bool.true_and, Bool.false_and, Bool.and_false, va_rf_s, n_nlt0, k_0, k_67, k_68, k_465, k_466, k_467, k_468, k_469, k_470, k_471, k_472, k_565, r_0_0, r_0_1, r_0_2, r_0_3, r_0_4, r_0_5, r_67_0, r_465_0, r_467_0, r_467_2, r_470_0, r_470_1, va_rf_s, n_neg_t, n_neg_f]
    exact this
  | some v =>
    have hv := hu v rfl
    by_cases e : v + 1 + p ≤ W
    · unfold plc at hQ
      dsimp only at hQ
      rw [if_pos e] at hQ
      unfold uN
      simp (disch := omega) only [v35_0, v35_1, v35_2, v35_5, v35_6, v35_7, v35_8, v35_9, v35_10, v35_11, v35_14, v35_15, v35_16, v35_17, v35_18, v35_19, n_cl, n_in_t, n_lt_t, n_lt_f, n_eq_t, n_eq_f, n_sub, nI_add, n_mul, n_01, ↓reduceIte, if_true, if_false, eq_self, true_or, or_true, and_self, and_true, true_and, Nat.reduceAdd, Nat.reduceMul, Nat.reduceLeDiff, Nat.zero_le, not_true_eq_false, not_false_eq_true, cat2_n, cat2_i, cat2_r, ws_0, ws_i, ws_r, ws_l, ws_d, aftr_n, aftr_s, bI_ok, bI_t, bI_f, up_s, up_n, n_bit, decide_true, decide_false, Bool.not_true, Bool.not_false, Bool.and_true, Bool.true_and, Bool.false_and, Bool.and_false, va_rf_s, n_nlt0, k_0, k_67, k_68, k_465, k_466, k_467, k_468, k_469, k_470, k_471, k_472, k_565, r_0_0, r_0_1, r_0_2, r_0_3, r_0_4, r_0_5, r_67_0, r_465_0, r_467_0, r_467_2, r_470_0, r_470_1, va_rf_s, n_neg_t, n_neg_f]
      exact hQ I m Ag.rf
    · have := new (fun v' hv' => by cases hv'; exact e)
      unfold uN at this ⊢
      simp (disch := omega) only [v35_0, v35_1, v35_2, v35_5, v35_6, v35_7, v35_8, v35_9, v35_10, v35_11, v35_14, v35_15, v35_16, v35_17, v35_18, v35_19, n_cl, n_in_t, n_lt_t, n_lt_f, n_eq_t, n_eq_f, n_sub, nI_add, n_mul, n_01, ↓reduceIte, if_true, if_false, eq_self, true_or, or_true, and_self, and_true, true_and, Nat.reduceAdd, Nat.reduceMul, Nat.reduceLeDiff, Nat.zero_le, not_true_eq_false, not_false_eq_true, cat2_n, cat2_i, cat2_r, ws_0, ws_i, ws_r, ws_l, ws_d, aftr_n, aftr_s, bI_ok, bI_t, bI_f, up_s, up_n, n_bit, decide_true, decide_false, Bool.not_true, Bool.not_false, Bool.and_true, Bool.true_and, Bool.false_and, Bool.and_false, va_rf_s, n_nlt0, k_0, k_67, k_68, k_465, k_466, k_467, k_468, k_469, k_470, k_471, k_472, k_565, r_0_0, r_0_1, r_0_2, r_0_3, r_0_4, r_0_5, r_67_0, r_465_0, r_467_0, r_467_2, r_470_0, r_470_1, va_rf_s, n_neg_t, n_neg_f]
      exact this
theorem l33 (htl : t.length ≤ 1660) : ∀ (r : List Nat) i p (P : List (Nat × Nat)) I (x5 : Option Value), cat2 x5 = false → i + r.length = t.length → (∀ j, j < r.length → t.getD (i + j) 0 = r.getD j 0) → (∀ c ∈ r, c < 256) → p ≤ i → P.length + (pcsF r p).length ≤ 121 → PZ b I P → (∀ k, k < t.length → I (ad b 468) k = nI (t.getD k 0)) → (∀ I', PZ b I' (P ++ pcsF r p) → Ag pRd b I I' → Q (.inl none) (KAt KL b, I', RAt RL b q, L, sz, ex)) →
    X z 33 10 [some (.ref (ad b 470)), some (.ref (ad b 468)), some (.int (nI t.length)), some (.int (nI (i - p))), some (.int (nI i)), x5] [] (0, 0) (KAt KL b, I, RAt RL b q, L, sz, ex) Q := by
  intro r
  induction r with
  | nil =>
    intro i p P I x5 hx5 hi hr hc hp hP hz ht hQ
    have m2 := hz.1
    have l1 : (pcsF [] p).length = 1 := rfl
    rw [l1] at hP
    rw [List.length_nil, Nat.add_zero] at hi
    have ep : i - (i - p) = p := by omega
    rw [v33_10]
    simp (disch := omega) only [v33_12, v33_13, v33_16, v33_17, v33_20, v33_22, v33_25, v33_27, v33_28, v33_31, v33_32, v33_34, v33_35, v33_38, v33_40, v33_42, v33_44, v33_46, v33_49, v33_51, v33_53, v33_56, v33_58, v33_60, v33_63, v33_64, v33_67, v33_68, v33_71, v33_73, v33_74, v33_75, v33_76, v33_77, v33_80, v33_81, v33_84, v33_86, v33_87, v33_88, v33_88i, v33_89, v33_92, v33_93, v33_94, v33_97, v33_99, v33_100, v33_101, v33_102, v33_105, v33_108, n_cl, n_in_t, n_lt_t, n_lt_f, n_eq_t, n_eq_f, n_sub, nI_add, n_mul, n_01, ↓reduceIte, if_true, if_false, eq_self, true_or, or_true, and_self, and_true, true_and, Nat.reduceAdd, Nat.reduceMul, Nat.reduceLeDiff, Nat.zero_le, not_true_eq_false, not_false_eq_true, cat2_n, cat2_i, cat2_r, ws_0, ws_i, ws_r, ws_l, ws_d, aftr_n, aftr_s, bI_ok, bI_t, bI_f, up_s, up_n, n_bit, decide_true, decide_false, Bool.not_true, Bool.not_false, Bool.and_true, Bool.true_and, Bool.false_and, Bool.and_false, va_rf_s, n_nlt0, k_0, k_67, k_68, k_465, k_466, k_467, k_468, k_469, k_470, k_471, k_472, k_565, r_0_0, r_0_1, r_0_2, r_0_3, r_0_4, r_0_5, r_67_0, r_465_0, r_467_0, r_467_2, r_470_0, r_470_1, va_rf_s, n_neg_t, n_neg_f, m2, ep, hx5]
    rw [v33_10]
    simp (disch := omega) only [v33_12, v33_13, v33_16, v33_17, v33_20, v33_22, v33_25, v33_27, v33_28, v33_31, v33_32, v33_34, v33_35, v33_38, v33_40, v33_42, v33_44, v33_46, v33_49, v33_51, v33_53, v33_56, v33_58, v33_60, v33_63, v33_64, v33_67, v33_68, v33_71, v33_73, v33_74, v33_75, v33_76, v33_77, v33_80, v33_81, v33_84, v33_86, v33_87, v33_88, v33_88i, v33_89, v33_92, v33_93, v33_94, v33_97, v33_99, v33_100, v33_101, v33_102, v33_105, v33_108, n_cl, n_in_t, n_lt_t, n_lt_f, n_eq_t, n_eq_f, n_sub, nI_add, n_mul, n_01, ↓reduceIte, if_true, if_false, eq_self, true_or, or_true, and_self, and_true, true_and, Nat.reduceAdd, Nat.reduceMul, Nat.reduceLeDiff, Nat.zero_le, not_true_eq_false, not_false_eq_true, cat2_n, cat2_i, cat2_r, ws_0, ws_i, ws_r, ws_l, ws_d, aftr_n, aftr_s, bI_ok, bI_t, bI_f, up_s, up_n, n_bit, decide_true, decide_false, Bool.not_true, Bool.not_false, Bool.and_true, Bool.true_and, Bool.false_and, Bool.and_false, va_rf_s, n_nlt0, k_0, k_67, k_68, k_465, k_466, k_467, k_468, k_469, k_470, k_471, k_472, k_565, r_0_0, r_0_1, r_0_2, r_0_3, r_0_4, r_0_5, r_67_0, r_465_0, r_467_0, r_467_2, r_470_0, r_470_1, va_rf_s, n_neg_t, n_neg_f]
    exact hQ _ hz.snoc (((Ag.rf.up (Or.inl rfl)).up (Or.inr (Or.inl rfl))).up (Or.inr (Or.inr ⟨rfl, rfl⟩)))
  | cons c r ih =>
    intro i p P I x5 hx5 hi hr hc hp hP hz ht hQ
    obtain ⟨hB1, hB2⟩ := getD_tail hr
    rw [List.length_cons] at hi
    have m2 := hz.1
    have d1 := ht i (by omega)
    rw [hB1] at d1
    have hc0 := hc c List.mem_cons_self
    have hc' := fun x hx => hc x (List.mem_cons_of_mem c hx)
    have ep : i - (i - p) = p := by omega
    have l1 := pcs_n r 0
    have l2 := pcs_n r (p + 1)
    unfold pcsF at hP hQ
    rw [v33_10]
    by_cases e : c = 95 ∨ c = 47 ∨ c = 124
    · rw [if_pos e] at hP hQ
      rw [List.length_cons] at hP
      have fr : Ag pRd b I (up2 (up2 (up2 I (ad b 471) P.length (nI p)) (ad b 472) P.length (nI c)) (ad b 470) 2 (nI (P.length + 1))) := ((Ag.rf.up (Or.inl rfl)).up (Or.inr (Or.inl rfl))).up (Or.inr (Or.inr ⟨rfl, rfl⟩))
      have := ih (i + 1) 0 (P ++ [(p, c)]) _ (some (.int (nI c))) rfl (by omega) hB2 hc' (Nat.zero_le _) (by rw [List.length_append, List.length_singleton]; omega) hz.snoc (fun k hk => (fr.at (fun x => by unfold pRd at x; omega)).trans (ht k hk)) (fun I2 q1 q2 => hQ I2 (by rwa [List.append_assoc] at q1) (fr.tr q2))
      rw [Nat.sub_zero] at this
      rcases e with rfl | rfl | rfl
      · simp (disch := omega) only [v33_12, v33_13, v33_16, v33_17, v33_20, v33_22, v33_25, v33_27, v33_28, v33_31, v33_32, v33_34, v33_35, v33_38, v33_40, v33_42, v33_44, v33_46, v33_49, v33_51, v33_53, v33_56, v33_58, v33_60, v33_63, v33_64, v33_67, v33_68, v33_71, v33_73, v33_74, v33_75, v33_76, v33_77, v33_80, v33_81, v33_84, v33_86, v33_87, v33_88, v33_88i, v33_89, v33_92, v33_93, v33_94, v33_97, v33_99, v33_100, v33_101, v33_102, v33_105, n_cl, n_in_t, n_lt_t, n_lt_f, n_eq_t, n_eq_f, n_sub, nI_add, n_mul, n_01, ↓reduceIte, if_true, if_false, eq_self, true_or, or_true, and_self, and_true, true_and, Nat.reduceAdd, Nat.reduceMul, Nat.reduceLeDiff, Nat.zero_le, not_true_eq_false, not_false_eq_true, cat2_n, cat2_i, cat2_r, ws_0, ws_i, ws_r, ws_l, ws_d, aftr_n, aftr_s, bI_ok, bI_t, bI_f, up_s, up_n, n_bit, decide_true, decide_false, Bool.not_true, Bool.not_false, Bool.and_true, Bool.true_and, Bool.false_and, Bool.and_false, va_rf_s, n_nlt0, k_0, k_67, k_68, k_465, k_466, k_467, k_468, k_469, k_470, k_471, k_472, k_565, r_0_0, r_0_1, r_0_2, r_0_3, r_0_4, r_0_5, r_67_0, r_465_0, r_467_0, r_467_2, r_470_0, r_470_1, va_rf_s, n_neg_t, n_neg_f, m2, d1, ep, hx5]
        exact this
      · simp (disch := omega) only [v33_12, v33_13, v33_16, v33_17, v33_20, v33_22, v33_25, v33_27, v33_28, v33_31, v33_32, v33_34, v33_35, v33_38, v33_40, v33_42, v33_44, v33_46, v33_49, v33_51, v33_53, v33_56, v33_58, v33_60, v33_63, v33_64, v33_67, v33_68, v33_71, v33_73, v33_74, v33_75, v33_76, v33_77, v33_80, v33_81, v33_84, v33_86, v33_87, v33_88, v33_88i, v33_89, v33_92, v33_93, v33_94, v33_97, v33_99, v33_100, v33_101, v33_102, v33_105, n_cl, n_in_t, n_lt_t, n_lt_f, n_eq_t, n_eq_f, n_sub, nI_add, n_mul, n_01, ↓reduceIte, if_true, if_false, eq_self, true_or, or_true, and_self, and_true, true_and, Nat.reduceAdd, Nat.reduceMul, Nat.reduceLeDiff, Nat.zero_le, not_true_eq_false, not_false_eq_true, cat2_n, cat2_i, cat2_r, ws_0, ws_i, ws_r, ws_l, ws_d, aftr_n, aftr_s, bI_ok, bI_t, bI_f, up_s, up_n, n_bit, decide_true, decide_false, Bool.not_true, Bool.not_false, Bool.and_true, Bool.true_and, Bool.false_and, Bool.and_false, va_rf_s, n_nlt0, k_0, k_67, k_68, k_465, k_466, k_467, k_468, k_469, k_470, k_471, k_472, k_565, r_0_0, r_0_1, r_0_2, r_0_3, r_0_4, r_0_5, r_67_0, r_465_0, r_467_0, r_467_2, r_470_0, r_470_1, va_rf_s, n_neg_t, n_neg_f, m2, d1, ep, hx5]
        exact this
      · simp (disch := omega) only [v33_12, v33_13, v33_16, v33_17, v33_20, v33_22, v33_25, v33_27, v33_28, v33_31, v33_32, v33_34, v33_35, v33_38, v33_40, v33_42, v33_44, v33_46, v33_49, v33_51, v33_53, v33_56, v33_58, v33_60, v33_63, v33_64, v33_67, v33_68, v33_71, v33_73, v33_74, v33_75, v33_76, v33_77, v33_80, v33_81, v33_84, v33_86, v33_87, v33_88, v33_88i, v33_89, v33_92, v33_93, v33_94, v33_97, v33_99, v33_100, v33_101, v33_102, v33_105, n_cl, n_in_t, n_lt_t, n_lt_f, n_eq_t, n_eq_f, n_sub, nI_add, n_mul, n_01, ↓reduceIte, if_true, if_false, eq_self, true_or, or_true, and_self, and_true, true_and, Nat.reduceAdd, Nat.reduceMul, Nat.reduceLeDiff, Nat.zero_le, not_true_eq_false, not_false_eq_true, cat2_n, cat2_i, cat2_r, ws_0, ws_i, ws_r, ws_l, ws_d, aftr_n, aftr_s, bI_ok, bI_t, bI_f, up_s, up_n, n_bit, decide_true, decide_false, Bool.not_true, Bool.not_false, Bool.and_true, Bool.true_and, Bool.false_and, Bool.and_false, va_rf_s, n_nlt0, k_0, k_67, k_68, k_465, k_466, k_467, k_468, k_469, k_470, k_471, k_472, k_565, r_0_0, r_0_1, r_0_2, r_0_3, r_0_4, r_0_5, r_67_0, r_465_0, r_467_0, r_467_2, r_470_0, r_470_1, va_rf_s, n_neg_t, n_neg_f, m2, d1, ep, hx5]
        exact this
    · rw [if_neg e] at hP hQ
      have := ih (i + 1) (p + 1) P I (some (.int (nI c))) rfl (by omega) hB2 hc' (by omega) hP hz ht hQ
      rw [show i + 1 - (p + 1) = i - p by omega] at this
      simp (disch := omega) only [v33_12, v33_13, v33_16, v33_17, v33_20, v33_22, v33_25, v33_27, v33_28, v33_31, v33_32, v33_34, v33_35, v33_38, v33_40, v33_42, v33_44, v33_46, v33_49, v33_51, v33_53, v33_56, v33_58, v33_60, v33_63, v33_64, v33_67, v33_68, v33_71, v33_73, v33_74, v33_75, v33_76, v33_77, v33_80, v33_81, v33_84, v33_86, v33_87, v33_88, v33_88i, v33_89, v33_92, v33_93, v33_94, v33_97, v33_99, v33_100, v33_101, v33_102, v33_105, n_cl, n_in_t, n_lt_t, n_lt_f, n_eq_t, n_eq_f, n_sub, nI_add, n_mul, n_01, ↓reduceIte, if_true, if_false, eq_self, true_or, or_true, and_self, and_true, true_and, Nat.reduceAdd, Nat.reduceMul, Nat.reduceLeDiff, Nat.zero_le, not_true_eq_false, not_false_eq_true, cat2_n, cat2_i, cat2_r, ws_0, ws_i, ws_r, ws_l, ws_d, aftr_n, aftr_s, bI_ok, bI_t, bI_f, up_s, up_n, n_bit, decide_true, decide_false, Bool.not_true, Bool.not_false, Bool.and_true, Bool.true_and, Bool.false_and, Bool.and_false, va_rf_s, n_nlt0, k_0, k_67, k_68, k_465, k_466, k_467, k_468, k_469, k_470, k_471, k_472, k_565, r_0_0, r_0_1, r_0_2, r_0_3, r_0_4, r_0_5, r_67_0, r_465_0, r_467_0, r_467_2, r_470_0, r_470_1, va_rf_s, n_neg_t, n_neg_f, m2, d1, hx5]
      exact this
theorem c33 (htl : t.length ≤ 1660) (hc : ∀ c ∈ t, c < 256) (hP : (pcsF t 0).length ≤ 121) (ht : ∀ k, k < t.length → I (ad b 468) k = nI (t.getD k 0)) (hQ : ∀ I', PZ b I' (pcsF t 0) → Ag pRd b I I' → Q (.inl none) (KAt KL b, I', RAt RL b q, L, sz, ex)) :
    X z 33 0 [some (.ref (ad b 470)), some (.ref (ad b 468)), some (.int (nI t.length)), none, none, none] [] (0, 0) (KAt KL b, I, RAt RL b q, L, sz, ex) Q := by
  have fr : Ag pRd b I (up2 I (ad b 470) 2 (nI 0)) := Ag.rf.up (Or.inr (Or.inr ⟨rfl, rfl⟩))
  simp (disch := omega) only [v33_0, v33_1, v33_2, v33_5, v33_6, v33_7, v33_8, n_cl, n_in_t, n_lt_t, n_lt_f, n_eq_t, n_eq_f, n_sub, nI_add, n_mul, n_01, ↓reduceIte, if_true, if_false, eq_self, true_or, or_true, and_self, and_true, true_and, Nat.reduceAdd, Nat.reduceMul, Nat.reduceLeDiff, Nat.zero_le, not_true_eq_false, not_false_eq_true, cat2_n, cat2_i, cat2_r, ws_0, ws_i, ws_r, ws_l, ws_d, aftr_n, aftr_s, bI_ok, bI_t, bI_f, up_s, up_n, n_bit, decide_true, decide_false, Bool.not_true, Bool.not_false, Bool.and_true, Bool.true_and, Bool.false_and, Bool.and_false, va_rf_s, n_nlt0, k_0, k_67, k_68, k_465, k_466, k_467, k_468, k_469, k_470, k_471, k_472, k_565, r_0_0, r_0_1, r_0_2, r_0_3, r_0_4, r_0_5, r_67_0, r_465_0, r_467_0, r_467_2, r_470_0, r_470_1, va_rf_s, n_neg_t, n_neg_f]
  have := l33 (z := z) (KL := KL) (RL := RL) (q := q) (L := L) (sz := sz) (ex := ex) (Q := Q) htl t 0 0 [] (up2 I (ad b 470) 2 (nI 0)) none rfl (by omega) (fun j _ => by rw [Nat.zero_add]) hc (Nat.le_refl _) (by rw [List.length_nil]; omega) ⟨up_s, fun k hk => absurd hk (Nat.not_lt_zero _)⟩ (fun k hk => (fr.at (fun x => by unfold pRd at x; omega)).trans (ht k hk)) (fun I2 q1 q2 => hQ I2 (by rwa [List.nil_append] at q1) (fr.tr q2))
  exact this
end CI
