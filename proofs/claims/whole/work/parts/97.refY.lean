/-! THE REFERENCE: lines and pages; groups; all letters -/
theorem n_z {a : Nat} (h0 : 0 < a) (h : a < 2147483648) : (¬ nI a = 0) = True := eq_true (nI_ne0 h0 h)
theorem pgs_le {H n : Nat} (h : 1 ≤ H) : pgs H n ≤ n := by
  unfold pgs
  rcases n with _ | n
  · rw [Nat.div_eq_of_lt (by omega)]; exact Nat.zero_le _
  · rw [show n + 1 + H - 1 = n + H by omega, Nat.add_div_right _ (by omega)]
    have := Nat.div_le_self n H
    omega
theorem plN_le {W p : Nat} : plN W p ≤ p + 1 := by
  unfold plN
  have := Nat.div_le_self p W
  split <;> (try split) <;> omega
theorem plc_le {W l p : Nat} {u : Option Nat} : l ≤ (plc W l u p).1 ∧ (plc W l u p).1 ≤ l + p + 1 := by
  have := plN_le (W := W) (p := p)
  unfold plc
  split
  · split <;> dsimp only <;> omega
  · dsimp only; omega
theorem pl_step {W p : Nat} (hW : 1 ≤ W) (h : W < p) : plN W p = 1 + plN W (p - W) ∧ plU W p = plU W (p - W) := by
  have e1 : p / W = (p - W) / W + 1 := Nat.div_eq_sub_div (by omega) (by omega)
  have e2 : p % W = (p - W) % W := Nat.mod_eq_sub_mod (by omega)
  unfold plN plU
  have n1 : ¬ p ≤ W := by omega
  rw [if_neg n1, if_neg n1, e1, e2]
  by_cases h2 : p - W ≤ W
  · rw [if_pos h2, if_pos h2]
    by_cases h3 : p - W = W
    · have q1 : (p - W) / W = 1 := by rw [h3, Nat.div_self (by omega)]
      have q2 : (p - W) % W = 0 := by rw [h3, Nat.mod_self]
      rw [q1, q2, if_neg (Nat.lt_irrefl 0), if_neg (Nat.lt_irrefl 0)]
      omega
    · have q1 : (p - W) / W = 0 := Nat.div_eq_of_lt (by omega)
      have q2 : (p - W) % W = p - W := Nat.mod_eq_of_lt (by omega)
      have q3 : 0 < p - W := by omega
      rw [q1, q2, if_pos q3, if_pos q3]
      omega
  · rw [if_neg h2, if_neg h2]
    refine ⟨?_, rfl⟩
    rw [Nat.add_comm 1 _]
    exact Nat.add_right_comm _ _ _
theorem layF_bd {W H : Nat} (hH : 1 ≤ H) : ∀ (r : List Nat) (p l : Nat) (u : Option Nat) (pt pg : Nat), pg ≤ pt → pt ≤ l → (layF W H r p l u pt pg).1 ≤ l + p + 1 + 2 * r.length ∧ (layF W H r p l u pt pg).2 ≤ (layF W H r p l u pt pg).1
  | [], p, l, u, pt, pg, h1, h2 => by
    have := plc_le (W := W) (l := l) (p := p) (u := u)
    have := pgs_le (H := H) (n := (plc W l u p).1 - pt) hH
    unfold layF
    dsimp only
    omega
  | c :: r, p, l, u, pt, pg, h1, h2 => by
    have h3 := plc_le (W := W) (l := l) (p := p) (u := u)
    have h4 := pgs_le (H := H) (n := (plc W l u p).1 - pt) hH
    rw [List.length_cons]
    unfold layF
    split
    · have := layF_bd (W := W) hH r 0 (plc W l u p).1 (some (plc W l u p).2) pt pg h1 (by omega); omega
    · split
      · have := layF_bd (W := W) hH r 0 (plc W l u p).1 none pt pg h1 (by omega); omega
      · split
        · have := layF_bd (W := W) hH r 0 (plc W l u p).1 none (plc W l u p).1 (pg + pgs H ((plc W l u p).1 - pt)) (by omega) (by omega); omega
        · have := layF_bd (W := W) hH r (p + 1) l u pt pg h1 h2; omega
def LY (b : Nat) (I : Nat → Nat → Int32) (l : Nat) (u : Option Nat) : Prop := match u with
  | none => I (ad b 566) 17 = nI (l + 1) ∧ I (ad b 566) 16 = nI 1 ∧ I (ad b 566) 15 = nI 0
  | some v => I (ad b 566) 17 = nI l ∧ I (ad b 566) 16 = nI 0 ∧ I (ad b 566) 15 = nI v
def pLn (o j : Nat) : Prop := o = 566 ∧ 15 ≤ j ∧ j ≤ 17
def pLy (lt o j : Nat) : Prop := (o = 566 ∧ 15 ≤ j ∧ j ≤ 17) ∨ ((o = 572 ∨ o = 573 ∨ o = 574) ∧ j = lt)
section RY
variable {z : P0} {KL : Nat → Nat × Nat} {RL : Nat → Nat → Option Nat} {q : Nat → Nat} {b : Nat} {I : Nat → Nat → Int32} {L : Nat → Nat → Int64} {sz : Nat} {ex : Bool} {Q : Res → Mem → Prop} {A : Row}
variable {t : List Nat}
theorem pLn_z : ∀ j, ¬ pLn 567 j := fun j h => by unfold pLn at h; omega
theorem pLy_z {lt : Nat} : ∀ j, ¬ pLy lt 567 j := fun j h => by unfold pLy at h; omega
theorem pLn_k {o k : Nat} {x : Int32} {I' : Nat → Nat → Int32} (h : Ag pLn b I I') (ho : ¬ (o = 566 ∧ 15 ≤ k ∧ k ≤ 17)) (m : I (ad b o) k = x) : I' (ad b o) k = x := (h.at (fun y => ho y)).trans m
theorem OT.ag {P : Nat → Nat → Prop} {I' : Nat → Nat → Int32} (h : OT b I t) (hg : Ag P b I I') (hP : ¬ P 566 14) (hP2 : ∀ j, ¬ P 576 j) : OT b I' t := ⟨(hg.at hP).trans h.1, fun k hk => (hg.at (hP2 k)).trans (h.2 k hk)⟩
theorem c125 {n : Nat} (h : I (ad b 566) 17 = nI n) (hQ : ∀ I', LY b I' n none → Ag pLn b I I' → Q (.inl none) (KAt KL b, I', RAt RL b q, L, sz, ex)) : X z 125 0 [some (.ref (ad b 566))] [] (0, 0) (KAt KL b, I, RAt RL b q, L, sz, ex) Q := by
  simp (disch := omega) only [v125_0, v125_1, v125_1i, v125_2, v125_5, v125_6, v125_7, v125_10, v125_11, v125_12, v125_15, v125_16, v125_17, v125_20, k_566, k_567, k_568, k_569, k_570, k_571, k_572, k_573, k_574, k_575, k_576, r_566_0, r_566_2, r_566_4, r_566_6, r_566_7, r_566_8, r_566_9, r_566_10, r_566_11, r_566_13, va_rf_s, n_cl, n_in_t, n_lt_t, n_lt_f, n_eq_t, n_eq_f, n_sub, nI_add, n_mul, ↓reduceIte, if_true, if_false, eq_self, true_or, or_true, and_self, and_true, true_and, Nat.reduceAdd, Nat.reduceMul, Nat.reduceLeDiff, Nat.zero_le, not_true_eq_false, not_false_eq_true, cat2_n, cat2_i, cat2_r, ws_0, ws_i, ws_r, ws_l, ws_d, aftr_n, aftr_s, bI_ok, bI_t, bI_f, up_s, up_n, n_bit, decide_true, decide_false, Bool.not_true, Bool.not_false, Bool.and_true, Bool.true_and, Bool.false_and, Bool.and_false, h, n_eq_t]
  refine hQ _ ⟨?_, ?_, ?_⟩ (((Ag.rf.up ⟨rfl, by omega, by omega⟩).up ⟨rfl, by omega, by omega⟩).up ⟨rfl, by omega, by omega⟩)
  · rw [up_n (by omega), up_n (by omega), up_s]
  · rw [up_s]
  · rw [up_n (by omega), up_s]
theorem c126 {l p : Nat} {u : Option Nat} (hg : Good A) (hz : RZ b I A) (h : LY b I l u) (hp : p ≤ 10000) (hu : ∀ v, u = some v → v ≤ 10000) (hQ : ∀ I', LY b I' (match u with | none => l + 1 | some v => if v + 1 + p ≤ A 0 then l else l + 1) (some (match u with | none => p | some v => if v + 1 + p ≤ A 0 then v + 1 + p else p)) → Ag pLn b I I' → Q (.inl none) (KAt KL b, I', RAt RL b q, L, sz, ex)) :
    X z 126 0 [some (.ref (ad b 566)), some (.int (nI p))] [] (0, 0) (KAt KL b, I, RAt RL b q, L, sz, ex) Q := by
  have h0 := hg.2.1.2.1
  have fin : ∀ (I1 : Nat → Nat → Int32) (n : Nat), LY b I1 n none → Ag pLn b I I1 → (∀ I', LY b I' (n + 1) (some p) → Ag pLn b I I' → Q (.inl none) (KAt KL b, I', RAt RL b q, L, sz, ex)) → X z 126 28 [some (.ref (ad b 566)), some (.int (nI p))] [] (0, 0) (KAt KL b, I1, RAt RL b q, L, sz, ex) Q := by
    rintro I1 n ⟨a1, a2, a3⟩ g hQ
    simp (disch := omega) only [v126_28, v126_29, v126_29i, v126_30, v126_33, v126_34, v126_35, v126_38, v126_41, v126_42, v126_45, v126_46, v126_47, v126_48, v126_51, v126_52, v126_53, v126_56, k_566, k_567, k_568, k_569, k_570, k_571, k_572, k_573, k_574, k_575, k_576, r_566_0, r_566_2, r_566_4, r_566_6, r_566_7, r_566_8, r_566_9, r_566_10, r_566_11, r_566_13, va_rf_s, n_cl, n_in_t, n_lt_t, n_lt_f, n_eq_t, n_eq_f, n_sub, nI_add, n_mul, ↓reduceIte, if_true, if_false, eq_self, true_or, or_true, and_self, and_true, true_and, Nat.reduceAdd, Nat.reduceMul, Nat.reduceLeDiff, Nat.zero_le, not_true_eq_false, not_false_eq_true, cat2_n, cat2_i, cat2_r, ws_0, ws_i, ws_r, ws_l, ws_d, aftr_n, aftr_s, bI_ok, bI_t, bI_f, up_s, up_n, n_bit, decide_true, decide_false, Bool.not_true, Bool.not_false, Bool.and_true, Bool.true_and, Bool.false_and, Bool.and_false, a1, a2, a3, Nat.add_zero, Nat.zero_add]
    refine hQ _ ⟨?_, ?_, ?_⟩ ((g.up ⟨rfl, by omega, by omega⟩).up ⟨rfl, by omega, by omega⟩)
    · rw [up_n (by omega), up_n (by omega), a1]
    · rw [up_s]
    · rw [up_n (by omega), up_s]
  cases u with
  | none =>
    have h' := h
    obtain ⟨a1, a2, a3⟩ := h
    have := fin I l h' Ag.rf hQ
    simp (disch := omega) only [v126_0, v126_1, v126_4, v126_7, v126_8, v126_11, v126_12, v126_13, v126_14, v126_15, v126_16, v126_19, v126_20, v126_21, v126_24, u126_25, k_566, k_567, k_568, k_569, k_570, k_571, k_572, k_573, k_574, k_575, k_576, r_566_0, r_566_2, r_566_4, r_566_6, r_566_7, r_566_8, r_566_9, r_566_10, r_566_11, r_566_13, va_rf_s, n_cl, n_in_t, n_lt_t, n_lt_f, n_eq_t, n_eq_f, n_sub, nI_add, n_mul, ↓reduceIte, if_true, if_false, eq_self, true_or, or_true, and_self, and_true, true_and, Nat.reduceAdd, Nat.reduceMul, Nat.reduceLeDiff, Nat.zero_le, not_true_eq_false, not_false_eq_true, cat2_n, cat2_i, cat2_r, ws_0, ws_i, ws_r, ws_l, ws_d, aftr_n, aftr_s, bI_ok, bI_t, bI_f, up_s, up_n, n_bit, decide_true, decide_false, Bool.not_true, Bool.not_false, Bool.and_true, Bool.true_and, Bool.false_and, Bool.and_false, a2]
    exact this
  | some v =>
    have hv := hu v rfl
    obtain ⟨a1, a2, a3⟩ := h
    dsimp only at hQ
    by_cases e : v + 1 + p ≤ A 0
    · rw [if_pos e, if_pos e] at hQ
      simp (disch := omega) only [v126_0, v126_1, v126_4, v126_7, v126_8, v126_11, v126_12, v126_13, v126_14, v126_15, v126_16, v126_19, v126_20, v126_21, v126_24, u126_25, v126_28, v126_29, v126_29i, v126_30, v126_33, v126_34, v126_35, v126_38, v126_41, v126_42, v126_45, v126_46, v126_47, v126_48, v126_51, v126_52, v126_53, v126_56, k_566, k_567, k_568, k_569, k_570, k_571, k_572, k_573, k_574, k_575, k_576, r_566_0, r_566_2, r_566_4, r_566_6, r_566_7, r_566_8, r_566_9, r_566_10, r_566_11, r_566_13, va_rf_s, n_cl, n_in_t, n_lt_t, n_lt_f, n_eq_t, n_eq_f, n_sub, nI_add, n_mul, ↓reduceIte, if_true, if_false, eq_self, true_or, or_true, and_self, and_true, true_and, Nat.reduceAdd, Nat.reduceMul, Nat.reduceLeDiff, Nat.zero_le, not_true_eq_false, not_false_eq_true, cat2_n, cat2_i, cat2_r, ws_0, ws_i, ws_r, ws_l, ws_d, aftr_n, aftr_s, bI_ok, bI_t, bI_f, up_s, up_n, n_bit, decide_true, decide_false, Bool.not_true, Bool.not_false, Bool.and_true, Bool.true_and, Bool.false_and, Bool.and_false, a1, a2, a3, hz.at]
      refine hQ _ ⟨?_, ?_, ?_⟩ ((Ag.rf.up ⟨rfl, by omega, by omega⟩).up ⟨rfl, by omega, by omega⟩)
      · rw [up_n (by omega), up_n (by omega), a1]
      · rw [up_s]
      · rw [up_n (by omega), up_s, show v + (p + 1) = v + 1 + p by omega]
    · rw [if_neg e, if_neg e] at hQ
      simp (disch := omega) only [v126_0, v126_1, v126_4, v126_7, v126_8, v126_11, v126_12, v126_13, v126_14, v126_15, v126_16, v126_19, v126_20, v126_21, v126_24, u126_25, k_566, k_567, k_568, k_569, k_570, k_571, k_572, k_573, k_574, k_575, k_576, r_566_0, r_566_2, r_566_4, r_566_6, r_566_7, r_566_8, r_566_9, r_566_10, r_566_11, r_566_13, va_rf_s, n_cl, n_in_t, n_lt_t, n_lt_f, n_eq_t, n_eq_f, n_sub, nI_add, n_mul, ↓reduceIte, if_true, if_false, eq_self, true_or, or_true, and_self, and_true, true_and, Nat.reduceAdd, Nat.reduceMul, Nat.reduceLeDiff, Nat.zero_le, not_true_eq_false, not_false_eq_true, cat2_n, cat2_i, cat2_r, ws_0, ws_i, ws_r, ws_l, ws_d, aftr_n, aftr_s, bI_ok, bI_t, bI_f, up_s, up_n, n_bit, decide_true, decide_false, Bool.not_true, Bool.not_false, Bool.and_true, Bool.true_and, Bool.false_and, Bool.and_false, a2, a3, hz.at]
      refine c125 a1 (fun I1 g1 g2 => ?_)
      simp (disch := omega) only [↓reduceIte, if_true, if_false, eq_self, true_or, or_true, and_self, and_true, true_and, Nat.reduceAdd, Nat.reduceMul, Nat.reduceLeDiff, Nat.zero_le, not_true_eq_false, not_false_eq_true, aftr_n]
      exact fin I1 l g1 g2 hQ
theorem l127 (hg : Good A) : ∀ n p l (u : Option Nat) pc0 I, p ≤ n → p ≤ 10000 → (∀ v, u = some v → v ≤ 10000) → RZ b I A → LY b I l u → (∀ I', LY b I' (plc (A 0) l u p).1 (some (plc (A 0) l u p).2) → Ag pLn b I I' → Q (.inl none) (KAt KL b, I', RAt RL b q, L, sz, ex)) →
    X z 127 2 [some (.ref (ad b 566)), some (.int (nI pc0)), some (.int (nI p))] [] (0, 0) (KAt KL b, I, RAt RL b q, L, sz, ex) Q := by
  have h0 := hg.2.1.2.1
  have h1 := hg.2.1.1
  intro n
  induction n with
  | zero =>
    intro p l u pc0 I hp hp2 hu hz h hQ
    rw [v127_2]
    simp (disch := omega) only [v127_0, v127_1, v127_3, v127_4, v127_7, v127_8, v127_9, v127_12, v127_13, v127_14, v127_17, v127_18, u127_19, v127_22, v127_23, v127_24, v127_27, v127_28, v127_29, v127_30, v127_31, v127_34, v127_35, u127_36, v127_39, k_566, k_567, k_568, k_569, k_570, k_571, k_572, k_573, k_574, k_575, k_576, r_566_0, r_566_2, r_566_4, r_566_6, r_566_7, r_566_8, r_566_9, r_566_10, r_566_11, r_566_13, va_rf_s, n_cl, n_in_t, n_lt_t, n_lt_f, n_eq_t, n_eq_f, n_sub, nI_add, n_mul, ↓reduceIte, if_true, if_false, eq_self, true_or, or_true, and_self, and_true, true_and, Nat.reduceAdd, Nat.reduceMul, Nat.reduceLeDiff, Nat.zero_le, not_true_eq_false, not_false_eq_true, cat2_n, cat2_i, cat2_r, ws_0, ws_i, ws_r, ws_l, ws_d, aftr_n, aftr_s, bI_ok, bI_t, bI_f, up_s, up_n, n_bit, decide_true, decide_false, Bool.not_true, Bool.not_false, Bool.and_true, Bool.true_and, Bool.false_and, Bool.and_false, hz.at]
    refine c126 hg hz h hp2 hu (fun I1 g1 g2 => ?_)
    simp (disch := omega) only [v127_0, v127_1, v127_3, v127_4, v127_7, v127_8, v127_9, v127_12, v127_13, v127_14, v127_17, v127_18, u127_19, v127_22, v127_23, v127_24, v127_27, v127_28, v127_29, v127_30, v127_31, v127_34, v127_35, u127_36, v127_39, k_566, k_567, k_568, k_569, k_570, k_571, k_572, k_573, k_574, k_575, k_576, r_566_0, r_566_2, r_566_4, r_566_6, r_566_7, r_566_8, r_566_9, r_566_10, r_566_11, r_566_13, va_rf_s, n_cl, n_in_t, n_lt_t, n_lt_f, n_eq_t, n_eq_f, n_sub, nI_add, n_mul, ↓reduceIte, if_true, if_false, eq_self, true_or, or_true, and_self, and_true, true_and, Nat.reduceAdd, Nat.reduceMul, Nat.reduceLeDiff, Nat.zero_le, not_true_eq_false, not_false_eq_true, cat2_n, cat2_i, cat2_r, ws_0, ws_i, ws_r, ws_l, ws_d, aftr_n, aftr_s, bI_ok, bI_t, bI_f, up_s, up_n, n_bit, decide_true, decide_false, Bool.not_true, Bool.not_false, Bool.and_true, Bool.true_and, Bool.false_and, Bool.and_false]
    refine hQ I1 ?_ g2
    have e : p ≤ A 0 := by omega
    unfold plc plN plU
    rw [if_pos e, if_pos e]
    cases u with
    | none => exact g1
    | some v => dsimp only at g1 ⊢; split <;> next e2 => (first | rw [if_pos e2, if_pos e2] at g1 | rw [if_neg e2, if_neg e2] at g1); exact g1
  | succ n ih =>
    intro p l u pc0 I hp hp2 hu hz h hQ
    by_cases e : p ≤ A 0
    · rw [v127_2]
      simp (disch := omega) only [v127_0, v127_1, v127_3, v127_4, v127_7, v127_8, v127_9, v127_12, v127_13, v127_14, v127_17, v127_18, u127_19, v127_22, v127_23, v127_24, v127_27, v127_28, v127_29, v127_30, v127_31, v127_34, v127_35, u127_36, v127_39, k_566, k_567, k_568, k_569, k_570, k_571, k_572, k_573, k_574, k_575, k_576, r_566_0, r_566_2, r_566_4, r_566_6, r_566_7, r_566_8, r_566_9, r_566_10, r_566_11, r_566_13, va_rf_s, n_cl, n_in_t, n_lt_t, n_lt_f, n_eq_t, n_eq_f, n_sub, nI_add, n_mul, ↓reduceIte, if_true, if_false, eq_self, true_or, or_true, and_self, and_true, true_and, Nat.reduceAdd, Nat.reduceMul, Nat.reduceLeDiff, Nat.zero_le, not_true_eq_false, not_false_eq_true, cat2_n, cat2_i, cat2_r, ws_0, ws_i, ws_r, ws_l, ws_d, aftr_n, aftr_s, bI_ok, bI_t, bI_f, up_s, up_n, n_bit, decide_true, decide_false, Bool.not_true, Bool.not_false, Bool.and_true, Bool.true_and, Bool.false_and, Bool.and_false, hz.at]
      refine c126 hg hz h hp2 hu (fun I1 g1 g2 => ?_)
      simp (disch := omega) only [v127_0, v127_1, v127_3, v127_4, v127_7, v127_8, v127_9, v127_12, v127_13, v127_14, v127_17, v127_18, u127_19, v127_22, v127_23, v127_24, v127_27, v127_28, v127_29, v127_30, v127_31, v127_34, v127_35, u127_36, v127_39, k_566, k_567, k_568, k_569, k_570, k_571, k_572, k_573, k_574, k_575, k_576, r_566_0, r_566_2, r_566_4, r_566_6, r_566_7, r_566_8, r_566_9, r_566_10, r_566_11, r_566_13, va_rf_s, n_cl, n_in_t, n_lt_t, n_lt_f, n_eq_t, n_eq_f, n_sub, nI_add, n_mul, ↓reduceIte, if_true, if_false, eq_self, true_or, or_true, and_self, and_true, true_and, Nat.reduceAdd, Nat.reduceMul, Nat.reduceLeDiff, Nat.zero_le, not_true_eq_false, not_false_eq_true, cat2_n, cat2_i, cat2_r, ws_0, ws_i, ws_r, ws_l, ws_d, aftr_n, aftr_s, bI_ok, bI_t, bI_f, up_s, up_n, n_bit, decide_true, decide_false, Bool.not_true, Bool.not_false, Bool.and_true, Bool.true_and, Bool.false_and, Bool.and_false]
      refine hQ I1 ?_ g2
      unfold plc plN plU
      rw [if_pos e, if_pos e]
      cases u with
      | none => exact g1
      | some v => dsimp only at g1 ⊢; split <;> next e2 => (first | rw [if_pos e2, if_pos e2] at g1 | rw [if_neg e2, if_neg e2] at g1); exact g1
    · rw [v127_2]
      simp (disch := omega) only [v127_0, v127_1, v127_3, v127_4, v127_7, v127_8, v127_9, v127_12, v127_13, v127_14, v127_17, v127_18, u127_19, v127_22, v127_23, v127_24, v127_27, v127_28, v127_29, v127_30, v127_31, v127_34, v127_35, u127_36, v127_39, k_566, k_567, k_568, k_569, k_570, k_571, k_572, k_573, k_574, k_575, k_576, r_566_0, r_566_2, r_566_4, r_566_6, r_566_7, r_566_8, r_566_9, r_566_10, r_566_11, r_566_13, va_rf_s, n_cl, n_in_t, n_lt_t, n_lt_f, n_eq_t, n_eq_f, n_sub, nI_add, n_mul, ↓reduceIte, if_true, if_false, eq_self, true_or, or_true, and_self, and_true, true_and, Nat.reduceAdd, Nat.reduceMul, Nat.reduceLeDiff, Nat.zero_le, not_true_eq_false, not_false_eq_true, cat2_n, cat2_i, cat2_r, ws_0, ws_i, ws_r, ws_l, ws_d, aftr_n, aftr_s, bI_ok, bI_t, bI_f, up_s, up_n, n_bit, decide_true, decide_false, Bool.not_true, Bool.not_false, Bool.and_true, Bool.true_and, Bool.false_and, Bool.and_false, hz.at]
      refine c126 hg hz h (by omega) hu (fun I1 g1 g2 => ?_)
      have hz1 := hz.ag g2 pLn_z
      simp (disch := omega) only [v127_0, v127_1, v127_3, v127_4, v127_7, v127_8, v127_9, v127_12, v127_13, v127_14, v127_17, v127_18, u127_19, v127_22, v127_23, v127_24, v127_27, v127_28, v127_29, v127_30, v127_31, v127_34, v127_35, u127_36, v127_39, k_566, k_567, k_568, k_569, k_570, k_571, k_572, k_573, k_574, k_575, k_576, r_566_0, r_566_2, r_566_4, r_566_6, r_566_7, r_566_8, r_566_9, r_566_10, r_566_11, r_566_13, va_rf_s, n_cl, n_in_t, n_lt_t, n_lt_f, n_eq_t, n_eq_f, n_sub, nI_add, n_mul, ↓reduceIte, if_true, if_false, eq_self, true_or, or_true, and_self, and_true, true_and, Nat.reduceAdd, Nat.reduceMul, Nat.reduceLeDiff, Nat.zero_le, not_true_eq_false, not_false_eq_true, cat2_n, cat2_i, cat2_r, ws_0, ws_i, ws_r, ws_l, ws_d, aftr_n, aftr_s, bI_ok, bI_t, bI_f, up_s, up_n, n_bit, decide_true, decide_false, Bool.not_true, Bool.not_false, Bool.and_true, Bool.true_and, Bool.false_and, Bool.and_false, hz1.at]
      have st := pl_step (show 1 ≤ A 0 by omega) (show A 0 < p by omega)
      have g3 : LY b I1 (l + 1) (some (A 0)) := by
        cases u with
        | none => exact g1
        | some v => dsimp only at g1; rw [if_neg (by omega), if_neg (by omega)] at g1; exact g1
      have e3 : plc (A 0) l u p = plc (A 0) (l + 1) (some (A 0)) (p - A 0) := by
        have : plc (A 0) (l + 1) (some (A 0)) (p - A 0) = (l + 1 + plN (A 0) (p - A 0), plU (A 0) (p - A 0)) := by show (if _ then _ else _) = _; rw [if_neg (by omega)]
        rw [this]
        have h5 : plc (A 0) l u p = (l + plN (A 0) p, plU (A 0) p) := by
          cases u with
          | none => rfl
          | some v => show (if _ then _ else _) = _; rw [if_neg (by omega)]
        rw [h5, st.1, st.2, Nat.add_assoc]
      rw [e3] at hQ
      exact ih (p - A 0) (l + 1) (some (A 0)) pc0 I1 (by omega) (by omega) (fun v hv => by cases hv; omega) hz1 g3 (fun I2 g4 g5 => hQ I2 g4 (g2.tr g5))
theorem c127 {l p : Nat} {u : Option Nat} (hg : Good A) (hz : RZ b I A) (h : LY b I l u) (hp : p ≤ 10000) (hu : ∀ v, u = some v → v ≤ 10000) (hQ : ∀ I', LY b I' (plc (A 0) l u p).1 (some (plc (A 0) l u p).2) → Ag pLn b I I' → Q (.inl none) (KAt KL b, I', RAt RL b q, L, sz, ex)) :
    X z 127 0 [some (.ref (ad b 566)), some (.int (nI p)), none] [] (0, 0) (KAt KL b, I, RAt RL b q, L, sz, ex) Q := by
  simp (disch := omega) only [v127_0, v127_1, k_566, k_567, k_568, k_569, k_570, k_571, k_572, k_573, k_574, k_575, k_576, r_566_0, r_566_2, r_566_4, r_566_6, r_566_7, r_566_8, r_566_9, r_566_10, r_566_11, r_566_13, va_rf_s, n_cl, n_in_t, n_lt_t, n_lt_f, n_eq_t, n_eq_f, n_sub, nI_add, n_mul, ↓reduceIte, if_true, if_false, eq_self, true_or, or_true, and_self, and_true, true_and, Nat.reduceAdd, Nat.reduceMul, Nat.reduceLeDiff, Nat.zero_le, not_true_eq_false, not_false_eq_true, cat2_n, cat2_i, cat2_r, ws_0, ws_i, ws_r, ws_l, ws_d, aftr_n, aftr_s, bI_ok, bI_t, bI_f, up_s, up_n, n_bit, decide_true, decide_false, Bool.not_true, Bool.not_false, Bool.and_true, Bool.true_and, Bool.false_and, Bool.and_false]
  exact l127 hg p p l u p I (Nat.le_refl _) hp hu hz h hQ
theorem c128 {n : Nat} (hg : Good A) (hz : RZ b I A) (hn : n < 1000000) : X z 128 0 [some (.ref (ad b 566)), some (.int (nI n))] [] (0, 0) (KAt KL b, I, RAt RL b q, L, sz, ex) Q = Q (.inl (some (.int (nI (pgs (A 1) n))))) (KAt KL b, I, RAt RL b q, L, sz, ex) := by
  have h0 := hg.2.1.2.2.1
  have h1 := hg.2.1.2.2.2.1
  simp (disch := omega) only [v128_0, v128_1, v128_2, v128_5, v128_6, v128_7, v128_8, v128_9, v128_10, v128_11, v128_14, v128_15, v128_16, v128_17, k_566, k_567, k_568, k_569, k_570, k_571, k_572, k_573, k_574, k_575, k_576, r_566_0, r_566_2, r_566_4, r_566_6, r_566_7, r_566_8, r_566_9, r_566_10, r_566_11, r_566_13, va_rf_s, n_cl, n_in_t, n_lt_t, n_lt_f, n_eq_t, n_eq_f, n_sub, nI_add, n_mul, ↓reduceIte, if_true, if_false, eq_self, true_or, or_true, and_self, and_true, true_and, Nat.reduceAdd, Nat.reduceMul, Nat.reduceLeDiff, Nat.zero_le, not_true_eq_false, not_false_eq_true, cat2_n, cat2_i, cat2_r, ws_0, ws_i, ws_r, ws_l, ws_d, aftr_n, aftr_s, bI_ok, bI_t, bI_f, up_s, up_n, n_bit, decide_true, decide_false, Bool.not_true, Bool.not_false, Bool.and_true, Bool.true_and, Bool.false_and, Bool.and_false, hz.at, n_z, n_div]
  rfl
theorem plU_le {W p : Nat} : plU W p ≤ p + W := by
  unfold plU
  have := Nat.mod_le p W
  split <;> (try split) <;> omega
theorem plc_u {W l p : Nat} {u : Option Nat} (hp : p ≤ 5000) (hW : W ≤ 40) : (plc W l u p).2 ≤ 10000 := by
  have := plU_le (W := W) (p := p)
  unfold plc
  split
  · split <;> dsimp only <;> omega
  · dsimp only; omega
end RY
