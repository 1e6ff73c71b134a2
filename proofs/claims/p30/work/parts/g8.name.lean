/-! THE LAW: a name, a word is typed in and taken -/
theorem leq_t {a b : Nat} (h : a ≤ b) : (a ≤ b) = True := eq_true h
theorem wE_let {kind : Nat} : ∀ (r : List Nat) (k : Nat), (∀ c ∈ r, letB c = true) → k + r.length ≤ 8 → wE kind k r = r.length
  | [], _, _, _ => rfl
  | c :: r, k, h, hl => by
    have hc := h c List.mem_cons_self
    have hn : ¬ c = 42 := by unfold letB at hc; rw [decide_eq_true_eq] at hc; omega
    rw [List.length_cons] at hl ⊢
    unfold wE
    rw [if_neg (fun x => hn x.2), if_pos ⟨hc, by omega⟩, wE_let r (k + 1) (fun c hc => h c (List.mem_cons_of_mem _ hc)) (by omega)]
    omega
theorem wE_star : ∀ (r : List Nat) (k : Nat), (∀ c ∈ r, letB c = true) → k + r.length ≤ 8 → 0 < k + r.length → wE 1 k (r ++ [42]) = r.length + 1
  | [], k, _, _, h0 => by
    rw [List.length_nil] at h0
    show (if 1 = 1 ∧ 42 = 42 then (if 0 < k then 1 else 0) else _) = 0 + 1
    rw [if_pos ⟨rfl, rfl⟩, if_pos (by omega)]
  | c :: r, k, h, hl, _ => by
    have hc := h c List.mem_cons_self
    have hn : ¬ c = 42 := by unfold letB at hc; rw [decide_eq_true_eq] at hc; omega
    rw [List.length_cons] at hl ⊢
    rw [List.cons_append]
    unfold wE
    rw [if_neg (fun x => hn x.2), if_pos ⟨hc, by omega⟩, wE_star r (k + 1) (fun c hc => h c (List.mem_cons_of_mem _ hc)) (by omega) (by omega)]
    omega
theorem ldr_ty : ∀ (r s : List Nat) (m : Nat), (∀ c ∈ r, letB c = true) → r.length ≤ m → (s = [] ∨ s = [42]) → ldr m (r ++ s) = r.length
  | [], s, m, _, _, hs => by
    rw [List.nil_append]
    rcases hs with rfl | rfl
    · exact ldr_nil
    · cases m <;> rfl
  | c :: r, s, m, h, hl, hs => by
    have hc := h c List.mem_cons_self
    rw [List.length_cons] at hl ⊢
    obtain ⟨m, rfl⟩ : ∃ k, m = k + 1 := ⟨m - 1, by omega⟩
    rw [List.cons_append]
    unfold ldr
    rw [if_pos hc, ldr_ty r s m (fun c hc => h c (List.mem_cons_of_mem _ hc)) (by omega) hs]
    omega
/-- the letters of a name (0) or word (1), the first k of them -/
def tyL (kind p s k : Nat) : List Nat := segF (fun i => letN kind p s i) 0 k
theorem segF_snoc {f : Nat → Nat} : ∀ d i, segF f i (d + 1) = segF f i d ++ [f (i + d)]
  | 0, i => rfl
  | d + 1, i => by
    have u : segF f i (d + 1 + 1) = f i :: segF f (i + 1) (d + 1) := rfl
    have u2 : segF f i (d + 1) = f i :: segF f (i + 1) d := rfl
    rw [u, segF_snoc d (i + 1), u2, show i + 1 + d = i + (d + 1) by omega, List.cons_append]
theorem tyL_s {kind p s k : Nat} : tyL kind p s (k + 1) = tyL kind p s k ++ [letN kind p s k] := by unfold tyL; rw [segF_snoc, Nat.zero_add]
theorem tyL_len {kind p s k : Nat} : (tyL kind p s k).length = k := segF_len _ _
theorem tyL_b {kind p s k : Nat} : ∀ c ∈ tyL kind p s k, letB c = true := fun c hc => by
  obtain ⟨i, -, rfl⟩ := (segF_mem _ _).mp hc
  have := letN_b (kind := kind) (p := p) (s := s) (k := 0 + i)
  exact decide_eq_true this
theorem CQ_ok {b : Nat} {I : Nat → Nat → Int32} {q : Nat → Nat} {s : Ans} {v : Nat} {w : Wd} {P : Nat → (Nat → Nat → Int32) → (Nat → Nat) → Prop} {X : Nat → (Nat → Nat → Int32) → Prop} (h : s = (0, v, w)) (hP : ∀ I' q', CSt b I' q' w → Ag pCls b I I' → P v I' q') : CQ b I q s P X := by
  subst h
  exact ⟨fun _ => hP, fun x => absurd rfl x⟩
section LH
variable {z : P0} {KL : Nat → Nat × Nat} {RL : Nat → Nat → Option Nat} {q : Nat → Nat} {b : Nat} {I : Nat → Nat → Int32} {L : Nat → Nat → Int64} {sz : Nat} {ex : Bool} {Q : Res → Mem → Prop} {A : Row}
variable {n : Nat} {H : Nat → Row} {B : List Nat}
theorem opApp_ok {c : Nat} (hc : 33 ≤ c ∧ c ≤ 126) (hB : B.length < 60) : opApp (A, n, H, B) c = (0, B.length + 1, (A, n, H, B ++ [c])) := by unfold opApp; rw [if_pos hc, if_pos hB]
theorem gW_b {B' : List Nat} (hg : GoodW (A, n, H, B)) : GoodW (A, n, H, B') := hg
/-- the name is typed in: at each letter it is right so far -/
theorem l195 {p s a f : Nat} (hp : p < 20) (hs : s ≤ 8) : ∀ d k c m I q, k + d = s → c + 2 * d ≤ 19 → m + 12 * d ≤ 114 → CSt b I q (A, n, H, tyL 0 p s k) → GoodW (A, n, H, tyL 0 p s k) → (∀ I' q' c' m', c' ≤ 19 → m' ≤ 114 → CSt b I' q' (A, n, H, tyL 0 p s s) → Ag pCls b I I' → X z 195 53 [some (.ref (ad b 0)), some (.int (nI p)), some (.int (nI s)), some (.int (nI a)), some (.int (nI f)), some (.int (nI s))] [] (c', m') (KAt KL b, I', RAt RL b (q'), L, sz, ex) Q) →
    X z 195 8 [some (.ref (ad b 0)), some (.int (nI p)), some (.int (nI s)), some (.int (nI a)), some (.int (nI f)), some (.int (nI k))] [] (c, m) (KAt KL b, I, RAt RL b q, L, sz, ex) Q := by
  intro d
  induction d with
  | zero =>
    intro k c m I q h hc hm hw hg hQ
    obtain rfl : k = s := by omega
    rw [v195_8]
    simp (disch := omega) only [v195_10, v195_11, v195_14, v195_15, v195_16, v195_17, v195_18, u195_20, u195_23, v195_26, v195_28, v195_29, v195_30, v195_33, v195_34, u195_35, v195_38, v195_40, v195_41, v195_42, v195_45, v195_46, v195_47, v195_50, Nat.add_zero, n_cl, n_in_t, n_lt_t, n_lt_f, n_eq_t, n_eq_f, n_sub, nI_add, n_mul, n_01, ↓reduceIte, if_true, if_false, eq_self, true_or, or_true, and_self, and_true, true_and, Nat.reduceAdd, Nat.reduceMul, Nat.reduceLeDiff, Nat.zero_le, not_true_eq_false, not_false_eq_true, cat2_n, cat2_i, cat2_r, ws_0, ws_i, ws_r, ws_l, ws_d, aftr_n, aftr_s, bI_ok, bI_t, bI_f, up_s, up_n, n_bit, decide_true, decide_false, Bool.not_true, Bool.not_false, Bool.and_true, Bool.true_and, Bool.false_and, Bool.and_false, n_nlt0, n_neg_t, n_neg_f, k_0, k_566, k_567, k_568, k_569, k_570, k_571, k_572, k_573, k_574, k_575, k_576]
    exact hQ I q c m (by omega) (by omega) hw Ag.rf
  | succ d ih =>
    intro k c m I q h hc hm hw hg hQ
    have lb := letN_b (kind := 0) (p := p) (s := s) (k := k)
    have ll := tyL_len (kind := 0) (p := p) (s := s) (k := k)
    have ll1 := tyL_len (kind := 0) (p := p) (s := s) (k := k + 1)
    rw [v195_8]
    simp (disch := omega) only [v195_10, v195_11, v195_14, v195_15, v195_16, v195_17, v195_18, u195_20, u195_23, Nat.add_zero, n_cl, n_in_t, n_lt_t, n_lt_f, n_eq_t, n_eq_f, n_sub, nI_add, n_mul, n_01, ↓reduceIte, if_true, if_false, eq_self, true_or, or_true, and_self, and_true, true_and, Nat.reduceAdd, Nat.reduceMul, Nat.reduceLeDiff, Nat.zero_le, not_true_eq_false, not_false_eq_true, cat2_n, cat2_i, cat2_r, ws_0, ws_i, ws_r, ws_l, ws_d, aftr_n, aftr_s, bI_ok, bI_t, bI_f, up_s, up_n, n_bit, decide_true, decide_false, Bool.not_true, Bool.not_false, Bool.and_true, Bool.true_and, Bool.false_and, Bool.and_false, n_nlt0, n_neg_t, n_neg_f, k_0, k_566, k_567, k_568, k_569, k_570, k_571, k_572, k_573, k_574, k_575, k_576, c194, leq_t]
    refine c67 (by omega) hw hg (CQ_ok (opApp_ok (by omega) (by omega)) (fun I1 q1 w1 g1 => ?_))
    rw [ll, ← tyL_s] at *
    simp (disch := omega) only [v195_26, v195_28, v195_29, v195_30, v195_33, v195_34, u195_35, Nat.add_zero, n_cl, n_in_t, n_lt_t, n_lt_f, n_eq_t, n_eq_f, n_sub, nI_add, n_mul, n_01, ↓reduceIte, if_true, if_false, eq_self, true_or, or_true, and_self, and_true, true_and, Nat.reduceAdd, Nat.reduceMul, Nat.reduceLeDiff, Nat.zero_le, not_true_eq_false, not_false_eq_true, cat2_n, cat2_i, cat2_r, ws_0, ws_i, ws_r, ws_l, ws_d, aftr_n, aftr_s, bI_ok, bI_t, bI_f, up_s, up_n, n_bit, decide_true, decide_false, Bool.not_true, Bool.not_false, Bool.and_true, Bool.true_and, Bool.false_and, Bool.and_false, n_nlt0, n_neg_t, n_neg_f, k_0, k_566, k_567, k_568, k_569, k_570, k_571, k_572, k_573, k_574, k_575, k_576, leq_t]
    refine c69 (by omega) w1 (CQ_ok (v := k + 1) (w := (A, n, H, tyL 0 p s (k + 1))) ?_ (fun I2 q2 w2 g2 => ?_))
    · unfold opErr rgt
      rw [if_pos (by omega), if_neg (by omega)]
      dsimp only
      rw [wE_let _ 0 tyL_b (by omega), ll1]
    · simp (disch := omega) only [v195_38, v195_40, v195_41, v195_42, v195_45, v195_46, v195_47, v195_50, Nat.add_zero, n_cl, n_in_t, n_lt_t, n_lt_f, n_eq_t, n_eq_f, n_sub, nI_add, n_mul, n_01, ↓reduceIte, if_true, if_false, eq_self, true_or, or_true, and_self, and_true, true_and, Nat.reduceAdd, Nat.reduceMul, Nat.reduceLeDiff, Nat.zero_le, not_true_eq_false, not_false_eq_true, cat2_n, cat2_i, cat2_r, ws_0, ws_i, ws_r, ws_l, ws_d, aftr_n, aftr_s, bI_ok, bI_t, bI_f, up_s, up_n, n_bit, decide_true, decide_false, Bool.not_true, Bool.not_false, Bool.and_true, Bool.true_and, Bool.false_and, Bool.and_false, n_nlt0, n_neg_t, n_neg_f, k_0, k_566, k_567, k_568, k_569, k_570, k_571, k_572, k_573, k_574, k_575, k_576]
      exact ih (k + 1) _ _ I2 q2 (by omega) (by omega) (by omega) w2 hg (fun I3 q3 c' m' h1 h2 w3 g3 => hQ I3 q3 c' m' h1 h2 w3 ((g1.tr g2).tr g3))
theorem c195 {s a f : Nat} (h6 : A 6 < 20) (hs : 1 ≤ s ∧ s ≤ 8) (ha : a ≤ 19) (hf : f ≤ 2) (hw : CSt b I q (A, n, H, B)) (hg : GoodW (A, n, H, B)) (hQ : ∀ I' q', CSt b I' q' (addPR A a f (tyL 0 (A 6) s s), svN n, svH A n H, []) → GoodW (addPR A a f (tyL 0 (A 6) s s), svN n, svH A n H, []) → Ag pCls b I I' → Q (.inl (some (.int (nI 1)))) (KAt KL b, I', RAt RL b (q'), L, sz, ex)) :
    X z 195 0 [some (.ref (ad b 0)), some (.int (nI (A 6))), some (.int (nI s)), some (.int (nI a)), some (.int (nI f)), none] [] (0, 0) (KAt KL b, I, RAt RL b q, L, sz, ex) Q := by
  simp (disch := omega) only [v195_0, u195_1, Nat.add_zero, n_cl, n_in_t, n_lt_t, n_lt_f, n_eq_t, n_eq_f, n_sub, nI_add, n_mul, n_01, ↓reduceIte, if_true, if_false, eq_self, true_or, or_true, and_self, and_true, true_and, Nat.reduceAdd, Nat.reduceMul, Nat.reduceLeDiff, Nat.zero_le, not_true_eq_false, not_false_eq_true, cat2_n, cat2_i, cat2_r, ws_0, ws_i, ws_r, ws_l, ws_d, aftr_n, aftr_s, bI_ok, bI_t, bI_f, up_s, up_n, n_bit, decide_true, decide_false, Bool.not_true, Bool.not_false, Bool.and_true, Bool.true_and, Bool.false_and, Bool.and_false, n_nlt0, n_neg_t, n_neg_f, k_0, k_566, k_567, k_568, k_569, k_570, k_571, k_572, k_573, k_574, k_575, k_576, leq_t]
  refine c68 hw hg (CQ_ok (v := B.length) (w := (A, n, H, [])) rfl (fun I1 q1 w1 g1 => ?_))
  simp (disch := omega) only [v195_4, v195_5, v195_6, Nat.add_zero, n_cl, n_in_t, n_lt_t, n_lt_f, n_eq_t, n_eq_f, n_sub, nI_add, n_mul, n_01, ↓reduceIte, if_true, if_false, eq_self, true_or, or_true, and_self, and_true, true_and, Nat.reduceAdd, Nat.reduceMul, Nat.reduceLeDiff, Nat.zero_le, not_true_eq_false, not_false_eq_true, cat2_n, cat2_i, cat2_r, ws_0, ws_i, ws_r, ws_l, ws_d, aftr_n, aftr_s, bI_ok, bI_t, bI_f, up_s, up_n, n_bit, decide_true, decide_false, Bool.not_true, Bool.not_false, Bool.and_true, Bool.true_and, Bool.false_and, Bool.and_false, n_nlt0, n_neg_t, n_neg_f, k_0, k_566, k_567, k_568, k_569, k_570, k_571, k_572, k_573, k_574, k_575, k_576]
  refine l195 h6 hs.2 s 0 0 0 I1 q1 (by omega) (by omega) (by omega) w1 hg (fun I2 q2 c' m' h1 h2 w2 g2 => ?_)
  simp (disch := omega) only [v195_53, v195_54, v195_55, u195_57, Nat.add_zero, n_cl, n_in_t, n_lt_t, n_lt_f, n_eq_t, n_eq_f, n_sub, nI_add, n_mul, n_01, ↓reduceIte, if_true, if_false, eq_self, true_or, or_true, and_self, and_true, true_and, Nat.reduceAdd, Nat.reduceMul, Nat.reduceLeDiff, Nat.zero_le, not_true_eq_false, not_false_eq_true, cat2_n, cat2_i, cat2_r, ws_0, ws_i, ws_r, ws_l, ws_d, aftr_n, aftr_s, bI_ok, bI_t, bI_f, up_s, up_n, n_bit, decide_true, decide_false, Bool.not_true, Bool.not_false, Bool.and_true, Bool.true_and, Bool.false_and, Bool.and_false, n_nlt0, n_neg_t, n_neg_f, k_0, k_566, k_567, k_568, k_569, k_570, k_571, k_572, k_573, k_574, k_575, k_576, leq_t]
  have ll := tyL_len (kind := 0) (p := A 6) (s := s) (k := s)
  have cp : cpl 0 (tyL 0 (A 6) s s) = true := by
    unfold cpl
    rw [if_neg (by omega), wE_let _ 0 tyL_b (by omega), Bool.and_eq_true]
    refine ⟨decide_eq_true (fun e => ?_), decide_eq_true rfl⟩
    rw [e, List.length_nil] at ll
    omega
  have kg : GoodW (addPR A a f (tyL 0 (A 6) s s), svN n, svH A n H, []) := by
    have := k_AddP (a := a) (f := f) (gW_b (B' := tyL 0 (A 6) s s) hg)
    unfold opAddP at this
    rwa [if_pos ⟨⟨ha, hf⟩, cp⟩, if_pos h6] at this
  refine c58 (by omega) (by omega) w2 hg (CQ_ok (v := A 6) (w := (addPR A a f (tyL 0 (A 6) s s), svN n, svH A n H, [])) ?_ (fun I3 q3 w3 g3 => ?_))
  · unfold opAddP
    rw [if_pos ⟨⟨ha, hf⟩, cp⟩, if_pos h6]
  · simp (disch := omega) only [v195_60, v195_61, v195_64, u195_65, Nat.add_zero, n_cl, n_in_t, n_lt_t, n_lt_f, n_eq_t, n_eq_f, n_sub, nI_add, n_mul, n_01, ↓reduceIte, if_true, if_false, eq_self, true_or, or_true, and_self, and_true, true_and, Nat.reduceAdd, Nat.reduceMul, Nat.reduceLeDiff, Nat.zero_le, not_true_eq_false, not_false_eq_true, cat2_n, cat2_i, cat2_r, ws_0, ws_i, ws_r, ws_l, ws_d, aftr_n, aftr_s, bI_ok, bI_t, bI_f, up_s, up_n, n_bit, decide_true, decide_false, Bool.not_true, Bool.not_false, Bool.and_true, Bool.true_and, Bool.false_and, Bool.and_false, n_nlt0, n_neg_t, n_neg_f, k_0, k_566, k_567, k_568, k_569, k_570, k_571, k_572, k_573, k_574, k_575, k_576, leq_t]
    refine c68 w3 kg (CQ_ok (v := 0) (w := (addPR A a f (tyL 0 (A 6) s s), svN n, svH A n H, [])) rfl (fun I4 q4 w4 g4 => ?_))
    simp (disch := omega) only [v195_68, v195_71, v195_72, v195_75, v195_76, Nat.add_zero, n_cl, n_in_t, n_lt_t, n_lt_f, n_eq_t, n_eq_f, n_sub, nI_add, n_mul, n_01, ↓reduceIte, if_true, if_false, eq_self, true_or, or_true, and_self, and_true, true_and, Nat.reduceAdd, Nat.reduceMul, Nat.reduceLeDiff, Nat.zero_le, not_true_eq_false, not_false_eq_true, cat2_n, cat2_i, cat2_r, ws_0, ws_i, ws_r, ws_l, ws_d, aftr_n, aftr_s, bI_ok, bI_t, bI_f, up_s, up_n, n_bit, decide_true, decide_false, Bool.not_true, Bool.not_false, Bool.and_true, Bool.true_and, Bool.false_and, Bool.and_false, n_nlt0, n_neg_t, n_neg_f, k_0, k_566, k_567, k_568, k_569, k_570, k_571, k_572, k_573, k_574, k_575, k_576]
    exact hQ I4 q4 w4 kg (((g1.tr g2).tr g3).tr g4)
theorem l196 {p s pl : Nat} (hp : p < 10) (hs : s ≤ 8) : ∀ d k c m I q, k + d = s → c + d ≤ 9 → m + 6 * d ≤ 54 → CSt b I q (A, n, H, tyL 1 p s k) → GoodW (A, n, H, tyL 1 p s k) → (∀ I' q' c' m', c' ≤ 9 → m' ≤ 54 → CSt b I' q' (A, n, H, tyL 1 p s s) → Ag pCls b I I' → X z 196 33 [some (.ref (ad b 0)), some (.int (nI p)), some (.int (nI s)), some (.int (nI pl)), some (.int (nI s))] [] (c', m') (KAt KL b, I', RAt RL b (q'), L, sz, ex) Q) →
    X z 196 8 [some (.ref (ad b 0)), some (.int (nI p)), some (.int (nI s)), some (.int (nI pl)), some (.int (nI k))] [] (c, m) (KAt KL b, I, RAt RL b q, L, sz, ex) Q := by
  intro d
  induction d with
  | zero =>
    intro k c m I q h hc hm hw hg hQ
    obtain rfl : k = s := by omega
    rw [v196_8]
    simp (disch := omega) only [v196_10, v196_11, v196_14, v196_15, v196_16, v196_17, v196_18, u196_20, u196_23, v196_26, v196_27, v196_30, Nat.add_zero, n_cl, n_in_t, n_lt_t, n_lt_f, n_eq_t, n_eq_f, n_sub, nI_add, n_mul, n_01, ↓reduceIte, if_true, if_false, eq_self, true_or, or_true, and_self, and_true, true_and, Nat.reduceAdd, Nat.reduceMul, Nat.reduceLeDiff, Nat.zero_le, not_true_eq_false, not_false_eq_true, cat2_n, cat2_i, cat2_r, ws_0, ws_i, ws_r, ws_l, ws_d, aftr_n, aftr_s, bI_ok, bI_t, bI_f, up_s, up_n, n_bit, decide_true, decide_false, Bool.not_true, Bool.not_false, Bool.and_true, Bool.true_and, Bool.false_and, Bool.and_false, n_nlt0, n_neg_t, n_neg_f, k_0, k_566, k_567, k_568, k_569, k_570, k_571, k_572, k_573, k_574, k_575, k_576]
    exact hQ I q c m (by omega) (by omega) hw Ag.rf
  | succ d ih =>
    intro k c m I q h hc hm hw hg hQ
    have lb := letN_b (kind := 1) (p := p) (s := s) (k := k)
    have ll := tyL_len (kind := 1) (p := p) (s := s) (k := k)
    rw [v196_8]
    simp (disch := omega) only [v196_10, v196_11, v196_14, v196_15, v196_16, v196_17, v196_18, u196_20, u196_23, Nat.add_zero, n_cl, n_in_t, n_lt_t, n_lt_f, n_eq_t, n_eq_f, n_sub, nI_add, n_mul, n_01, ↓reduceIte, if_true, if_false, eq_self, true_or, or_true, and_self, and_true, true_and, Nat.reduceAdd, Nat.reduceMul, Nat.reduceLeDiff, Nat.zero_le, not_true_eq_false, not_false_eq_true, cat2_n, cat2_i, cat2_r, ws_0, ws_i, ws_r, ws_l, ws_d, aftr_n, aftr_s, bI_ok, bI_t, bI_f, up_s, up_n, n_bit, decide_true, decide_false, Bool.not_true, Bool.not_false, Bool.and_true, Bool.true_and, Bool.false_and, Bool.and_false, n_nlt0, n_neg_t, n_neg_f, k_0, k_566, k_567, k_568, k_569, k_570, k_571, k_572, k_573, k_574, k_575, k_576, c194, leq_t]
    refine c67 (by omega) hw hg (CQ_ok (opApp_ok (by omega) (by omega)) (fun I1 q1 w1 g1 => ?_))
    rw [← tyL_s] at w1
    simp (disch := omega) only [v196_26, v196_27, v196_30, Nat.add_zero, n_cl, n_in_t, n_lt_t, n_lt_f, n_eq_t, n_eq_f, n_sub, nI_add, n_mul, n_01, ↓reduceIte, if_true, if_false, eq_self, true_or, or_true, and_self, and_true, true_and, Nat.reduceAdd, Nat.reduceMul, Nat.reduceLeDiff, Nat.zero_le, not_true_eq_false, not_false_eq_true, cat2_n, cat2_i, cat2_r, ws_0, ws_i, ws_r, ws_l, ws_d, aftr_n, aftr_s, bI_ok, bI_t, bI_f, up_s, up_n, n_bit, decide_true, decide_false, Bool.not_true, Bool.not_false, Bool.and_true, Bool.true_and, Bool.false_and, Bool.and_false, n_nlt0, n_neg_t, n_neg_f, k_0, k_566, k_567, k_568, k_569, k_570, k_571, k_572, k_573, k_574, k_575, k_576]
    exact ih (k + 1) _ _ I1 q1 (by omega) (by omega) (by omega) w1 hg (fun I3 q3 c' m' h1 h2 w3 g3 => hQ I3 q3 c' m' h1 h2 w3 (g1.tr g3))
theorem c196 {s : Nat} {pl : Bool} (h7 : A 7 < 10) (hs : 1 ≤ s ∧ s ≤ 8) (hw : CSt b I q (A, n, H, B)) (hg : GoodW (A, n, H, B)) (hQ : ∀ I' q', CSt b I' q' (updL (worR A (A 7) (if pl = true then 1 else 0) s) (333 + 8 * A 7) (tyL 1 (A 7) s s), svN n, svH A n H, []) → Ag pCls b I I' → GoodW (updL (worR A (A 7) (if pl = true then 1 else 0) s) (333 + 8 * A 7) (tyL 1 (A 7) s s), svN n, svH A n H, []) → Q (.inl (some (.int (nI 1)))) (KAt KL b, I', RAt RL b (q'), L, sz, ex)) :
    X z 196 0 [some (.ref (ad b 0)), some (.int (nI (A 7))), some (.int (nI s)), some (.int (bI pl)), none] [] (0, 0) (KAt KL b, I, RAt RL b q, L, sz, ex) Q := by
  have ll := tyL_len (kind := 1) (p := A 7) (s := s) (k := s)
  have lb := tyL_b (kind := 1) (p := A 7) (s := s) (k := s)
  -- the text in the buffer: L, what it is
  have fin : ∀ (B1 : List Nat) (k : Nat) (st : List Value) (pc : Nat) I1 q1 c' m', c' ≤ 10 → m' ≤ 60 → CSt b I1 q1 (A, n, H, B1) → Ag pCls b I I1 → rgt 1 B1 = s + k → cpl 1 B1 = true → (if ldr 8 B1 < B1.length then 1 else 0) = (if pl = true then 1 else 0) → ldr 8 B1 = s → B1.take s = tyL 1 (A 7) s s → k = (if pl = true then 1 else 0) → B1.length ≤ 9 →
      X z 196 44 [some (.ref (ad b 0)), some (.int (nI (A 7))), some (.int (nI s)), some (.int (bI pl)), some (.int (nI s))] [] (c', m') (KAt KL b, I1, RAt RL b (q1), L, sz, ex) Q := by
    intro B1 k st pc I1 q1 c' m' hc hm w1 g1 r1 r2 r3 r4 r5 hk hB
    have op : opAddW (A, n, H, B1) = (0, A 7, (updL (worR A (A 7) (if pl = true then 1 else 0) s) (333 + 8 * A 7) (tyL 1 (A 7) s s), svN n, svH A n H, [])) := by
      unfold opAddW
      dsimp only
      rw [if_pos r2, if_pos h7]
      unfold addWR
      rw [r3, r4, r5]
    have kg : GoodW (updL (worR A (A 7) (if pl = true then 1 else 0) s) (333 + 8 * A 7) (tyL 1 (A 7) s s), svN n, svH A n H, []) := by
      have := k_AddW (gW_b (B' := B1) hg)
      rwa [op] at this
    simp (disch := omega) only [v196_44, v196_45, u196_46, Nat.add_zero, n_cl, n_in_t, n_lt_t, n_lt_f, n_eq_t, n_eq_f, n_sub, nI_add, n_mul, n_01, ↓reduceIte, if_true, if_false, eq_self, true_or, or_true, and_self, and_true, true_and, Nat.reduceAdd, Nat.reduceMul, Nat.reduceLeDiff, Nat.zero_le, not_true_eq_false, not_false_eq_true, cat2_n, cat2_i, cat2_r, ws_0, ws_i, ws_r, ws_l, ws_d, aftr_n, aftr_s, bI_ok, bI_t, bI_f, up_s, up_n, n_bit, decide_true, decide_false, Bool.not_true, Bool.not_false, Bool.and_true, Bool.true_and, Bool.false_and, Bool.and_false, n_nlt0, n_neg_t, n_neg_f, k_0, k_566, k_567, k_568, k_569, k_570, k_571, k_572, k_573, k_574, k_575, k_576, leq_t]
    refine c69 (by omega) w1 (CQ_ok (v := s + k) (w := (A, n, H, B1)) ?_ (fun I2 q2 w2 g2 => ?_))
    · unfold opErr
      rw [if_pos (by omega), r1]
    · have nx : X z 196 63 [some (.ref (ad b 0)), some (.int (nI (A 7))), some (.int (nI s)), some (.int (bI pl)), some (.int (nI s))] [] (c' + 1, m' + 6) (KAt KL b, I2, RAt RL b (q2), L, sz, ex) Q := by
        simp (disch := omega) only [v196_63, u196_64, Nat.add_zero, n_cl, n_in_t, n_lt_t, n_lt_f, n_eq_t, n_eq_f, n_sub, nI_add, n_mul, n_01, ↓reduceIte, if_true, if_false, eq_self, true_or, or_true, and_self, and_true, true_and, Nat.reduceAdd, Nat.reduceMul, Nat.reduceLeDiff, Nat.zero_le, not_true_eq_false, not_false_eq_true, cat2_n, cat2_i, cat2_r, ws_0, ws_i, ws_r, ws_l, ws_d, aftr_n, aftr_s, bI_ok, bI_t, bI_f, up_s, up_n, n_bit, decide_true, decide_false, Bool.not_true, Bool.not_false, Bool.and_true, Bool.true_and, Bool.false_and, Bool.and_false, n_nlt0, n_neg_t, n_neg_f, k_0, k_566, k_567, k_568, k_569, k_570, k_571, k_572, k_573, k_574, k_575, k_576, leq_t]
        refine c59 w2 hg (CQ_ok op (fun I3 q3 w3 g3 => ?_))
        simp (disch := omega) only [v196_67, v196_68, v196_71, u196_72, Nat.add_zero, n_cl, n_in_t, n_lt_t, n_lt_f, n_eq_t, n_eq_f, n_sub, nI_add, n_mul, n_01, ↓reduceIte, if_true, if_false, eq_self, true_or, or_true, and_self, and_true, true_and, Nat.reduceAdd, Nat.reduceMul, Nat.reduceLeDiff, Nat.zero_le, not_true_eq_false, not_false_eq_true, cat2_n, cat2_i, cat2_r, ws_0, ws_i, ws_r, ws_l, ws_d, aftr_n, aftr_s, bI_ok, bI_t, bI_f, up_s, up_n, n_bit, decide_true, decide_false, Bool.not_true, Bool.not_false, Bool.and_true, Bool.true_and, Bool.false_and, Bool.and_false, n_nlt0, n_neg_t, n_neg_f, k_0, k_566, k_567, k_568, k_569, k_570, k_571, k_572, k_573, k_574, k_575, k_576, leq_t]
        refine c68 w3 kg (CQ_ok (v := 0) (w := (updL (worR A (A 7) (if pl = true then 1 else 0) s) (333 + 8 * A 7) (tyL 1 (A 7) s s), svN n, svH A n H, [])) rfl (fun I4 q4 w4 g4 => ?_))
        simp (disch := omega) only [v196_75, v196_78, v196_79, v196_82, v196_83, Nat.add_zero, n_cl, n_in_t, n_lt_t, n_lt_f, n_eq_t, n_eq_f, n_sub, nI_add, n_mul, n_01, ↓reduceIte, if_true, if_false, eq_self, true_or, or_true, and_self, and_true, true_and, Nat.reduceAdd, Nat.reduceMul, Nat.reduceLeDiff, Nat.zero_le, not_true_eq_false, not_false_eq_true, cat2_n, cat2_i, cat2_r, ws_0, ws_i, ws_r, ws_l, ws_d, aftr_n, aftr_s, bI_ok, bI_t, bI_f, up_s, up_n, n_bit, decide_true, decide_false, Bool.not_true, Bool.not_false, Bool.and_true, Bool.true_and, Bool.false_and, Bool.and_false, n_nlt0, n_neg_t, n_neg_f, k_0, k_566, k_567, k_568, k_569, k_570, k_571, k_572, k_573, k_574, k_575, k_576]
        exact hQ I4 q4 w4 (((g1.tr g2).tr g3).tr g4) kg
      cases pl with
      | true =>
        rw [if_pos rfl] at hk
        subst hk
        rw [bI_t] at nx ⊢
        simp (disch := omega) only [v196_49, v196_50, v196_51, v196_54, v196_55, v196_58, v196_59, v196_60, Nat.add_zero, n_cl, n_in_t, n_lt_t, n_lt_f, n_eq_t, n_eq_f, n_sub, nI_add, n_mul, n_01, ↓reduceIte, if_true, if_false, eq_self, true_or, or_true, and_self, and_true, true_and, Nat.reduceAdd, Nat.reduceMul, Nat.reduceLeDiff, Nat.zero_le, not_true_eq_false, not_false_eq_true, cat2_n, cat2_i, cat2_r, ws_0, ws_i, ws_r, ws_l, ws_d, aftr_n, aftr_s, bI_ok, bI_t, bI_f, up_s, up_n, n_bit, decide_true, decide_false, Bool.not_true, Bool.not_false, Bool.and_true, Bool.true_and, Bool.false_and, Bool.and_false, n_nlt0, n_neg_t, n_neg_f, k_0, k_566, k_567, k_568, k_569, k_570, k_571, k_572, k_573, k_574, k_575, k_576]
        exact nx
      | false =>
        rw [if_neg (by decide)] at hk
        subst hk
        rw [bI_f] at nx ⊢
        simp (disch := omega) only [v196_49, v196_50, v196_51, v196_54, v196_55, v196_58, v196_59, v196_60, Nat.add_zero, n_cl, n_in_t, n_lt_t, n_lt_f, n_eq_t, n_eq_f, n_sub, nI_add, n_mul, n_01, ↓reduceIte, if_true, if_false, eq_self, true_or, or_true, and_self, and_true, true_and, Nat.reduceAdd, Nat.reduceMul, Nat.reduceLeDiff, Nat.zero_le, not_true_eq_false, not_false_eq_true, cat2_n, cat2_i, cat2_r, ws_0, ws_i, ws_r, ws_l, ws_d, aftr_n, aftr_s, bI_ok, bI_t, bI_f, up_s, up_n, n_bit, decide_true, decide_false, Bool.not_true, Bool.not_false, Bool.and_true, Bool.true_and, Bool.false_and, Bool.and_false, n_nlt0, n_neg_t, n_neg_f, k_0, k_566, k_567, k_568, k_569, k_570, k_571, k_572, k_573, k_574, k_575, k_576, Nat.add_zero]
        exact nx
  simp (disch := omega) only [v196_0, u196_1, leq_t, cat2_n, cat2_i, cat2_r, ws_0, ws_i, ws_r, ↓reduceIte, if_true, if_false, eq_self, true_or, or_true, and_self, and_true, true_and, Nat.reduceAdd, Nat.reduceMul, Nat.reduceLeDiff, Nat.zero_le, not_true_eq_false, not_false_eq_true, aftr_n, aftr_s, k_0, k_566, k_567, k_568, k_569, k_570, k_571, k_572, k_573, k_574, k_575, k_576]
  refine c68 hw hg (CQ_ok (v := B.length) (w := (A, n, H, [])) rfl (fun I1 q1 w1 g1 => ?_))
  cases pl with
  | false =>
    rw [bI_f] at fin ⊢
    simp (disch := omega) only [v196_4, v196_5, v196_6, Nat.add_zero, n_cl, n_in_t, n_lt_t, n_lt_f, n_eq_t, n_eq_f, n_sub, nI_add, n_mul, n_01, ↓reduceIte, if_true, if_false, eq_self, true_or, or_true, and_self, and_true, true_and, Nat.reduceAdd, Nat.reduceMul, Nat.reduceLeDiff, Nat.zero_le, not_true_eq_false, not_false_eq_true, cat2_n, cat2_i, cat2_r, ws_0, ws_i, ws_r, ws_l, ws_d, aftr_n, aftr_s, bI_ok, bI_t, bI_f, up_s, up_n, n_bit, decide_true, decide_false, Bool.not_true, Bool.not_false, Bool.and_true, Bool.true_and, Bool.false_and, Bool.and_false, n_nlt0, n_neg_t, n_neg_f, k_0, k_566, k_567, k_568, k_569, k_570, k_571, k_572, k_573, k_574, k_575, k_576]
    refine l196 (pl := 0) h7 hs.2 s 0 0 0 I1 q1 (by omega) (by omega) (by omega) w1 hg (fun I2 q2 c' m' h1 h2 w2 g2 => ?_)
    simp (disch := omega) only [v196_33, v196_34, v196_37, v196_38, u196_40, v196_43, Nat.add_zero, n_cl, n_in_t, n_lt_t, n_lt_f, n_eq_t, n_eq_f, n_sub, nI_add, n_mul, n_01, ↓reduceIte, if_true, if_false, eq_self, true_or, or_true, and_self, and_true, true_and, Nat.reduceAdd, Nat.reduceMul, Nat.reduceLeDiff, Nat.zero_le, not_true_eq_false, not_false_eq_true, cat2_n, cat2_i, cat2_r, ws_0, ws_i, ws_r, ws_l, ws_d, aftr_n, aftr_s, bI_ok, bI_t, bI_f, up_s, up_n, n_bit, decide_true, decide_false, Bool.not_true, Bool.not_false, Bool.and_true, Bool.true_and, Bool.false_and, Bool.and_false, n_nlt0, n_neg_t, n_neg_f, k_0, k_566, k_567, k_568, k_569, k_570, k_571, k_572, k_573, k_574, k_575, k_576]
    refine fin (tyL 1 (A 7) s s) 0 [] 0 I2 q2 c' m' (by omega) (by omega) w2 (g1.tr g2) ?_ ?_ ?_ ?_ ?_ rfl (by omega)
    · unfold rgt; rw [if_neg (by omega), wE_let _ 0 lb (by omega), ll]; rfl
    · unfold cpl
      rw [if_neg (by omega), wE_let _ 0 lb (by omega), Bool.and_eq_true]
      refine ⟨decide_eq_true (fun e => ?_), decide_eq_true rfl⟩
      rw [e, List.length_nil] at ll
      omega
    · have := ldr_ty (tyL 1 (A 7) s s) [] 8 lb (by omega) (Or.inl rfl)
      rw [List.append_nil] at this
      rw [this, if_neg (by omega), if_neg (by decide)]
    · have := ldr_ty (tyL 1 (A 7) s s) [] 8 lb (by omega) (Or.inl rfl)
      rw [List.append_nil] at this
      rw [this, ll]
    · exact List.take_of_length_le (by omega)
  | true =>
    rw [bI_t] at fin ⊢
    simp (disch := omega) only [v196_4, v196_5, v196_6, Nat.add_zero, n_cl, n_in_t, n_lt_t, n_lt_f, n_eq_t, n_eq_f, n_sub, nI_add, n_mul, n_01, ↓reduceIte, if_true, if_false, eq_self, true_or, or_true, and_self, and_true, true_and, Nat.reduceAdd, Nat.reduceMul, Nat.reduceLeDiff, Nat.zero_le, not_true_eq_false, not_false_eq_true, cat2_n, cat2_i, cat2_r, ws_0, ws_i, ws_r, ws_l, ws_d, aftr_n, aftr_s, bI_ok, bI_t, bI_f, up_s, up_n, n_bit, decide_true, decide_false, Bool.not_true, Bool.not_false, Bool.and_true, Bool.true_and, Bool.false_and, Bool.and_false, n_nlt0, n_neg_t, n_neg_f, k_0, k_566, k_567, k_568, k_569, k_570, k_571, k_572, k_573, k_574, k_575, k_576]
    refine l196 (pl := 1) h7 hs.2 s 0 0 0 I1 q1 (by omega) (by omega) (by omega) w1 hg (fun I2 q2 c' m' h1 h2 w2 g2 => ?_)
    simp (disch := omega) only [v196_33, v196_34, v196_37, v196_38, u196_40, Nat.add_zero, n_cl, n_in_t, n_lt_t, n_lt_f, n_eq_t, n_eq_f, n_sub, nI_add, n_mul, n_01, ↓reduceIte, if_true, if_false, eq_self, true_or, or_true, and_self, and_true, true_and, Nat.reduceAdd, Nat.reduceMul, Nat.reduceLeDiff, Nat.zero_le, not_true_eq_false, not_false_eq_true, cat2_n, cat2_i, cat2_r, ws_0, ws_i, ws_r, ws_l, ws_d, aftr_n, aftr_s, bI_ok, bI_t, bI_f, up_s, up_n, n_bit, decide_true, decide_false, Bool.not_true, Bool.not_false, Bool.and_true, Bool.true_and, Bool.false_and, Bool.and_false, n_nlt0, n_neg_t, n_neg_f, k_0, k_566, k_567, k_568, k_569, k_570, k_571, k_572, k_573, k_574, k_575, k_576, leq_t]
    refine c67 (by omega) w2 hg (CQ_ok (opApp_ok (by omega) (by omega)) (fun I3 q3 w3 g3 => ?_))
    simp (disch := omega) only [v196_43, Nat.add_zero, n_cl, n_in_t, n_lt_t, n_lt_f, n_eq_t, n_eq_f, n_sub, nI_add, n_mul, n_01, ↓reduceIte, if_true, if_false, eq_self, true_or, or_true, and_self, and_true, true_and, Nat.reduceAdd, Nat.reduceMul, Nat.reduceLeDiff, Nat.zero_le, not_true_eq_false, not_false_eq_true, cat2_n, cat2_i, cat2_r, ws_0, ws_i, ws_r, ws_l, ws_d, aftr_n, aftr_s, bI_ok, bI_t, bI_f, up_s, up_n, n_bit, decide_true, decide_false, Bool.not_true, Bool.not_false, Bool.and_true, Bool.true_and, Bool.false_and, Bool.and_false, n_nlt0, n_neg_t, n_neg_f, k_0, k_566, k_567, k_568, k_569, k_570, k_571, k_572, k_573, k_574, k_575, k_576]
    have lda := ldr_ty (tyL 1 (A 7) s s) [42] 8 lb (by omega) (Or.inr rfl)
    have wes := wE_star (tyL 1 (A 7) s s) 0 lb (by omega) (by omega)
    have l2 : (tyL 1 (A 7) s s ++ [42]).length = s + 1 := by rw [List.length_append, ll]; rfl
    refine fin (tyL 1 (A 7) s s ++ [42]) 1 [] 0 I3 q3 _ _ (by omega) (by omega) w3 ((g1.tr g2).tr g3) ?_ ?_ ?_ ?_ ?_ rfl (by omega)
    · unfold rgt; rw [if_neg (by omega), wes, ll]
    · unfold cpl
      rw [if_neg (by omega), wes, Bool.and_eq_true, l2, ll]
      refine ⟨decide_eq_true (fun e => ?_), decide_eq_true rfl⟩
      rw [e, List.length_nil] at l2
      omega
    · rw [lda, l2, ll, if_pos (by omega), if_pos rfl]
    · rw [lda, ll]
    · rw [List.take_append_of_le_length (by omega)]; exact List.take_of_length_le (by omega)
end LH
