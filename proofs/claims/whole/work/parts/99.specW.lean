/-! THE REFERENCE: taking a letter -/
theorem tk_fld {w : Nat} {r : List Nat} (hw : w = 0 ∨ w = 1 ∨ w = 2) (h : leW w (60 :: r) = 0) : ∃ d r2 w', r = d :: 62 :: r2 ∧ fldB d = true ∧ leW w' r2 = 0 ∧ (w' = 0 ∨ w' = 1 ∨ w' = 2) ∧ tkw w (60 :: r) = (256 + d) :: tkw w' r2 := by
  have n1 : nxt w 60 = 3 ∨ nxt w 60 = 5 := by rcases hw with rfl | rfl | rfl <;> decide
  have t1 : tkw w (60 :: r) = tkw (nxt w 60) r := by
    show (if w = 3 ∨ w = 5 then _ else if w = 4 ∨ w = 6 ∨ 60 = 60 then _ else _) = _
    rw [if_neg (by omega), if_pos (Or.inr (Or.inr rfl))]
  have h1 : leW (nxt w 60) r = 0 := h
  generalize nxt w 60 = w1 at n1 t1 h1
  cases r with
  | nil => exact absurd (show w1 = 0 from h1) (by omega)
  | cons d r1 =>
    have h2 : leW (nxt w1 d) r1 = 0 := h1
    have t2 : tkw w1 (d :: r1) = (256 + d) :: tkw (nxt w1 d) r1 := by
      show (if w1 = 3 ∨ w1 = 5 then _ else _) = _
      rw [if_pos n1]
    have hd : fldB d = true := by
      cases hf : fldB d with
      | true => rfl
      | false =>
        have : nxt w1 d = 7 := by rcases n1 with rfl | rfl <;> (show (if fldB d = true then _ else 7) = 7; rw [if_neg (by rw [hf]; decide)])
        rw [this, leW_7] at h2
        exact absurd h2 (by omega)
    have n2 : nxt w1 d = 4 ∨ nxt w1 d = 6 := by
      rcases n1 with rfl | rfl
      · left; show (if fldB d = true then 4 else 7) = 4; rw [if_pos hd]
      · right; show (if fldB d = true then 6 else 7) = 6; rw [if_pos hd]
    generalize nxt w1 d = w2 at n2 t2 h2
    cases r1 with
    | nil => exact absurd (show w2 = 0 from h2) (by omega)
    | cons e r2 =>
      have h3 : leW (nxt w2 e) r2 = 0 := h2
      have he : e = 62 := by
        by_cases hf : e = 62
        · exact hf
        · have : nxt w2 e = 7 := by rcases n2 with rfl | rfl <;> (show (if e = 62 then _ else 7) = 7; rw [if_neg hf])
          rw [this, leW_7] at h3
          exact absurd h3 (by omega)
      subst he
      have t3 : tkw w2 (62 :: r2) = tkw (nxt w2 62) r2 := by
        show (if w2 = 3 ∨ w2 = 5 then _ else if w2 = 4 ∨ w2 = 6 ∨ 62 = 60 then _ else _) = _
        rw [if_neg (by omega), if_pos (by omega)]
      refine ⟨d, r2, nxt w2 62, rfl, hd, h3, ?_, by rw [t1, t2, t3]⟩
      rcases n2 with rfl | rfl
      · left; rfl
      · right; right; rfl
theorem tk_pln {w c : Nat} {r : List Nat} (hw : w = 0 ∨ w = 1 ∨ w = 2) (hc : c ≠ 60) (h : leW w (c :: r) = 0) : leW (nxt w c) r = 0 ∧ (nxt w c = 0 ∨ nxt w c = 1 ∨ nxt w c = 2) ∧ tkw w (c :: r) = c :: tkw (nxt w c) r := by
  have h1 : leW (nxt w c) r = 0 := h
  refine ⟨h1, ?_, ?_⟩
  · have h7 : nxt w c ≠ 7 := fun e => by rw [e, leW_7] at h1; omega
    rcases hw with rfl | rfl | rfl
    · have e : nxt 0 c = if c = 123 then 1 else if c = 60 then 3 else if plnB c = true then 0 else 7 := rfl
      rw [if_neg hc] at e
      rw [e] at h7 ⊢
      split
      · omega
      · next h' => rw [if_neg h'] at h7; split <;> next h'' => (first | omega | (rw [if_neg h''] at h7; omega))
    · have e : nxt 1 c = if c = 60 then 5 else if plnB c = true then 2 else 7 := rfl
      rw [if_neg hc] at e
      rw [e] at h7 ⊢
      split <;> next h'' => (first | omega | (rw [if_neg h''] at h7; omega))
    · have e : nxt 2 c = if c = 125 then 0 else if c = 60 then 5 else if plnB c = true then 2 else 7 := rfl
      rw [if_neg hc] at e
      rw [e] at h7 ⊢
      split
      · omega
      · next h' => rw [if_neg h'] at h7; split <;> next h'' => (first | omega | (rw [if_neg h''] at h7; omega))
  · show (if w = 3 ∨ w = 5 then _ else if w = 4 ∨ w = 6 ∨ c = 60 then _ else _) = _
    rw [if_neg (by omega), if_neg (by omega)]
theorem fldB_ok {d : Nat} (h : fldB d = true) : okTok (256 + d) ∧ d < 127 := by
  unfold fldB at h
  simp only [Bool.or_eq_true, beq_iff_eq] at h
  unfold okTok
  omega
theorem tkw_all : ∀ (m : Nat) (r : List Nat) (w : Nat), r.length ≤ m → (w = 0 ∨ w = 1 ∨ w = 2) → leW w r = 0 → (∀ c ∈ r, c < 256) → (∀ t ∈ tkw w r, okTok t) ∧ (tkw w r).flatMap exT = r ∧ (tkw w r).length ≤ r.length
  | _, [], w, _, hw, _, _ => ⟨fun t ht => by unfold tkw at ht; exact absurd ht List.not_mem_nil, rfl, Nat.le_refl _⟩
  | 0, c :: r, _, hm, _, _, _ => by rw [List.length_cons] at hm; omega
  | m + 1, c :: r, w, hm, hw, h, hc => by
    rw [List.length_cons] at hm
    by_cases e : c = 60
    · subst e
      obtain ⟨d, r2, w', rfl, hd, h2, hw', et⟩ := tk_fld hw h
      rw [List.length_cons, List.length_cons] at hm
      obtain ⟨i1, i2, i3⟩ := tkw_all m r2 w' (by omega) hw' h2 (fun x hx => hc x (by simp [hx]))
      have fo := fldB_ok hd
      rw [et]
      refine ⟨fun t ht => ?_, ?_, ?_⟩
      · rcases List.mem_cons.mp ht with ht | ht
        · rw [ht]; exact fo.1
        · exact i1 t ht
      · rw [List.flatMap_cons, i2]
        unfold exT
        rw [if_neg (by omega), show 256 + d - 256 = d by omega]
        rfl
      · simp only [List.length_cons]; omega
    · obtain ⟨h2, hw', et⟩ := tk_pln hw e h
      obtain ⟨i1, i2, i3⟩ := tkw_all m r (nxt w c) (by omega) hw' h2 (fun x hx => hc x (List.mem_cons_of_mem _ hx))
      have c2 := hc c List.mem_cons_self
      rw [et]
      refine ⟨fun t ht => ?_, ?_, ?_⟩
      · rcases List.mem_cons.mp ht with ht | ht
        · rw [ht]; exact Or.inl ⟨c2, e⟩
        · exact i1 t ht
      · rw [List.flatMap_cons, i2]
        unfold exT
        rw [if_pos c2]
        rfl
      · simp only [List.length_cons]; omega
section OW
variable {z : P0} {KL : Nat → Nat × Nat} {RL : Nat → Nat → Option Nat} {q : Nat → Nat} {b : Nat} {I : Nat → Nat → Int32} {L : Nat → Nat → Int64} {sz : Nat} {ex : Bool} {Q : Res → Mem → Prop} {A : Row}
variable {n : Nat} {H : Nat → Row} {B : List Nat}
theorem takeR_12 {T : List Nat} : takeR A T 12 = T.length := by unfold takeR; rw [updL_n (by omega), upr_s]
theorem takeR_k {T : List Nat} {k : Nat} (h : k < T.length) : takeR A T (413 + k) = T.getD k 0 := by unfold takeR updL; rw [if_pos (by omega), show 413 + k - 413 = k by omega]
theorem takeR_n {T : List Nat} {k : Nat} (h : k ≠ 12 ∧ k < 413) : takeR A T k = A k := by unfold takeR; rw [updL_n (by omega), upr_n h.1]
theorem takeR_snoc {T : List Nat} {c : Nat} : upr (upr (takeR A T) (413 + T.length) c) 12 (T.length + 1) = takeR A (T ++ [c]) := by
  unfold takeR
  rw [updL_snoc, upr_updL (by omega), upr_upr, List.length_append, List.length_singleton]
set_option maxHeartbeats 4000000 in
theorem l135 {g : Nat} : ∀ (m : Nat) (r D : List Nat) k w I (x3 : Option Value), r.length ≤ m → k + r.length = B.length → (∀ j, j < r.length → B.getD (k + j) 0 = r.getD j 0) → (w = 0 ∨ w = 1 ∨ w = 2) → leW w r = 0 → D.length ≤ k → cat2 x3 = false → RS b I (takeR A D, n, H, B) →
    (∀ I', RS b I' (takeR A (D ++ tkw w r), n, H, B) → Ag pRef b I I' → I' (ad b 566) 5 = I (ad b 566) 5 → X z 135 157 [some (.ref (ad b 566)), some (.int (nI g)), some (.int (nI B.length)), some (.int (nI 0))] [] (0, 0) (KAt KL b, I', RAt RL b q, L, sz, ex) Q ∧ X z 135 157 [some (.ref (ad b 566)), some (.int (nI g)), some (.int (nI B.length)), some (.int (nI 1))] [] (0, 0) (KAt KL b, I', RAt RL b q, L, sz, ex) Q ∧ X z 135 157 [some (.ref (ad b 566)), some (.int (nI g)), some (.int (nI B.length)), none] [] (0, 0) (KAt KL b, I', RAt RL b q, L, sz, ex) Q) →
    (x3 = some (.int (nI 0)) ∨ x3 = some (.int (nI 1)) ∨ x3 = none) →
    X z 135 62 [some (.ref (ad b 566)), some (.int (nI g)), some (.int (nI k)), x3] [] (0, 0) (KAt KL b, I, RAt RL b q, L, sz, ex) Q := by
  intro m
  induction m with
  | zero =>
    intro r D k w I x3 hm hk hB hw h hD hx hs hQ hx3
    have e : r = [] := List.eq_nil_of_length_eq_zero (by omega)
    subst e
    rw [List.length_nil, Nat.add_zero] at hk
    have hl := hs.len
    have hl1 := hl.1
    rw [v135_62]
    simp (disch := omega) only [v135_63, v135_64, v135_67, k_566, k_567, k_568, k_569, k_570, k_571, k_572, k_573, k_574, k_575, k_576, r_566_0, r_566_2, r_566_4, r_566_6, r_566_7, r_566_8, r_566_9, r_566_10, r_566_11, r_566_13, va_rf_s, n_cl, n_in_t, n_lt_t, n_lt_f, n_eq_t, n_eq_f, n_sub, nI_add, n_mul, ↓reduceIte, if_true, if_false, eq_self, true_or, or_true, and_self, and_true, true_and, Nat.reduceAdd, Nat.reduceMul, Nat.reduceLeDiff, Nat.zero_le, not_true_eq_false, not_false_eq_true, cat2_n, cat2_i, cat2_r, ws_0, ws_i, ws_r, ws_l, ws_d, aftr_n, aftr_s, bI_ok, bI_t, bI_f, up_s, up_n, n_bit, decide_true, decide_false, Bool.not_true, Bool.not_false, Bool.and_true, Bool.true_and, Bool.false_and, Bool.and_false, hl1]
    have := hQ I (by unfold tkw; rw [List.append_nil]; exact hs) Ag.rf rfl
    rw [hk]
    rcases hx3 with rfl | rfl | rfl
    · exact this.1
    · exact this.2.1
    · exact this.2.2
  | succ m ih =>
    intro r D k w I x3 hm hk hB hw h hD hx hs hQ hx3
    have hl := hs.len
    have hl1 := hl.1
    have hz : RZ b I (takeR A D) := hs.rz
    have z12 : I (ad b 567) 12 = nI D.length := by rw [hz.at (by omega), takeR_12]
    cases r with
    | nil =>
      rw [List.length_nil, Nat.add_zero] at hk
      rw [v135_62]
      simp (disch := omega) only [v135_63, v135_64, v135_67, k_566, k_567, k_568, k_569, k_570, k_571, k_572, k_573, k_574, k_575, k_576, r_566_0, r_566_2, r_566_4, r_566_6, r_566_7, r_566_8, r_566_9, r_566_10, r_566_11, r_566_13, va_rf_s, n_cl, n_in_t, n_lt_t, n_lt_f, n_eq_t, n_eq_f, n_sub, nI_add, n_mul, ↓reduceIte, if_true, if_false, eq_self, true_or, or_true, and_self, and_true, true_and, Nat.reduceAdd, Nat.reduceMul, Nat.reduceLeDiff, Nat.zero_le, not_true_eq_false, not_false_eq_true, cat2_n, cat2_i, cat2_r, ws_0, ws_i, ws_r, ws_l, ws_d, aftr_n, aftr_s, bI_ok, bI_t, bI_f, up_s, up_n, n_bit, decide_true, decide_false, Bool.not_true, Bool.not_false, Bool.and_true, Bool.true_and, Bool.false_and, Bool.and_false, hl1]
      have := hQ I (by unfold tkw; rw [List.append_nil]; exact hs) Ag.rf rfl
      rw [hk]
      rcases hx3 with rfl | rfl | rfl
      · exact this.1
      · exact this.2.1
      · exact this.2.2
    | cons c r =>
      obtain ⟨hB1, hB2⟩ := getD_tail hB
      rw [List.length_cons] at hk hm
      have hb := hs.buf (k := k) (by omega)
      have hcb := hs.chr (k := k) (by omega)
      rw [hB1] at hb hcb
      by_cases e : c = 60
      · subst e
        obtain ⟨d, r2, w', rfl, hd, h2, hw', et⟩ := tk_fld hw h
        rw [List.length_cons, List.length_cons] at hk hm
        have hb2 := hs.buf (k := k + 1) (by omega)
        have hd2 : B.getD (k + 1) 0 = d := by
          have := hB2 0 (by rw [List.length_cons]; omega)
          rwa [Nat.add_zero] at this
        rw [hd2] at hb2
        have fo := fldB_ok hd
        rw [et] at hQ
        have s1 := (hs.setz (k := 413 + D.length) (v := 256 + d) (by omega) (by omega)).setz (k := 12) (v := D.length + 1) (by omega) (by omega)
        rw [takeR_snoc] at s1
        rw [v135_62]
        simp (disch := omega) only [v135_63, v135_64, v135_67, v135_70, v135_71, v135_74, v135_75, v135_76, v135_78, v135_81, v135_82, v135_85, v135_86, v135_87, v135_88, v135_91, v135_94, v135_95, v135_98, v135_100, v135_101, v135_102, v135_103, v135_106, v135_109, v135_110, v135_113, v135_114, v135_115, v135_116, v135_117, v135_118, v135_121, v135_122, v135_125, v135_126, v135_127, v135_128, v135_129, v135_132, v135_134, v135_135, v135_136, v135_137, v135_138, v135_139, v135_140, v135_141, v135_144, v135_145, v135_148, v135_149, v135_150, v135_151, v135_154, v135_157, v135_158, v135_159, k_566, k_567, k_568, k_569, k_570, k_571, k_572, k_573, k_574, k_575, k_576, r_566_0, r_566_2, r_566_4, r_566_6, r_566_7, r_566_8, r_566_9, r_566_10, r_566_11, r_566_13, va_rf_s, n_cl, n_in_t, n_lt_t, n_lt_f, n_eq_t, n_eq_f, n_sub, nI_add, n_mul, ↓reduceIte, if_true, if_false, eq_self, true_or, or_true, and_self, and_true, true_and, Nat.reduceAdd, Nat.reduceMul, Nat.reduceLeDiff, Nat.zero_le, not_true_eq_false, not_false_eq_true, cat2_n, cat2_i, cat2_r, ws_0, ws_i, ws_r, ws_l, ws_d, aftr_n, aftr_s, bI_ok, bI_t, bI_f, up_s, up_n, n_bit, decide_true, decide_false, Bool.not_true, Bool.not_false, Bool.and_true, Bool.true_and, Bool.false_and, Bool.and_false, hl1, hb, hb2, z12, hx]
        refine ih r2 (D ++ [256 + d]) (k + 2 + 1) w' _ _ (by omega) (by omega) (fun j hj => ?_) hw' h2 (by rw [List.length_append, List.length_singleton]; omega) rfl s1 (fun I2 q1 q2 q3 => hQ I2 (by rwa [List.append_assoc] at q1) (((Ag.rf.up (by unfold pRef; omega)).up (by unfold pRef; omega)).tr q2) (q3.trans (by rw [up_n (by omega), up_n (by omega)]))) (Or.inr (Or.inl rfl))
        have := hB2 (j + 2) (by simp only [List.length_cons]; omega)
        rw [show k + 2 + 1 + j = k + 1 + (j + 2) by omega, this]
        rfl
      · obtain ⟨h2, hw', et⟩ := tk_pln hw e h
        rw [et] at hQ
        have s1 := (hs.setz (k := 413 + D.length) (v := c) (by omega) (by omega)).setz (k := 12) (v := D.length + 1) (by omega) (by omega)
        rw [takeR_snoc] at s1
        rw [v135_62]
        simp (disch := omega) only [v135_63, v135_64, v135_67, v135_70, v135_71, v135_74, v135_75, v135_76, v135_78, v135_81, v135_82, v135_85, v135_86, v135_87, v135_88, v135_91, v135_94, v135_95, v135_98, v135_100, v135_101, v135_102, v135_103, v135_106, v135_109, v135_110, v135_113, v135_114, v135_115, v135_116, v135_117, v135_118, v135_121, v135_122, v135_125, v135_126, v135_127, v135_128, v135_129, v135_132, v135_134, v135_135, v135_136, v135_137, v135_138, v135_139, v135_140, v135_141, v135_144, v135_145, v135_148, v135_149, v135_150, v135_151, v135_154, v135_157, v135_158, v135_159, k_566, k_567, k_568, k_569, k_570, k_571, k_572, k_573, k_574, k_575, k_576, r_566_0, r_566_2, r_566_4, r_566_6, r_566_7, r_566_8, r_566_9, r_566_10, r_566_11, r_566_13, va_rf_s, n_cl, n_in_t, n_lt_t, n_lt_f, n_eq_t, n_eq_f, n_sub, nI_add, n_mul, ↓reduceIte, if_true, if_false, eq_self, true_or, or_true, and_self, and_true, true_and, Nat.reduceAdd, Nat.reduceMul, Nat.reduceLeDiff, Nat.zero_le, not_true_eq_false, not_false_eq_true, cat2_n, cat2_i, cat2_r, ws_0, ws_i, ws_r, ws_l, ws_d, aftr_n, aftr_s, bI_ok, bI_t, bI_f, up_s, up_n, n_bit, decide_true, decide_false, Bool.not_true, Bool.not_false, Bool.and_true, Bool.true_and, Bool.false_and, Bool.and_false, hl1, hb, z12, hx, Nat.add_zero]
        exact ih r (D ++ [c]) (k + 1) (nxt w c) _ _ (by omega) (by omega) hB2 hw' h2 (by rw [List.length_append, List.length_singleton]; omega) rfl s1 (fun I2 q1 q2 q3 => hQ I2 (by rwa [List.append_assoc] at q1) (((Ag.rf.up (by unfold pRef; omega)).up (by unfold pRef; omega)).tr q2) (q3.trans (by rw [up_n (by omega), up_n (by omega)]))) (Or.inl rfl)
set_option maxHeartbeats 4000000 in
theorem c135 (hs : RS b I (A, n, H, B)) (hQ : RQ b I (opTake (A, n, H, B)) fun v I' => Q (.inl (some (.int (nI v)))) (KAt KL b, I', RAt RL b q, L, sz, ex)) : X z 135 0 [some (.ref (ad b 566)), none, none, none] [] (0, 0) (KAt KL b, I, RAt RL b q, L, sz, ex) Q := by
  have hl := hs.len.1
  have hb60 := hs.len.2
  unfold opTake at hQ
  dsimp only at hQ
  simp (disch := omega) only [v135_0, v135_1, u135_2, k_566, k_567, k_568, k_569, k_570, k_571, k_572, k_573, k_574, k_575, k_576, r_566_0, r_566_2, r_566_4, r_566_6, r_566_7, r_566_8, r_566_9, r_566_10, r_566_11, r_566_13, va_rf_s, n_cl, n_in_t, n_lt_t, n_lt_f, n_eq_t, n_eq_f, n_sub, nI_add, n_mul, ↓reduceIte, if_true, if_false, eq_self, true_or, or_true, and_self, and_true, true_and, Nat.reduceAdd, Nat.reduceMul, Nat.reduceLeDiff, Nat.zero_le, not_true_eq_false, not_false_eq_true, cat2_n, cat2_i, cat2_r, ws_0, ws_i, ws_r, ws_l, ws_d, aftr_n, aftr_s, bI_ok, bI_t, bI_f, up_s, up_n, n_bit, decide_true, decide_false, Bool.not_true, Bool.not_false, Bool.and_true, Bool.true_and, Bool.false_and, Bool.and_false]
  refine c150 (by omega) hs (fun I1 g1 h1 => ?_)
  have hl1 : I1 (ad b 566) 3 = nI B.length := (g1.at (fun x => by unfold pSx at x; omega)).trans hl
  have rl : rgt 2 B ≤ B.length := leF_le B 0
  have no : ¬ (cpl 2 B = true) → X z 135 24 [some (.ref (ad b 566)), none, none, none] [] (0, 0) (KAt KL b, I1, RAt RL b q, L, sz, ex) Q := by
    intro e
    rw [if_neg e] at hQ
    simp (disch := omega) only [v135_24, v135_25, v135_26, v135_27, v135_28, v135_31, v135_32, v135_35, v135_36, v135_39, v135_40, v135_43, v135_46, v135_47, k_566, k_567, k_568, k_569, k_570, k_571, k_572, k_573, k_574, k_575, k_576, r_566_0, r_566_2, r_566_4, r_566_6, r_566_7, r_566_8, r_566_9, r_566_10, r_566_11, r_566_13, va_rf_s, n_cl, n_in_t, n_lt_t, n_lt_f, n_eq_t, n_eq_f, n_sub, nI_add, n_mul, ↓reduceIte, if_true, if_false, eq_self, true_or, or_true, and_self, and_true, true_and, Nat.reduceAdd, Nat.reduceMul, Nat.reduceLeDiff, Nat.zero_le, not_true_eq_false, not_false_eq_true, cat2_n, cat2_i, cat2_r, ws_0, ws_i, ws_r, ws_l, ws_d, aftr_n, aftr_s, bI_ok, bI_t, bI_f, up_s, up_n, n_bit, decide_true, decide_false, Bool.not_true, Bool.not_false, Bool.and_true, Bool.true_and, Bool.false_and, Bool.and_false]
    exact hQ _ 0 (hs.sx g1).thr up_s ((g1.mn pSx_r).tr (agThr.mn pThr_r)) (fun x => ne_s x)
  by_cases e3 : rgt 2 B = B.length
  · have hw := (h1 e3).1
    simp (disch := omega) only [v135_5, v135_6, v135_9, v135_12, v135_13, u135_14, v135_17, k_566, k_567, k_568, k_569, k_570, k_571, k_572, k_573, k_574, k_575, k_576, r_566_0, r_566_2, r_566_4, r_566_6, r_566_7, r_566_8, r_566_9, r_566_10, r_566_11, r_566_13, va_rf_s, n_cl, n_in_t, n_lt_t, n_lt_f, n_eq_t, n_eq_f, n_sub, nI_add, n_mul, ↓reduceIte, if_true, if_false, eq_self, true_or, or_true, and_self, and_true, true_and, Nat.reduceAdd, Nat.reduceMul, Nat.reduceLeDiff, Nat.zero_le, not_true_eq_false, not_false_eq_true, cat2_n, cat2_i, cat2_r, ws_0, ws_i, ws_r, ws_l, ws_d, aftr_n, aftr_s, bI_ok, bI_t, bI_f, up_s, up_n, n_bit, decide_true, decide_false, Bool.not_true, Bool.not_false, Bool.and_true, Bool.true_and, Bool.false_and, Bool.and_false, hl1, hw]
    cases hc : whl 2 B with
    | false =>
      rw [if_pos (by rw [bI_f])]
      exact no (fun x => by rw [cpl_eq, hc, Bool.and_false] at x; exact absurd x (by decide))
    | true =>
      rw [if_neg (by rw [bI_t]; exact fun x => absurd (n_inj (by omega) (by omega) x) (by omega))]
      have hcp : cpl 2 B = true := by rw [cpl_eq, hc, decide_eq_true e3]; rfl
      rw [if_pos hcp] at hQ
      have hw0 : leW 0 B = 0 := by
        unfold whl at hc
        rw [if_pos rfl, Bool.and_eq_true, decide_eq_true_eq, decide_eq_true_eq] at hc
        exact hc.2
      have hs1 := hs.sx g1
      simp (disch := omega) only [v135_20, v135_21, v135_24, v135_25, v135_26, v135_27, v135_28, v135_31, v135_32, v135_35, v135_36, v135_39, v135_40, v135_43, v135_46, v135_47, v135_48, u135_49, k_566, k_567, k_568, k_569, k_570, k_571, k_572, k_573, k_574, k_575, k_576, r_566_0, r_566_2, r_566_4, r_566_6, r_566_7, r_566_8, r_566_9, r_566_10, r_566_11, r_566_13, va_rf_s, n_cl, n_in_t, n_lt_t, n_lt_f, n_eq_t, n_eq_f, n_sub, nI_add, n_mul, ↓reduceIte, if_true, if_false, eq_self, true_or, or_true, and_self, and_true, true_and, Nat.reduceAdd, Nat.reduceMul, Nat.reduceLeDiff, Nat.zero_le, not_true_eq_false, not_false_eq_true, cat2_n, cat2_i, cat2_r, ws_0, ws_i, ws_r, ws_l, ws_d, aftr_n, aftr_s, bI_ok, bI_t, bI_f, up_s, up_n, n_bit, decide_true, decide_false, Bool.not_true, Bool.not_false, Bool.and_true, Bool.true_and, Bool.false_and, Bool.and_false]
      refine c107 hs1.thr (fun I2 g2 g3 => ?_)
      have fr : Ag pRef b I I2 := ((g1.mn pSx_r).tr (agThr.mn pThr_r)).tr (g3.mn pSv_r)
      have t5 : I2 (ad b 566) 5 = nI 0 := (g3.at (fun x => by unfold pSv at x; omega)).trans up_s
      have chr : ∀ c ∈ B, c < 256 := fun c hc => by have := hs.2.2.2.2.2.2 c hc; omega
      obtain ⟨ok, -, tl⟩ := tkw_all B.length B 0 (Nat.le_refl _) (Or.inl rfl) hw0 chr
      simp (disch := omega) only [v135_52, v135_53, v135_56, v135_58, v135_59, v135_60, v135_61, k_566, k_567, k_568, k_569, k_570, k_571, k_572, k_573, k_574, k_575, k_576, r_566_0, r_566_2, r_566_4, r_566_6, r_566_7, r_566_8, r_566_9, r_566_10, r_566_11, r_566_13, va_rf_s, n_cl, n_in_t, n_lt_t, n_lt_f, n_eq_t, n_eq_f, n_sub, nI_add, n_mul, ↓reduceIte, if_true, if_false, eq_self, true_or, or_true, and_self, and_true, true_and, Nat.reduceAdd, Nat.reduceMul, Nat.reduceLeDiff, Nat.zero_le, not_true_eq_false, not_false_eq_true, cat2_n, cat2_i, cat2_r, ws_0, ws_i, ws_r, ws_l, ws_d, aftr_n, aftr_s, bI_ok, bI_t, bI_f, up_s, up_n, n_bit, decide_true, decide_false, Bool.not_true, Bool.not_false, Bool.and_true, Bool.true_and, Bool.false_and, Bool.and_false]
      have s0 := g2.setz (k := 12) (v := 0) (by omega) (by omega)
      have s1 : RS b (up2 I2 (ad b 567) 12 (nI 0)) (takeR A [], svN n, svH A n H, B) := by unfold takeR; rw [updL_nil]; exact s0
      refine l135 B.length B [] 0 0 _ none (Nat.le_refl _) (by omega) (fun j _ => by rw [Nat.zero_add]) (Or.inl rfl) hw0 (Nat.le_refl _) rfl s1 (fun I3 q1 q2 q3 => ?_) (Or.inr (Or.inr rfl))
      rw [List.nil_append] at q1
      have hz3 : RZ b (up2 I3 (ad b 566) 3 (nI 0)) (takeR A (tkw 0 B)) := q1.clr.rz
      have h12 : takeR A (tkw 0 B) 12 ≤ 60 := by rw [takeR_12]; omega
      have ht : ∀ k, k < takeR A (tkw 0 B) 12 → okTok (takeR A (tkw 0 B) (413 + k)) := fun k hk => by
        rw [takeR_12] at hk
        rw [takeR_k hk, List.getD_eq_getElem?_getD, List.getElem?_eq_getElem hk]
        exact ok _ (List.getElem_mem _)
      have fin : Q (.inl (some (.int (nI (flds (takeR A (tkw 0 B))))))) (KAt KL b, up2 I3 (ad b 566) 3 (nI 0), RAt RL b q, L, sz, ex) := by
        refine hQ _ _ q1.clr ?_ (((fr.up (by unfold pRef; omega)).tr q2).up (by unfold pRef; omega)) (fun _ => rfl)
        rw [up_n (by omega), q3, up_n (by omega), t5]
      refine ⟨?_, ?_, ?_⟩ <;> (simp (disch := omega) only [v135_157, v135_158, v135_159, v135_162, u135_163, v135_166, k_566, k_567, k_568, k_569, k_570, k_571, k_572, k_573, k_574, k_575, k_576, r_566_0, r_566_2, r_566_4, r_566_6, r_566_7, r_566_8, r_566_9, r_566_10, r_566_11, r_566_13, va_rf_s, n_cl, n_in_t, n_lt_t, n_lt_f, n_eq_t, n_eq_f, n_sub, nI_add, n_mul, ↓reduceIte, if_true, if_false, eq_self, true_or, or_true, and_self, and_true, true_and, Nat.reduceAdd, Nat.reduceMul, Nat.reduceLeDiff, Nat.zero_le, not_true_eq_false, not_false_eq_true, cat2_n, cat2_i, cat2_r, ws_0, ws_i, ws_r, ws_l, ws_d, aftr_n, aftr_s, bI_ok, bI_t, bI_f, up_s, up_n, n_bit, decide_true, decide_false, Bool.not_true, Bool.not_false, Bool.and_true, Bool.true_and, Bool.false_and, Bool.and_false, c111 hz3 h12 ht]; exact fin)
  · simp (disch := omega) only [v135_5, v135_6, v135_9, v135_12, v135_13, u135_14, v135_17, k_566, k_567, k_568, k_569, k_570, k_571, k_572, k_573, k_574, k_575, k_576, r_566_0, r_566_2, r_566_4, r_566_6, r_566_7, r_566_8, r_566_9, r_566_10, r_566_11, r_566_13, va_rf_s, n_cl, n_in_t, n_lt_t, n_lt_f, n_eq_t, n_eq_f, n_sub, nI_add, n_mul, ↓reduceIte, if_true, if_false, eq_self, true_or, or_true, and_self, and_true, true_and, Nat.reduceAdd, Nat.reduceMul, Nat.reduceLeDiff, Nat.zero_le, not_true_eq_false, not_false_eq_true, cat2_n, cat2_i, cat2_r, ws_0, ws_i, ws_r, ws_l, ws_d, aftr_n, aftr_s, bI_ok, bI_t, bI_f, up_s, up_n, n_bit, decide_true, decide_false, Bool.not_true, Bool.not_false, Bool.and_true, Bool.true_and, Bool.false_and, Bool.and_false, hl1]
    exact no (fun x => by rw [cpl_eq, decide_eq_false e3, Bool.false_and] at x; exact absurd x (by decide))
end OW
