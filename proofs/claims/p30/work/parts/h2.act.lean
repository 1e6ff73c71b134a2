/-! THE LAW: an act, case by case -/
def pN (o _j : Nat) : Prop := 566 ≤ o
theorem pCls_w : ∀ o j, pCls o j → pW o j := fun o j h => by unfold pCls at h; unfold pW; omega
theorem pLt_w : ∀ o j, pLt o j → pW o j := fun o j h => by unfold pLt pCls at h; unfold pW; omega
section LK
variable {z : P0} {KL : Nat → Nat × Nat} {RL : Nat → Nat → Option Nat} {q : Nat → Nat} {b : Nat} {I : Nat → Nat → Int32} {L : Nat → Nat → Int64} {sz : Nat} {ex : Bool} {Q : Res → Mem → Prop} {A : Row}
variable {n m D : Nat} {H : Nat → Row} {B : List Nat} {x y : Int32} {x14 x15 x16 : Option Value}
theorem Lw.addP {a f s : Nat} (h : Lw b I A n) (h6 : A 6 < 20) (hs : s ≤ 8) (h7 : A 7 ≤ 10) : Lw b (up2 (up2 (up2 (up2 (up2 (up2 (up2 (up2 I (ad b 566) 0 (nI (A 6 + 1))) (ad b 567) (A 6) (nI a)) (ad b 568) (A 6) (nI f)) (ad b 573) (A 6) (nI s)) (ad b 569) (A 6) (nI 4294967295)) (ad b 570) (A 6) (nI 0)) (ad b 571) (A 6) (nI 4294967295)) (ad b 572) (A 6) (nI 0)) (addPR A a f (tyL 0 (A 6) s s)) n := by
  obtain ⟨⟨⟨a0, a1, a2, a3, a4, a5, a6, a7⟩, a8⟩, b1, b2, b3⟩ := h
  obtain ⟨av, aw⟩ := addPR_v (a := a) (f := f) h6 hs
  have e6 : addPR A a f (tyL 0 (A 6) s s) 6 = A 6 + 1 := by simp (disch := omega) only [av, if_neg, if_pos, if_true]
  have e7 : addPR A a f (tyL 0 (A 6) s s) 7 = A 7 := by simp (disch := omega) only [av, if_neg, if_pos, if_true]
  have e12 : addPR A a f (tyL 0 (A 6) s s) 12 = A 12 := by simp (disch := omega) only [av, if_neg, if_pos, if_true]
  refine ⟨⟨⟨?_, ?_, ?_, ?_, ?_, ?_, ?_, ?_⟩, fun k hk => ?_⟩, fun p hp => ?_, fun w hw => ?_, fun k hk => ?_⟩
  · rw [e6]; simp (disch := omega) only [up_n, up_s]
  · rw [e7]; simp (disch := omega) only [up_n]; exact a1
  · rw [e12]; simp (disch := omega) only [up_n]; exact a2
  · simp (disch := omega) only [up_n, av, if_neg]; exact a3
  · simp (disch := omega) only [up_n, av, if_neg]; exact a4
  · simp (disch := omega) only [up_n, av, if_neg]; exact a5
  · simp (disch := omega) only [up_n, av, if_neg]; exact a6
  · simp (disch := omega) only [up_n]; exact a7
  · simp (disch := omega) only [up_n, av, if_neg]; exact a8 k hk
  · rw [e6] at hp
    by_cases e : p = A 6
    · subst e
      refine ⟨?_, ?_, ?_, ?_, ?_, ?_, ?_⟩ <;> simp (disch := omega) only [up_n, up_s, av, if_neg, if_pos, if_true]
    · obtain ⟨c1, c2, c3, c4, c5, c6, c7⟩ := b1 p (by omega)
      refine ⟨?_, ?_, ?_, ?_, ?_, ?_, ?_⟩
      · simp (disch := omega) only [up_n, av, if_neg]; exact c1
      · simp (disch := omega) only [up_n, av, if_neg]; exact c2
      · simp (disch := omega) only [up_n, av, if_neg]; exact c3
      · simp (disch := omega) only [up_n, av, if_neg]; exact c4
      · simp (disch := omega) only [up_n, av, if_neg]; exact c5
      · simp (disch := omega) only [up_n, av, if_neg]; exact c6
      · simp (disch := omega) only [up_n, av, if_neg]; exact c7
  · rw [e7] at hw
    simp (disch := omega) only [up_n, aw, if_neg]; exact b2 w hw
  · rw [e12] at hk
    simp (disch := omega) only [up_n, aw, if_neg]; exact b3 k hk
theorem LwT.addP {a f s : Nat} (h : LwT A) (h6 : A 6 < 12) (hs : s ≤ 8) (hg : Good A) : LwT (addPR A a f (tyL 0 (A 6) s s)) := by
  obtain ⟨h1, h2, h3, h4, h5⟩ := h
  obtain ⟨av, aw⟩ := addPR_v (A := A) (a := a) (f := f) (s := s) (by omega) hs
  have e6 : addPR A a f (tyL 0 (A 6) s s) 6 = A 6 + 1 := by simp (disch := omega) only [av, if_neg, if_pos, if_true]
  have e7 : addPR A a f (tyL 0 (A 6) s s) 7 = A 7 := by simp (disch := omega) only [av, if_neg, if_pos, if_true]
  have e12 : addPR A a f (tyL 0 (A 6) s s) 12 = A 12 := by simp (disch := omega) only [av, if_neg, if_pos, if_true]
  refine ⟨fun p hp i hi => ?_, fun w hw i hi => ?_, by omega, by omega, by omega⟩
  · rw [e6] at hp
    by_cases e : p = A 6
    · subst e
      have es : addPR A a f (tyL 0 (A 6) s s) (133 + A 6) = s := by simp (disch := omega) only [av, if_pos, if_true]
      rw [es] at hi ⊢
      rw [aw _ (by omega), if_pos (by omega), show 153 + 8 * A 6 + i - (153 + 8 * A 6) = i by omega]
    · have es : addPR A a f (tyL 0 (A 6) s s) (133 + p) = A (133 + p) := by simp (disch := omega) only [av, if_neg]
      rw [es] at hi ⊢
      have := (hg.2.2.1 p (by omega)).2.2.2.2.2.2.1
      rw [aw _ (by omega), if_neg (by omega)]
      exact h1 p (by omega) i hi
  · rw [e7] at hw
    have hg7 := hg.1.2.1
    have es : addPR A a f (tyL 0 (A 6) s s) (313 + w) = A (313 + w) := by rw [aw _ (by omega), if_neg (by omega)]
    rw [es] at hi ⊢
    rw [aw _ (by omega), if_neg (by omega)]
    exact h2 w hw i hi
theorem Sm.addP {a f s : Nat} (h : Sm A) (h6 : A 6 < 20) (ha : a < 100) (hf : f < 100) (hs : s ≤ 8) : Sm (addPR A a f (tyL 0 (A 6) s s)) := by
  have ll := tyL_len (kind := 0) (p := A 6) (s := s) (k := s)
  unfold addPR perR
  rw [ll]
  refine Sm.uL ((((((((h.up (by omega)).up (by omega)).up (by omega)).up (by omega)).up (by omega)).up (by omega)).up (by omega)).up (by omega)) (fun c hc => ?_)
  have := tyL_b c hc
  unfold letB at this
  rw [decide_eq_true_eq] at this
  omega
set_option maxHeartbeats 4000000 in
theorem h28 (hW : WL KL RL z b I q (A, m, H, B) n D) (h12 : A 6 < 12) (hQ : ∀ I' q' w', WL KL RL z b I' q' w' n D → w'.2.1 = svN m → Ag pW b I I' → Q (.inl (some (.int (nI 1)))) (KAt KL b, I', RAt RL b (q'), L, sz, ex)) {x13 : Nat} : X z 212 28 [some (.ref (ad b 0)), some (.int x), some (.int y), some (.ref (ad b 566)), some (.ref (ad b 567)), some (.ref (ad b 568)), some (.ref (ad b 569)), some (.ref (ad b 570)), some (.ref (ad b 571)), some (.ref (ad b 572)), some (.ref (ad b 573)), some (.ref (ad b 574)), some (.ref (ad b 575)), some (.int (nI (x13))), x14, x15, x16] [] (0, 0) (KAt KL b, I, RAt RL b q, L, sz, ex) Q := by
  obtain ⟨hw, hg, hm, hz, hv, hl, hlt, hD⟩ := hW
  dsimp only at hm hl hlt hD
  have m0 := hl.1.1.1
  have h7 := hg.1.1.2.1
  dsimp only at h7
  have v1 := atN_lt (v := y) (show 0 < 3 by omega)
  have v2 := atN_lt (v := y >>> (nI 3 &&& 31)) (show 0 < 3 by omega)
  have v3 := atN_lt (v := y >>> (nI 6 &&& 31)) (show 0 < 8 by omega)
  simp (disch := omega) only [v212_28, v212_29, v212_30, v212_31, v212_32, v212_33, v212_34, v212_35, v212_36, v212_38, v212_40, v212_42, v212_43, u212_44, v212_47, v212_48, v212_50, v212_52, v212_53, v212_54, v212_55, u212_56, v212_59, v212_60, v212_62, v212_64, v212_65, v212_66, v212_68, v212_69, u212_71, v212_74, v212_75, v212_76, v212_78, v212_80, v212_81, v212_82, v212_84, v212_86, v212_87, v212_88, v212_90, v212_92, v212_93, v212_94, v212_96, v212_98, v212_99, v212_100, v212_101, v212_103, v212_105, v212_107, v212_108, v212_110, v212_112, v212_113, v212_115, v212_117, u212_118, Nat.add_zero, n_cl, n_in_t, n_lt_t, n_lt_f, n_eq_t, n_eq_f, n_sub, nI_add, n_mul, n_01, ↓reduceIte, if_true, if_false, eq_self, true_or, or_true, and_self, and_true, true_and, Nat.reduceAdd, Nat.reduceMul, Nat.reduceLeDiff, Nat.zero_le, not_true_eq_false, not_false_eq_true, cat2_n, cat2_i, cat2_r, ws_0, ws_i, ws_r, ws_l, ws_d, aftr_n, aftr_s, bI_ok, bI_t, bI_f, up_s, up_n, n_bit, decide_true, decide_false, Bool.not_true, Bool.not_false, Bool.and_true, Bool.true_and, Bool.false_and, Bool.and_false, n_nlt0, n_neg_t, n_neg_f, k_0, k_566, k_567, k_568, k_569, k_570, k_571, k_572, k_573, k_574, k_575, k_576, leq_t, c193v, m0]
  generalize atN y 3 = a at v1
  generalize atN (y >>> (nI 3 &&& 31)) 3 = f at v2
  generalize hs : 1 + atN (y >>> (nI 6 &&& 31)) 8 = s
  have gN : Ag pN b I (up2 (up2 (up2 (up2 (up2 (up2 (up2 (up2 I (ad b 566) 0 (nI (A 6 + 1))) (ad b 567) (A 6) (nI a)) (ad b 568) (A 6) (nI f)) (ad b 573) (A 6) (nI s)) (ad b 569) (A 6) (nI 4294967295)) (ad b 570) (A 6) (nI 0)) (ad b 571) (A 6) (nI 4294967295)) (ad b 572) (A 6) (nI 0)) := by
    repeat (first | exact Ag.rf | refine Ag.up ?_ (by unfold pN; omega))
  have gW : Ag pW b I (up2 (up2 (up2 (up2 (up2 (up2 (up2 (up2 I (ad b 566) 0 (nI (A 6 + 1))) (ad b 567) (A 6) (nI a)) (ad b 568) (A 6) (nI f)) (ad b 573) (A 6) (nI s)) (ad b 569) (A 6) (nI 4294967295)) (ad b 570) (A 6) (nI 0)) (ad b 571) (A 6) (nI 4294967295)) (ad b 572) (A 6) (nI 0)) := by
    repeat (first | exact Ag.rf | refine Ag.up ?_ (by unfold pW; omega))
  refine c195 (A := A) (n := m) (H := H) (B := B) (by omega) ⟨by omega, by omega⟩ (by omega) (by omega) (hw.scr hg gN (fun o j h => by unfold pN at h; omega)) hg (fun I2 q2 w2 k2 g2 => ?_)
  simp (disch := omega) only [v212_121, Nat.add_zero, n_cl, n_in_t, n_lt_t, n_lt_f, n_eq_t, n_eq_f, n_sub, nI_add, n_mul, n_01, ↓reduceIte, if_true, if_false, eq_self, true_or, or_true, and_self, and_true, true_and, Nat.reduceAdd, Nat.reduceMul, Nat.reduceLeDiff, Nat.zero_le, not_true_eq_false, not_false_eq_true, cat2_n, cat2_i, cat2_r, ws_0, ws_i, ws_r, ws_l, ws_d, aftr_n, aftr_s, bI_ok, bI_t, bI_f, up_s, up_n, n_bit, decide_true, decide_false, Bool.not_true, Bool.not_false, Bool.and_true, Bool.true_and, Bool.false_and, Bool.and_false, n_nlt0, n_neg_t, n_neg_f, k_0, k_566, k_567, k_568, k_569, k_570, k_571, k_572, k_573, k_574, k_575, k_576]
  refine hQ I2 q2 _ ⟨w2, k2, hm.addP (by omega) (by omega) (by omega) (by omega), (hz.ag gW).ag g2, (hv.ag gW).ag g2, (hl.addP (by omega) (by omega) h7).ag g2 pLw_c, hlt.addP h12 (by omega) hg.1, ?_⟩ rfl (gW.tr (g2.mn pCls_w))
  dsimp only
  rw [(addPR_v (A := A) (a := a) (f := f) (s := s) (by omega) (by omega)).1 8 (by omega)]
  simp (disch := omega) only [if_neg]
  exact hD
theorem Lw.addW {pl s : Nat} (h : Lw b I A n) (h7 : A 7 < 10) (hs : s ≤ 8) (h6 : A 6 ≤ 20) : Lw b (up2 (up2 I (ad b 566) 1 (nI (A 7 + 1))) (ad b 574) (A 7) (nI (s + 16 * pl))) (updL (worR A (A 7) pl s) (333 + 8 * A 7) (tyL 1 (A 7) s s)) n := by
  obtain ⟨⟨⟨a0, a1, a2, a3, a4, a5, a6, a7⟩, a8⟩, b1, b2, b3⟩ := h
  obtain ⟨av, aw⟩ := addW_w (A := A) (pl := pl) h7 hs
  have e6 : updL (worR A (A 7) pl s) (333 + 8 * A 7) (tyL 1 (A 7) s s) 6 = A 6 := by simp (disch := omega) only [av, if_neg]
  have e7 : updL (worR A (A 7) pl s) (333 + 8 * A 7) (tyL 1 (A 7) s s) 7 = A 7 + 1 := by simp (disch := omega) only [av, if_neg, if_pos, if_true]
  have e12 : updL (worR A (A 7) pl s) (333 + 8 * A 7) (tyL 1 (A 7) s s) 12 = A 12 := by simp (disch := omega) only [av, if_neg]
  refine ⟨⟨⟨?_, ?_, ?_, ?_, ?_, ?_, ?_, ?_⟩, fun k hk => ?_⟩, fun p hp => ?_, fun w hw => ?_, fun k hk => ?_⟩
  · rw [e6]; simp (disch := omega) only [up_n]; exact a0
  · rw [e7]; simp (disch := omega) only [up_n, up_s]
  · rw [e12]; simp (disch := omega) only [up_n]; exact a2
  · simp (disch := omega) only [up_n, av, if_neg]; exact a3
  · simp (disch := omega) only [up_n, av, if_neg]; exact a4
  · simp (disch := omega) only [up_n, av, if_neg]; exact a5
  · simp (disch := omega) only [up_n, av, if_neg]; exact a6
  · simp (disch := omega) only [up_n]; exact a7
  · simp (disch := omega) only [up_n, av, if_neg]; exact a8 k hk
  · rw [e6] at hp
    obtain ⟨c1, c2, c3, c4, c5, c6, c7⟩ := b1 p (by omega)
    refine ⟨?_, ?_, ?_, ?_, ?_, ?_, ?_⟩
    · simp (disch := omega) only [up_n, av, if_neg]; exact c1
    · simp (disch := omega) only [up_n, av, if_neg]; exact c2
    · simp (disch := omega) only [up_n, av, if_neg]; exact c3
    · simp (disch := omega) only [up_n, av, if_neg]; exact c4
    · simp (disch := omega) only [up_n, av, if_neg]; exact c5
    · simp (disch := omega) only [up_n, av, if_neg]; exact c6
    · simp (disch := omega) only [up_n, av, if_neg]; exact c7
  · rw [e7] at hw
    by_cases e : w = A 7
    · subst e
      simp (disch := omega) only [up_s, av, if_neg, if_pos, if_true]
    · simp (disch := omega) only [up_n, av, if_neg]; exact b2 w (by omega)
  · rw [e12] at hk
    have : updL (worR A (A 7) pl s) (333 + 8 * A 7) (tyL 1 (A 7) s s) (413 + k) = A (413 + k) := by rw [aw _ (by omega), if_neg (by omega)]
    rw [this]
    simp (disch := omega) only [up_n]; exact b3 k hk
theorem LwT.addW {pl s : Nat} (h : LwT A) (h7 : A 7 < 6) (hs : s ≤ 8) (hg : Good A) : LwT (updL (worR A (A 7) pl s) (333 + 8 * A 7) (tyL 1 (A 7) s s)) := by
  obtain ⟨h1, h2, h3, h4, h5⟩ := h
  obtain ⟨av, aw⟩ := addW_w (A := A) (pl := pl) (s := s) (by omega) hs
  have e6 : updL (worR A (A 7) pl s) (333 + 8 * A 7) (tyL 1 (A 7) s s) 6 = A 6 := by simp (disch := omega) only [av, if_neg]
  have e7 : updL (worR A (A 7) pl s) (333 + 8 * A 7) (tyL 1 (A 7) s s) 7 = A 7 + 1 := by simp (disch := omega) only [av, if_neg, if_pos, if_true]
  have e12 : updL (worR A (A 7) pl s) (333 + 8 * A 7) (tyL 1 (A 7) s s) 12 = A 12 := by simp (disch := omega) only [av, if_neg]
  refine ⟨fun p hp i hi => ?_, fun w hw i hi => ?_, by omega, by omega, by omega⟩
  · rw [e6] at hp
    have es : updL (worR A (A 7) pl s) (333 + 8 * A 7) (tyL 1 (A 7) s s) (133 + p) = A (133 + p) := by simp (disch := omega) only [av, if_neg]
    rw [es] at hi ⊢
    have := (hg.2.2.1 p (by omega)).2.2.2.2.2.2.1
    rw [av _ (by omega), if_neg (by omega), if_neg (by omega), if_neg (by omega)]
    exact h1 p hp i hi
  · rw [e7] at hw
    by_cases e : w = A 7
    · subst e
      have es : updL (worR A (A 7) pl s) (333 + 8 * A 7) (tyL 1 (A 7) s s) (313 + A 7) = s := by simp (disch := omega) only [av, if_pos, if_true]
      rw [es] at hi ⊢
      rw [aw _ (by omega), if_pos (by omega), show 333 + 8 * A 7 + i - (333 + 8 * A 7) = i by omega]
    · have es : updL (worR A (A 7) pl s) (333 + 8 * A 7) (tyL 1 (A 7) s s) (313 + w) = A (313 + w) := by simp (disch := omega) only [av, if_neg]
      rw [es] at hi ⊢
      have := (hg.2.2.2.1 w (by omega)).2.1
      rw [aw _ (by omega), if_neg (by omega)]
      exact h2 w (by omega) i hi
theorem Sm.addW {pl s : Nat} (h : Sm A) (h7 : A 7 < 10) (hp : pl ≤ 1) (hs : s ≤ 8) : Sm (updL (worR A (A 7) pl s) (333 + 8 * A 7) (tyL 1 (A 7) s s)) := by
  unfold worR
  refine Sm.uL (((h.up (by omega)).up (by omega)).up (by omega)) (fun c hc => ?_)
  have := tyL_b c hc
  unfold letB at this
  rw [decide_eq_true_eq] at this
  omega
set_option maxHeartbeats 4000000 in
theorem h136 (hW : WL KL RL z b I q (A, m, H, B) n D) (h7 : A 7 < 6) (hQ : ∀ I' q' w', WL KL RL z b I' q' w' n D → w'.2.1 = svN m → Ag pW b I I' → Q (.inl (some (.int (nI 1)))) (KAt KL b, I', RAt RL b (q'), L, sz, ex)) {x13 : Nat} : X z 212 136 [some (.ref (ad b 0)), some (.int x), some (.int y), some (.ref (ad b 566)), some (.ref (ad b 567)), some (.ref (ad b 568)), some (.ref (ad b 569)), some (.ref (ad b 570)), some (.ref (ad b 571)), some (.ref (ad b 572)), some (.ref (ad b 573)), some (.ref (ad b 574)), some (.ref (ad b 575)), some (.int (nI (x13))), x14, x15, x16] [] (0, 0) (KAt KL b, I, RAt RL b q, L, sz, ex) Q := by
  obtain ⟨hw, hg, hm, hz, hv, hl, hlt, hD⟩ := hW
  dsimp only at hm hl hlt hD
  have m1 := hl.1.1.2.1
  have h6 := hg.1.1.1
  dsimp only at h6
  have v1 := atN_lt (v := y) (show 0 < 8 by omega)
  have v2 := atN_lt (v := y >>> (nI 4 &&& 31)) (show 0 < 3 by omega)
  have fin : ∀ pl : Bool, X z 212 192 [some (.ref (ad b 0)), some (.int x), some (.int y), some (.ref (ad b 566)), some (.ref (ad b 567)), some (.ref (ad b 568)), some (.ref (ad b 569)), some (.ref (ad b 570)), some (.ref (ad b 571)), some (.ref (ad b 572)), some (.ref (ad b 573)), some (.ref (ad b 574)), some (.ref (ad b 575)), some (.int (nI (x13))), some (.int (nI (A 7))), some (.int (nI (1 + atN y 8))), some (.int (bI pl))] [] (0, 0) (KAt KL b, up2 (up2 I (ad b 566) 1 (nI (A 7 + 1))) (ad b 574) (A 7) (nI (1 + atN y 8 + 16 * (if pl = true then 1 else 0))), RAt RL b q, L, sz, ex) Q := by
    intro pl
    generalize hs : 1 + atN y 8 = s
    simp (disch := omega) only [v212_192, v212_193, v212_195, v212_197, u212_199, Nat.add_zero, n_cl, n_in_t, n_lt_t, n_lt_f, n_eq_t, n_eq_f, n_sub, nI_add, n_mul, n_01, ↓reduceIte, if_true, if_false, eq_self, true_or, or_true, and_self, and_true, true_and, Nat.reduceAdd, Nat.reduceMul, Nat.reduceLeDiff, Nat.zero_le, not_true_eq_false, not_false_eq_true, cat2_n, cat2_i, cat2_r, ws_0, ws_i, ws_r, ws_l, ws_d, aftr_n, aftr_s, bI_ok, bI_t, bI_f, up_s, up_n, n_bit, decide_true, decide_false, Bool.not_true, Bool.not_false, Bool.and_true, Bool.true_and, Bool.false_and, Bool.and_false, n_nlt0, n_neg_t, n_neg_f, k_0, k_566, k_567, k_568, k_569, k_570, k_571, k_572, k_573, k_574, k_575, k_576, leq_t]
    have gN : Ag pN b I (up2 (up2 I (ad b 566) 1 (nI (A 7 + 1))) (ad b 574) (A 7) (nI (s + 16 * (if pl = true then 1 else 0)))) := by
      repeat (first | exact Ag.rf | refine Ag.up ?_ (by unfold pN; omega))
    have gW : Ag pW b I (up2 (up2 I (ad b 566) 1 (nI (A 7 + 1))) (ad b 574) (A 7) (nI (s + 16 * (if pl = true then 1 else 0)))) := by
      repeat (first | exact Ag.rf | refine Ag.up ?_ (by unfold pW; omega))
    refine c196 (A := A) (n := m) (H := H) (B := B) (pl := pl) (by omega) ⟨by omega, by omega⟩ (hw.scr hg gN (fun o j h => by unfold pN at h; omega)) hg (fun I2 q2 w2 g2 k2 => ?_)
    simp (disch := omega) only [v212_202, Nat.add_zero, n_cl, n_in_t, n_lt_t, n_lt_f, n_eq_t, n_eq_f, n_sub, nI_add, n_mul, n_01, ↓reduceIte, if_true, if_false, eq_self, true_or, or_true, and_self, and_true, true_and, Nat.reduceAdd, Nat.reduceMul, Nat.reduceLeDiff, Nat.zero_le, not_true_eq_false, not_false_eq_true, cat2_n, cat2_i, cat2_r, ws_0, ws_i, ws_r, ws_l, ws_d, aftr_n, aftr_s, bI_ok, bI_t, bI_f, up_s, up_n, n_bit, decide_true, decide_false, Bool.not_true, Bool.not_false, Bool.and_true, Bool.true_and, Bool.false_and, Bool.and_false, n_nlt0, n_neg_t, n_neg_f, k_0, k_566, k_567, k_568, k_569, k_570, k_571, k_572, k_573, k_574, k_575, k_576]
    refine hQ I2 q2 _ ⟨w2, k2, hm.addW (by omega) (by split <;> omega) (by omega), (hz.ag gW).ag g2, (hv.ag gW).ag g2, (hl.addW (by omega) (by omega) h6).ag g2 pLw_c, hlt.addW h7 (by omega) hg.1, ?_⟩ rfl (gW.tr (g2.mn pCls_w))
    dsimp only
    rw [(addW_w (A := A) (s := s) (by omega) (by omega)).1 8 (by omega)]
    simp (disch := omega) only [if_neg]
    exact hD
  by_cases e : atN (y >>> (nI 4 &&& 31)) 3 = 0
  · have f := fin true
    rw [if_pos rfl, bI_t, Nat.mul_one] at f
    simp (disch := omega) only [v212_136, v212_137, v212_138, v212_139, v212_140, v212_141, v212_142, v212_143, v212_144, v212_146, v212_147, v212_148, u212_150, v212_153, v212_154, v212_156, v212_157, v212_158, v212_159, u212_160, v212_163, v212_166, v212_167, v212_170, v212_171, v212_173, v212_175, v212_177, v212_179, v212_181, v212_184, v212_186, v212_189, v212_190, v212_191, Nat.add_zero, n_cl, n_in_t, n_lt_t, n_lt_f, n_eq_t, n_eq_f, n_sub, nI_add, n_mul, n_01, ↓reduceIte, if_true, if_false, eq_self, true_or, or_true, and_self, and_true, true_and, Nat.reduceAdd, Nat.reduceMul, Nat.reduceLeDiff, Nat.zero_le, not_true_eq_false, not_false_eq_true, cat2_n, cat2_i, cat2_r, ws_0, ws_i, ws_r, ws_l, ws_d, aftr_n, aftr_s, bI_ok, bI_t, bI_f, up_s, up_n, n_bit, decide_true, decide_false, Bool.not_true, Bool.not_false, Bool.and_true, Bool.true_and, Bool.false_and, Bool.and_false, n_nlt0, n_neg_t, n_neg_f, k_0, k_566, k_567, k_568, k_569, k_570, k_571, k_572, k_573, k_574, k_575, k_576, leq_t, c193v, m1, e]
    exact f
  · have f := fin false
    rw [if_neg (by decide), bI_f, Nat.mul_zero, Nat.add_zero] at f
    simp (disch := omega) only [v212_136, v212_137, v212_138, v212_139, v212_140, v212_141, v212_142, v212_143, v212_144, v212_146, v212_147, v212_148, u212_150, v212_153, v212_154, v212_156, v212_157, v212_158, v212_159, u212_160, v212_163, v212_166, v212_167, v212_170, v212_171, v212_173, v212_175, v212_177, v212_179, v212_181, v212_184, v212_186, v212_189, v212_190, v212_191, Nat.add_zero, n_cl, n_in_t, n_lt_t, n_lt_f, n_eq_t, n_eq_f, n_sub, nI_add, n_mul, n_01, ↓reduceIte, if_true, if_false, eq_self, true_or, or_true, and_self, and_true, true_and, Nat.reduceAdd, Nat.reduceMul, Nat.reduceLeDiff, Nat.zero_le, not_true_eq_false, not_false_eq_true, cat2_n, cat2_i, cat2_r, ws_0, ws_i, ws_r, ws_l, ws_d, aftr_n, aftr_s, bI_ok, bI_t, bI_f, up_s, up_n, n_bit, decide_true, decide_false, Bool.not_true, Bool.not_false, Bool.and_true, Bool.true_and, Bool.false_and, Bool.and_false, n_nlt0, n_neg_t, n_neg_f, k_0, k_566, k_567, k_568, k_569, k_570, k_571, k_572, k_573, k_574, k_575, k_576, leq_t, c193v, m1]
    exact f
/-- the fields are counted -/
theorem l212 {T : List Nat} {x13 cc cn : Nat} (hT : T.length ≤ 20) (m2 : I (ad b 566) 2 = nI T.length) (hit : IT b I T) (hlt : ∀ c ∈ T, c < 400) : ∀ d k c, k + d = T.length → X z 212 228 [some (.ref (ad b 0)), some (.int x), some (.int y), some (.ref (ad b 566)), some (.ref (ad b 567)), some (.ref (ad b 568)), some (.ref (ad b 569)), some (.ref (ad b 570)), some (.ref (ad b 571)), some (.ref (ad b 572)), some (.ref (ad b 573)), some (.ref (ad b 574)), some (.ref (ad b 575)), some (.int (nI (x13))), some (.int (nI (c))), some (.int (nI (k))), x16] [] (cc, cn) (KAt KL b, I, RAt RL b q, L, sz, ex) Q = X z 212 256 [some (.ref (ad b 0)), some (.int x), some (.int y), some (.ref (ad b 566)), some (.ref (ad b 567)), some (.ref (ad b 568)), some (.ref (ad b 569)), some (.ref (ad b 570)), some (.ref (ad b 571)), some (.ref (ad b 572)), some (.ref (ad b 573)), some (.ref (ad b 574)), some (.ref (ad b 575)), some (.int (nI (x13))), some (.int (nI (c + cntF (fun k => decide (256 ≤ T.getD k 0)) k d))), some (.int (nI (T.length))), x16] [] (cc, cn) (KAt KL b, I, RAt RL b q, L, sz, ex) Q := by
  intro d
  induction d with
  | zero =>
    intro k c h
    obtain rfl : k = T.length := by omega
    rw [v212_228]
    simp (disch := omega) only [v212_230, v212_231, v212_232, v212_233, v212_236, v212_238, v212_240, v212_241, v212_244, v212_247, v212_250, v212_253, Nat.add_zero, n_cl, n_in_t, n_lt_t, n_lt_f, n_eq_t, n_eq_f, n_sub, nI_add, n_mul, n_01, ↓reduceIte, if_true, if_false, eq_self, true_or, or_true, and_self, and_true, true_and, Nat.reduceAdd, Nat.reduceMul, Nat.reduceLeDiff, Nat.zero_le, not_true_eq_false, not_false_eq_true, cat2_n, cat2_i, cat2_r, ws_0, ws_i, ws_r, ws_l, ws_d, aftr_n, aftr_s, bI_ok, bI_t, bI_f, up_s, up_n, n_bit, decide_true, decide_false, Bool.not_true, Bool.not_false, Bool.and_true, Bool.true_and, Bool.false_and, Bool.and_false, n_nlt0, n_neg_t, n_neg_f, k_0, k_566, k_567, k_568, k_569, k_570, k_571, k_572, k_573, k_574, k_575, k_576, m2]
    rfl
  | succ d ih =>
    intro k c h
    have mi := hit k (by omega)
    have tl : T.getD k 0 < 400 := hlt _ (by rw [List.getD_eq_getElem?_getD, List.getElem?_eq_getElem (by omega)]; exact List.getElem_mem _)
    rw [v212_228]
    unfold cntF
    by_cases e : 256 ≤ T.getD k 0
    · rw [decide_eq_true e]
      simp (disch := omega) only [v212_230, v212_231, v212_232, v212_233, v212_236, v212_238, v212_240, v212_241, v212_244, v212_247, v212_250, v212_253, Nat.add_zero, n_cl, n_in_t, n_lt_t, n_lt_f, n_eq_t, n_eq_f, n_sub, nI_add, n_mul, n_01, ↓reduceIte, if_true, if_false, eq_self, true_or, or_true, and_self, and_true, true_and, Nat.reduceAdd, Nat.reduceMul, Nat.reduceLeDiff, Nat.zero_le, not_true_eq_false, not_false_eq_true, cat2_n, cat2_i, cat2_r, ws_0, ws_i, ws_r, ws_l, ws_d, aftr_n, aftr_s, bI_ok, bI_t, bI_f, up_s, up_n, n_bit, decide_true, decide_false, Bool.not_true, Bool.not_false, Bool.and_true, Bool.true_and, Bool.false_and, Bool.and_false, n_nlt0, n_neg_t, n_neg_f, k_0, k_566, k_567, k_568, k_569, k_570, k_571, k_572, k_573, k_574, k_575, k_576, m2, mi, ih (k + 1), cond_true, Nat.add_assoc]
    · rw [decide_eq_false e]
      simp (disch := omega) only [v212_230, v212_231, v212_232, v212_233, v212_236, v212_238, v212_240, v212_241, v212_244, v212_247, v212_250, v212_253, Nat.add_zero, n_cl, n_in_t, n_lt_t, n_lt_f, n_eq_t, n_eq_f, n_sub, nI_add, n_mul, n_01, ↓reduceIte, if_true, if_false, eq_self, true_or, or_true, and_self, and_true, true_and, Nat.reduceAdd, Nat.reduceMul, Nat.reduceLeDiff, Nat.zero_le, not_true_eq_false, not_false_eq_true, cat2_n, cat2_i, cat2_r, ws_0, ws_i, ws_r, ws_l, ws_d, aftr_n, aftr_s, bI_ok, bI_t, bI_f, up_s, up_n, n_bit, decide_true, decide_false, Bool.not_true, Bool.not_false, Bool.and_true, Bool.true_and, Bool.false_and, Bool.and_false, n_nlt0, n_neg_t, n_neg_f, k_0, k_566, k_567, k_568, k_569, k_570, k_571, k_572, k_573, k_574, k_575, k_576, m2, mi, ih (k + 1), cond_false, Nat.zero_add]
theorem cntF_congr {f g : Nat → Bool} : ∀ d i, (∀ k, i ≤ k → k < i + d → f k = g k) → cntF f i d = cntF g i d
  | 0, _, _ => rfl
  | d + 1, i, h => by
    unfold cntF
    rw [h i (Nat.le_refl _) (by omega), cntF_congr d (i + 1) (fun k h1 h2 => h k (by omega) (by omega))]
theorem flds_take {T : List Nat} : flds (takeR A T) = cntF (fun k => decide (256 ≤ T.getD k 0)) 0 T.length := by
  unfold flds
  rw [takeR_12]
  exact cntF_congr _ _ (fun k _ h => by rw [takeR_k (by omega)])
theorem Lw.take {T : List Nat} {I' : Nat → Nat → Int32} (h : Lw b I A n) (h6 : A 6 ≤ 20) (h7 : A 7 ≤ 10) (hg : Ag pLt b I I') (hit : IT b I' T) : Lw b (up2 I' (ad b 566) 2 (nI T.length)) (takeR A T) n := by
  obtain ⟨⟨⟨a0, a1, a2, a3, a4, a5, a6, a7⟩, a8⟩, b1, b2, b3⟩ := h
  have k : ∀ {o j}, 566 ≤ o → o ≠ 575 → ¬ (o = 566 ∧ j = 2) → up2 I' (ad b 566) 2 (nI T.length) (ad b o) j = I (ad b o) j := fun h1 h2 h3 => (up_n h3).trans (hg.at (fun x => by unfold pLt pCls at x; omega))
  refine ⟨⟨⟨?_, ?_, ?_, ?_, ?_, ?_, ?_, ?_⟩, fun i hi => ?_⟩, fun p hp => ?_, fun w hw => ?_, fun i hi => ?_⟩
  · rw [k (by omega) (by omega) (by omega), takeR_n (by omega)]; exact a0
  · rw [k (by omega) (by omega) (by omega), takeR_n (by omega)]; exact a1
  · rw [up_s, takeR_12]
  · rw [k (by omega) (by omega) (by omega), takeR_n (by omega)]; exact a3
  · rw [k (by omega) (by omega) (by omega), takeR_n (by omega)]; exact a4
  · rw [k (by omega) (by omega) (by omega), takeR_n (by omega)]; exact a5
  · rw [k (by omega) (by omega) (by omega), takeR_n (by omega)]; exact a6
  · rw [k (by omega) (by omega) (by omega)]; exact a7
  · rw [k (by omega) (by omega) (by omega), takeR_n (by omega)]; exact a8 i hi
  · rw [takeR_n (by omega)] at hp
    obtain ⟨c1, c2, c3, c4, c5, c6, c7⟩ := b1 p hp
    refine ⟨?_, ?_, ?_, ?_, ?_, ?_, ?_⟩
    · rw [k (by omega) (by omega) (by omega), takeR_n (by omega)]; exact c1
    · rw [k (by omega) (by omega) (by omega), takeR_n (by omega)]; exact c2
    · rw [k (by omega) (by omega) (by omega), takeR_n (by omega)]; exact c3
    · rw [k (by omega) (by omega) (by omega), takeR_n (by omega)]; exact c4
    · rw [k (by omega) (by omega) (by omega), takeR_n (by omega)]; exact c5
    · rw [k (by omega) (by omega) (by omega), takeR_n (by omega)]; exact c6
    · rw [k (by omega) (by omega) (by omega), takeR_n (by omega)]; exact c7
  · rw [takeR_n (by omega)] at hw
    rw [k (by omega) (by omega) (by omega), takeR_n (by omega), takeR_n (by omega)]
    exact b2 w hw
  · rw [takeR_12] at hi
    rw [takeR_k hi, up_n (by omega)]
    exact hit i hi
theorem LwT.take {T : List Nat} (h : LwT A) (hT : T.length ≤ 24) (hg : Good A) : LwT (takeR A T) := by
  obtain ⟨h1, h2, h3, h4, h5⟩ := h
  refine ⟨fun p hp i hi => ?_, fun w hw i hi => ?_, ?_, ?_, ?_⟩
  · rw [takeR_n (by omega)] at hp
    have := (hg.2.2.1 p hp).2.2.2.2.2.2.1
    rw [takeR_n (by omega)] at hi
    rw [takeR_n (by omega), takeR_n (by omega)]
    exact h1 p hp i hi
  · rw [takeR_n (by omega)] at hw
    have := (hg.2.2.2.1 w hw).2.1
    rw [takeR_n (by omega)] at hi
    rw [takeR_n (by omega), takeR_n (by omega)]
    exact h2 w hw i hi
  · rw [takeR_n (by omega)]; exact h3
  · rw [takeR_n (by omega)]; exact h4
  · rw [takeR_12]; exact hT
set_option maxHeartbeats 4000000 in
theorem h209 (hW : WL KL RL z b I q (A, m, H, B) n D) (hQ : ∀ I' q' w', WL KL RL z b I' q' w' n D → w'.2.1 = svN m → Ag pW b I I' → Q (.inl (some (.int (nI 1)))) (KAt KL b, I', RAt RL b (q'), L, sz, ex)) {x13 : Nat} : X z 212 209 [some (.ref (ad b 0)), some (.int x), some (.int y), some (.ref (ad b 566)), some (.ref (ad b 567)), some (.ref (ad b 568)), some (.ref (ad b 569)), some (.ref (ad b 570)), some (.ref (ad b 571)), some (.ref (ad b 572)), some (.ref (ad b 573)), some (.ref (ad b 574)), some (.ref (ad b 575)), some (.int (nI (x13))), x14, x15, x16] [] (0, 0) (KAt KL b, I, RAt RL b q, L, sz, ex) Q := by
  obtain ⟨hw, hg, hm, hz, hv, hl, hlt, hD⟩ := hW
  dsimp only at hm hl hlt hD
  have h6 := hg.1.1.1
  have h7 := hg.1.1.2.1
  dsimp only at h6 h7
  simp (disch := omega) only [v212_209, v212_210, v212_211, v212_212, v212_213, v212_214, v212_215, v212_216, u212_218, Nat.add_zero, n_cl, n_in_t, n_lt_t, n_lt_f, n_eq_t, n_eq_f, n_sub, nI_add, n_mul, n_01, ↓reduceIte, if_true, if_false, eq_self, true_or, or_true, and_self, and_true, true_and, Nat.reduceAdd, Nat.reduceMul, Nat.reduceLeDiff, Nat.zero_le, not_true_eq_false, not_false_eq_true, cat2_n, cat2_i, cat2_r, ws_0, ws_i, ws_r, ws_l, ws_d, aftr_n, aftr_s, bI_ok, bI_t, bI_f, up_s, up_n, n_bit, decide_true, decide_false, Bool.not_true, Bool.not_false, Bool.and_true, Bool.true_and, Bool.false_and, Bool.and_false, n_nlt0, n_neg_t, n_neg_f, k_0, k_566, k_567, k_568, k_569, k_570, k_571, k_572, k_573, k_574, k_575, k_576, leq_t]
  refine c197 hw hg (fun I1 q1 B' T w1 l1 t1 hT1 hT2 hB hit g1 => ?_)
  simp (disch := omega) only [v212_221, v212_222, v212_223, v212_225, v212_226, Nat.add_zero, n_cl, n_in_t, n_lt_t, n_lt_f, n_eq_t, n_eq_f, n_sub, nI_add, n_mul, n_01, ↓reduceIte, if_true, if_false, eq_self, true_or, or_true, and_self, and_true, true_and, Nat.reduceAdd, Nat.reduceMul, Nat.reduceLeDiff, Nat.zero_le, not_true_eq_false, not_false_eq_true, cat2_n, cat2_i, cat2_r, ws_0, ws_i, ws_r, ws_l, ws_d, aftr_n, aftr_s, bI_ok, bI_t, bI_f, up_s, up_n, n_bit, decide_true, decide_false, Bool.not_true, Bool.not_false, Bool.and_true, Bool.true_and, Bool.false_and, Bool.and_false, n_nlt0, n_neg_t, n_neg_f, k_0, k_566, k_567, k_568, k_569, k_570, k_571, k_572, k_573, k_574, k_575, k_576]
  have lT := hl.take h6 h7 g1 hit
  generalize hI2 : up2 I1 (ad b 566) 2 (nI T.length) = I2 at lT
  have g2 : Ag pN b I1 I2 := by rw [← hI2]; exact Ag.rf.up (by unfold pN; omega)
  have gW : Ag pW b I I2 := by rw [← hI2]; exact (g1.mn pLt_w).up (by unfold pW; omega)
  have w2 : CSt b I2 q1 (A, m, H, B') := w1.scr hg g2 (fun o j h => by unfold pN at h; omega)
  have hit2 : IT b I2 T := by rw [← hI2]; exact hit.ag (P := fun o _ => o = 566) (Ag.rf.up rfl) (fun j h => by omega)
  have m2 : I2 (ad b 566) 2 = nI T.length := by rw [← hI2]; exact up_s
  have hBc := w1.2.2.2.2.2.2
  dsimp only at hBc
  have hne : B' ≠ [] := fun e => by
    rw [e] at t1
    have : tkw 0 [] = [] := rfl
    rw [this] at t1
    rw [← t1, List.length_nil] at hT1
    omega
  have cp : cpl 2 B' = true := by
    unfold cpl
    rw [if_pos rfl, Bool.and_eq_true]
    exact ⟨decide_eq_true hne, decide_eq_true l1⟩
  have hTc : ∀ c ∈ T, c < 400 := fun c hc => by
    rw [← t1] at hc
    have := ((tkw_all B'.length B' 0 (Nat.le_refl _) (Or.inl rfl) l1 (fun c hc => by have := hBc c hc; omega)).1 c hc).lt
    omega
  have op : opTake (A, m, H, B') = (0, cntF (fun k => decide (256 ≤ T.getD k 0)) 0 T.length, (takeR A T, svN m, svH A m H, [])) := by
    unfold opTake
    dsimp only
    rw [if_pos cp, t1, flds_take]
  have kg : GoodW (takeR A T, svN m, svH A m H, []) := by
    have := k_Take (gW_b (B' := B') hg) hBc hB
    rwa [op] at this
  rw [l212 (by omega) m2 hit2 hTc T.length 0 0 (by omega), Nat.zero_add]
  simp (disch := omega) only [v212_256, u212_257, Nat.add_zero, n_cl, n_in_t, n_lt_t, n_lt_f, n_eq_t, n_eq_f, n_sub, nI_add, n_mul, n_01, ↓reduceIte, if_true, if_false, eq_self, true_or, or_true, and_self, and_true, true_and, Nat.reduceAdd, Nat.reduceMul, Nat.reduceLeDiff, Nat.zero_le, not_true_eq_false, not_false_eq_true, cat2_n, cat2_i, cat2_r, ws_0, ws_i, ws_r, ws_l, ws_d, aftr_n, aftr_s, bI_ok, bI_t, bI_f, up_s, up_n, n_bit, decide_true, decide_false, Bool.not_true, Bool.not_false, Bool.and_true, Bool.true_and, Bool.false_and, Bool.and_false, n_nlt0, n_neg_t, n_neg_f, k_0, k_566, k_567, k_568, k_569, k_570, k_571, k_572, k_573, k_574, k_575, k_576, leq_t]
  refine c60 w2 hg (CQ_ok op (fun I3 q3 w3 g3 => ?_))
  simp (disch := omega) only [v212_260, v212_262, v212_265, u212_266, Nat.add_zero, n_cl, n_in_t, n_lt_t, n_lt_f, n_eq_t, n_eq_f, n_sub, nI_add, n_mul, n_01, ↓reduceIte, if_true, if_false, eq_self, true_or, or_true, and_self, and_true, true_and, Nat.reduceAdd, Nat.reduceMul, Nat.reduceLeDiff, Nat.zero_le, not_true_eq_false, not_false_eq_true, cat2_n, cat2_i, cat2_r, ws_0, ws_i, ws_r, ws_l, ws_d, aftr_n, aftr_s, bI_ok, bI_t, bI_f, up_s, up_n, n_bit, decide_true, decide_false, Bool.not_true, Bool.not_false, Bool.and_true, Bool.true_and, Bool.false_and, Bool.and_false, n_nlt0, n_neg_t, n_neg_f, k_0, k_566, k_567, k_568, k_569, k_570, k_571, k_572, k_573, k_574, k_575, k_576, leq_t]
  refine c68 w3 kg (CQ_ok (v := 0) (w := (takeR A T, svN m, svH A m H, [])) rfl (fun I4 q4 w4 g4 => ?_))
  simp (disch := omega) only [v212_269, v212_272, v212_273, v212_276, v212_277, Nat.add_zero, n_cl, n_in_t, n_lt_t, n_lt_f, n_eq_t, n_eq_f, n_sub, nI_add, n_mul, n_01, ↓reduceIte, if_true, if_false, eq_self, true_or, or_true, and_self, and_true, true_and, Nat.reduceAdd, Nat.reduceMul, Nat.reduceLeDiff, Nat.zero_le, not_true_eq_false, not_false_eq_true, cat2_n, cat2_i, cat2_r, ws_0, ws_i, ws_r, ws_l, ws_d, aftr_n, aftr_s, bI_ok, bI_t, bI_f, up_s, up_n, n_bit, decide_true, decide_false, Bool.not_true, Bool.not_false, Bool.and_true, Bool.true_and, Bool.false_and, Bool.and_false, n_nlt0, n_neg_t, n_neg_f, k_0, k_566, k_567, k_568, k_569, k_570, k_571, k_572, k_573, k_574, k_575, k_576]
  have g34 := g3.tr g4
  refine hQ I4 q4 _ ⟨w4, kg, ?_, (hz.ag gW).ag g34, (hv.ag gW).ag g34, lT.ag g34 pLw_c, hlt.take (by omega) hg.1, ?_⟩ rfl (gW.tr (g34.mn pCls_w))
  · dsimp only
    unfold takeR
    exact (hm.up (by omega)).uL (fun c hc => by have := hTc c hc; omega)
  · dsimp only
    rw [takeR_n (by omega)]
    exact hD
end LK
