/-! calls in the clean machine: it is monotone in what is asked at the end; a call is the callee's own run, then the rest -/
theorem aftr_mono2 {M : Nat → Option MI} {k k' : Cont} {Q Q' : Res → Mem → Prop} (hk : ∀ m pc ls st cu σ, k m pc ls st cu σ Q → k' m pc ls st cu σ Q') {m pc : Nat} {ls : Lcs} {rest : List Value} {cu : Nat × Nat} {r : Res} {σ : Mem} : aftr k M m pc ls rest cu Q r σ → aftr k' M m pc ls rest cu Q' r σ := by
  unfold aftr
  rcases r with (_ | v) | x
  · exact hk _ _ _ _ _ _
  · exact hk _ _ _ _ _ _
  · dsimp only
    cases M m with
    | none => exact id
    | some r =>
      dsimp only
      cases hnd (mi_hh r) (mi_hx r) pc x with
      | none => exact id
      | some h => exact fun f q => hk _ _ _ _ _ _ (f q)
theorem callX_mono2 {M : Nat → Option MI} {k k' : Cont} {Q Q' : Res → Mem → Prop} (hk : ∀ m pc ls st cu σ, k m pc ls st cu σ Q → k' m pc ls st cu σ Q') (hc : ∀ m pc ls st cu σ Q, k m pc ls st cu σ Q → k' m pc ls st cu σ Q) {y m pc : Nat} {As rest : List Value} {ls : Lcs} {cu : Nat × Nat} {σ : Mem} : callX k M y As rest m pc ls cu σ Q → callX k' M y As rest m pc ls cu σ Q' := by
  unfold callX
  cases M y with
  | none => exact id
  | some ry =>
    cases M m with
    | none => exact id
    | some rm =>
      rintro ⟨h1, h2, h3, h4, h5, Q1, h6, h7⟩
      exact ⟨h1, h2, h3, h4, h5, Q1, hc _ _ _ _ _ _ _ h6, fun r τ hq => aftr_mono2 hk (h7 r τ hq)⟩
set_option maxHeartbeats 4000000 in
theorem XI_mono2 {M : Nat → Option MI} {z : P0} {k k' : Cont} {Q Q' : Res → Mem → Prop} (hQ : ∀ r σ, Q r σ → Q' r σ) (hk : ∀ m pc ls st cu σ, k m pc ls st cu σ Q → k' m pc ls st cu σ Q') (hc : ∀ m pc ls st cu σ Q, k m pc ls st cu σ Q → k' m pc ls st cu σ Q) {e : AIn} {m pc : Nat} {ls : Lcs} {st : List Value} {cu : Nat × Nat} {σ : Mem} : XI M z k e m pc ls st cu σ Q → XI M z k' e m pc ls st cu σ Q' := by
  obtain ⟨ins, len, a, b, c, ts, w, q⟩ := e
  obtain ⟨K, I, R, L, sz, ex⟩ := σ
  have hk1 : ∀ {m pc ls st cu σ}, k m pc ls st cu σ Q → k' m pc ls st cu σ Q' := fun h => hk _ _ _ _ _ _ h
  have hQ1 : ∀ {r σ}, Q r σ → Q' r σ := fun h => hQ _ _ h
  cases ins <;> dsimp only [XI] <;> first
    | exact id
    | exact hk1
    | exact getL_mono (ldA_mono fun _ => hk1)
    | exact getL_mono (ldI_mono fun _ => hk1)
    | exact getL_mono (ldJ_mono fun _ => hk1)
    | exact getL_mono (ldD_mono fun _ => hk1)
    | exact getL_mono (ldI_mono fun _ => stL_mono fun _ => hk1)
    | exact And.imp_right hk1
    | exact ite_mono hk1 (ite_mono hk1 hk1)
    | exact ite_mono hk1 (And.imp_right hk1)
    | exact ite_mono (And.imp_right (And.imp_right (And.imp_right hQ1))) (And.imp_right (And.imp_right hk1))
    | (refine ite_mono ?_ (And.imp_right (callX_mono2 hk hc))
       · split
         · rintro ⟨h1, h2, h3, h4, h5, h6, h7, h8, h9⟩; exact ⟨h1, h2, h3, h4, h5, h6, h7, h8, hk1 h9⟩
         · exact id)
    | (split <;> first
        | exact id
        | exact hk1
        | exact hQ1
        | exact And.imp_right hQ1
        | exact stL_mono fun _ => hk1
        | exact stL2_mono fun _ => hk1
        | exact And.imp_right hk1
        | exact And.imp_right (And.imp_right hk1)
        | exact And.imp_right (And.imp_right (And.imp_right hk1))
        | exact And.imp_right (And.imp_right (And.imp_right (And.imp_right hk1)))
        | exact And.imp (fun f h => hk1 (f h)) (fun f h => hk1 (f h))
        | exact fun h => h.elim (fun x => Or.inl ⟨x.1, hk1 x.2⟩) (fun x => Or.inr ⟨x.1, x.2.1, by obtain ⟨t, h1, h2⟩ := x.2.2; exact ⟨t, h1, hk1 h2⟩⟩)
        | (rintro ⟨t, h1, h2⟩; exact ⟨t, h1, hk1 h2⟩)
        | exact And.imp_right (callX_mono2 hk hc)
        | exact ite_mono (fun h => ⟨h.1, h.2.1, hk1 h.2.2⟩) (And.imp_right (callX_mono2 hk hc)))
theorem X_mono {z : P0} {m pc : Nat} {ls : Lcs} {st : List Value} {cu : Nat × Nat} {σ : Mem} {Q Q' : Res → Mem → Prop} (h : X z m pc ls st cu σ Q) (hQ : ∀ r σ, Q r σ → Q' r σ) : X z m pc ls st cu σ Q' := by
  refine h (fun m pc ls st cu σ Q => ∀ Q', (∀ r σ, Q r σ → Q' r σ) → X z m pc ls st cu σ Q') (fun m pc ls st cu σ Q h Q' hQ => ?_) Q' hQ
  refine XX_in ?_
  unfold XS at h ⊢
  cases hm : mT m with
  | none => rw [hm] at h; exact h.elim
  | some r =>
    rw [hm] at h
    dsimp only at h ⊢
    cases hl : lk (mi_tb r) pc with
    | none => rw [hl] at h; exact h.elim
    | some e =>
      rw [hl] at h
      exact XI_mono2 hQ (fun _ _ _ _ _ _ h => h Q' hQ) (fun _ _ _ _ _ _ _ h => h _ fun _ _ h => h) h
theorem callX_eq {z : P0} {y m pc : Nat} {ry rm : MI} (h1 : mT m = some rm) (h2 : mT y = some ry) (ht : mi_ht ry < mi_ht rm) {As rest : List Value} (he : (ent1 As).length ≤ mi_ml ry) {ls : Lcs} {cu : Nat × Nat} {σ : Mem} {Q : Res → Mem → Prop} :
    callX (X z) mT y As rest m pc ls cu σ Q = (wsum rest ≤ 8 ∧ cu.1 + mi_mc ry ≤ mi_mc rm ∧ cu.2 + mi_ms ry ≤ mi_ms rm ∧ X z y 0 (ent (mi_ml ry) As) [] (0, 0) σ (aftr (X z) mT m pc ls rest (cu.1 + mi_mc ry, cu.2 + mi_ms ry) Q)) := by
  unfold callX
  rw [h1, h2]
  dsimp only
  refine propext ⟨?_, ?_⟩
  · rintro ⟨-, a1, a2, a3, -, Q', a4, a5⟩
    exact ⟨a1, a2, a3, X_mono a4 a5⟩
  · rintro ⟨a1, a2, a3, a4⟩
    exact ⟨ht, a1, a2, a3, he, _, a4, fun _ _ h => h⟩
section CV
variable {z : P0} {y m pc n a c i T : Nat} {ts : List Nat} {w : Int32} {q : Int64} {ry rm : MI} {x : Nat} {As st rest : List Value} {E ls : Lcs} {cu : Nat × Nat} {K : Nat → Nat × Nat} {I : Nat → Nat → Int32} {R : Nat → Nat → Option Nat} {L : Nat → Nat → Int64} {sz : Nat} {ex : Bool} {Q : Res → Mem → Prop}
theorem inv_v (h1 : mT m = some rm) (h2 : mT y = some ry) (ht : mi_ht ry < mi_ht rm) (hst : st = As.reverse ++ .ref x :: rest) (hal : As.length = a) (he : (ent1 (.ref x :: As)).length ≤ mi_ml ry) (hE : ent (mi_ml ry) (.ref x :: As) = E) (hT : tagOf (mi_cn ry) = T) :
    XI mT z (X z) (.invokevirtual i, n, a, y, c, ts, w, q) m pc ls st cu (K, I, R, L, sz, ex) Q = ((K x).1 = T ∧ wsum rest ≤ 8 ∧ cu.1 + mi_mc ry ≤ mi_mc rm ∧ cu.2 + mi_ms ry ≤ mi_ms rm ∧ X z y 0 E [] (0, 0) (K, I, R, L, sz, ex) (aftr (X z) mT m pc ls rest (cu.1 + mi_mc ry, cu.2 + mi_ms ry) Q)) := by
  subst hE; subst hT; subst hst
  dsimp only [XI]
  have e1 : (As.reverse ++ Value.ref x :: rest).drop a = .ref x :: rest := by rw [← hal, ← List.length_reverse, List.drop_left]
  have e2 : ((As.reverse ++ Value.ref x :: rest).take a).reverse = As := by rw [← hal, ← List.length_reverse, List.take_left, List.reverse_reverse]
  rw [e1, e2]
  dsimp only
  rw [h2, callX_eq h1 h2 ht he]
theorem inv_i (h1 : mT m = some rm) (h2 : mT y = some ry) (ht : mi_ht ry < mi_ht rm) (hst : st = As.reverse ++ .ref x :: rest) (hal : As.length = a) (he : (ent1 (.ref x :: As)).length ≤ mi_ml ry) (hE : ent (mi_ml ry) (.ref x :: As) = E) (hT : tagOf (mi_cn ry) = T) (hy : y ≠ 9003) :
    XI mT z (X z) (.invokespecial i, n, a, y, c, ts, w, q) m pc ls st cu (K, I, R, L, sz, ex) Q = ((K x).1 = T ∧ wsum rest ≤ 8 ∧ cu.1 + mi_mc ry ≤ mi_mc rm ∧ cu.2 + mi_ms ry ≤ mi_ms rm ∧ X z y 0 E [] (0, 0) (K, I, R, L, sz, ex) (aftr (X z) mT m pc ls rest (cu.1 + mi_mc ry, cu.2 + mi_ms ry) Q)) := by
  subst hE; subst hT; subst hst
  dsimp only [XI]
  have e1 : (As.reverse ++ Value.ref x :: rest).drop a = .ref x :: rest := by rw [← hal, ← List.length_reverse, List.drop_left]
  have e2 : ((As.reverse ++ Value.ref x :: rest).take a).reverse = As := by rw [← hal, ← List.length_reverse, List.take_left, List.reverse_reverse]
  rw [e1, e2]
  dsimp only
  rw [if_neg hy, h2, callX_eq h1 h2 ht he]
theorem inv_s (h1 : mT m = some rm) (h2 : mT y = some ry) (ht : mi_ht ry < mi_ht rm) (hst : st = As.reverse ++ rest) (hal : As.length = a) (he : (ent1 As).length ≤ mi_ml ry) (hE : ent (mi_ml ry) As = E) (hy : y ≠ 9001) :
    XI mT z (X z) (.invokestatic i, n, a, y, c, ts, w, q) m pc ls st cu (K, I, R, L, sz, ex) Q = (wsum rest ≤ 8 ∧ cu.1 + mi_mc ry ≤ mi_mc rm ∧ cu.2 + mi_ms ry ≤ mi_ms rm ∧ X z y 0 E [] (0, 0) (K, I, R, L, sz, ex) (aftr (X z) mT m pc ls rest (cu.1 + mi_mc ry, cu.2 + mi_ms ry) Q)) := by
  subst hE; subst hst
  dsimp only [XI]
  have e1 : (As.reverse ++ rest).drop a = rest := by rw [← hal, ← List.length_reverse, List.drop_left]
  have e2 : ((As.reverse ++ rest).take a).reverse = As := by rw [← hal, ← List.length_reverse, List.take_left, List.reverse_reverse]
  rw [if_neg hy, e1, e2, callX_eq h1 h2 ht he]
  refine propext ⟨fun h => h.2, fun h => ⟨by rw [← hal, List.length_append, List.length_reverse]; exact Nat.le_add_right _ _, h⟩⟩
end CV
theorem and_t {p : Prop} {a b : Nat} (h : a ≤ b) : (a ≤ b ∧ p) = p := propext ⟨fun h => h.2, fun x => ⟨h, x⟩⟩
theorem aftr_n {k : Cont} {M : Nat → Option MI} {m pc : Nat} {ls : Lcs} {rest : List Value} {cu : Nat × Nat} {Q : Res → Mem → Prop} {σ : Mem} : aftr k M m pc ls rest cu Q (.inl none) σ = k m (pc + 3) ls rest cu σ Q := rfl
theorem aftr_s {k : Cont} {M : Nat → Option MI} {m pc : Nat} {ls : Lcs} {rest : List Value} {cu : Nat × Nat} {Q : Res → Mem → Prop} {v : Value} {σ : Mem} : aftr k M m pc ls rest cu Q (.inl (some v)) σ = k m (pc + 3) ls (v :: rest) cu σ Q := rfl
theorem v1_16 {z : P0} {ls : Lcs} {st : List Value} {c n : Nat} {K : Nat → Nat × Nat} {I : Nat → Nat → Int32} {R : Nat → Nat → Option Nat} {L : Nat → Nat → Int64} {sz : Nat} {ex : Bool} {Q : Res → Mem → Prop} {x : Nat} {a0 : Int32} : X z 1 16 ls (.int a0 :: .ref x :: st) (0, 0) (K, I, R, L, sz, ex) Q = ((K x).1 = 100 ∧ wsum st ≤ 8 ∧ X z 3 0 [some (.ref x), some (.int a0), none] [] (0, 0) (K, I, R, L, sz, ex) (aftr (X z) mT 1 16 ls st (0, 0) Q)) := by
  rw [x1_16]
  refine (inv_v (As := [.int a0]) (rm := mi1) (ry := mi3) rfl rfl (by decide) rfl rfl (Nat.le_of_ble_eq_true rfl) rfl rfl).trans ?_
  refine congrArg _ ?_
  exact Eq.trans (congrArg _ (and_t (Nat.zero_le _))) (congrArg _ (and_t (Nat.zero_le _)))
theorem v1_39 {z : P0} {ls : Lcs} {st : List Value} {c n : Nat} {K : Nat → Nat × Nat} {I : Nat → Nat → Int32} {R : Nat → Nat → Option Nat} {L : Nat → Nat → Int64} {sz : Nat} {ex : Bool} {Q : Res → Mem → Prop}  {a0 : Int32} {a1 : Int32} : X z 1 39 ls (.int a1 :: .int a0 :: st) (0, 0) (K, I, R, L, sz, ex) Q = (wsum st ≤ 8 ∧ X z 4 0 [some (.int a0), some (.int a1)] [] (0, 0) (K, I, R, L, sz, ex) (aftr (X z) mT 1 39 ls st (0, 0) Q)) := by
  rw [x1_39]
  refine (inv_s (As := [.int a0, .int a1]) (rm := mi1) (ry := mi4) rfl rfl (by decide) rfl rfl (Nat.le_of_ble_eq_true rfl) rfl (by decide)).trans ?_
  exact Eq.trans (congrArg _ (and_t (Nat.zero_le _))) (congrArg _ (and_t (Nat.zero_le _)))
theorem v2_25 {z : P0} {ls : Lcs} {st : List Value} {c n : Nat} {K : Nat → Nat × Nat} {I : Nat → Nat → Int32} {R : Nat → Nat → Option Nat} {L : Nat → Nat → Int64} {sz : Nat} {ex : Bool} {Q : Res → Mem → Prop} {x : Nat} {a0 : Int32} : X z 2 25 ls (.int a0 :: .ref x :: st) (0, 0) (K, I, R, L, sz, ex) Q = ((K x).1 = 100 ∧ wsum st ≤ 8 ∧ X z 3 0 [some (.ref x), some (.int a0), none] [] (0, 0) (K, I, R, L, sz, ex) (aftr (X z) mT 2 25 ls st (0, 0) Q)) := by
  rw [x2_25]
  refine (inv_v (As := [.int a0]) (rm := mi2) (ry := mi3) rfl rfl (by decide) rfl rfl (Nat.le_of_ble_eq_true rfl) rfl rfl).trans ?_
  refine congrArg _ ?_
  exact Eq.trans (congrArg _ (and_t (Nat.zero_le _))) (congrArg _ (and_t (Nat.zero_le _)))
theorem v2_60 {z : P0} {ls : Lcs} {st : List Value} {c n : Nat} {K : Nat → Nat × Nat} {I : Nat → Nat → Int32} {R : Nat → Nat → Option Nat} {L : Nat → Nat → Int64} {sz : Nat} {ex : Bool} {Q : Res → Mem → Prop}  {a0 : Int32} {a1 : Int32} : X z 2 60 ls (.int a1 :: .int a0 :: st) (0, 0) (K, I, R, L, sz, ex) Q = (wsum st ≤ 8 ∧ X z 4 0 [some (.int a0), some (.int a1)] [] (0, 0) (K, I, R, L, sz, ex) (aftr (X z) mT 2 60 ls st (0, 0) Q)) := by
  rw [x2_60]
  refine (inv_s (As := [.int a0, .int a1]) (rm := mi2) (ry := mi4) rfl rfl (by decide) rfl rfl (Nat.le_of_ble_eq_true rfl) rfl (by decide)).trans ?_
  exact Eq.trans (congrArg _ (and_t (Nat.zero_le _))) (congrArg _ (and_t (Nat.zero_le _)))
theorem v3_22 {z : P0} {ls : Lcs} {st : List Value} {c n : Nat} {K : Nat → Nat × Nat} {I : Nat → Nat → Int32} {R : Nat → Nat → Option Nat} {L : Nat → Nat → Int64} {sz : Nat} {ex : Bool} {Q : Res → Mem → Prop}  {a0 : Int32} : X z 3 22 ls (.int a0 :: st) (0, 0) (K, I, R, L, sz, ex) Q = (wsum st ≤ 8 ∧ X z 88 0 [some (.int a0)] [] (0, 0) (K, I, R, L, sz, ex) (aftr (X z) mT 3 22 ls st (0, 0) Q)) := by
  rw [x3_22]
  refine (inv_s (As := [.int a0]) (rm := mi3) (ry := mi88) rfl rfl (by decide) rfl rfl (Nat.le_of_ble_eq_true rfl) rfl (by decide)).trans ?_
  exact Eq.trans (congrArg _ (and_t (Nat.zero_le _))) (congrArg _ (and_t (Nat.zero_le _)))
theorem v4_45 {z : P0} {ls : Lcs} {st : List Value} {c n : Nat} {K : Nat → Nat × Nat} {I : Nat → Nat → Int32} {R : Nat → Nat → Option Nat} {L : Nat → Nat → Int64} {sz : Nat} {ex : Bool} {Q : Res → Mem → Prop}  {a0 : Int32} : X z 4 45 ls (.int a0 :: st) (0, 0) (K, I, R, L, sz, ex) Q = (wsum st ≤ 8 ∧ X z 7 0 [some (.int a0)] [] (0, 0) (K, I, R, L, sz, ex) (aftr (X z) mT 4 45 ls st (0, 0) Q)) := by
  rw [x4_45]
  refine (inv_s (As := [.int a0]) (rm := mi4) (ry := mi7) rfl rfl (by decide) rfl rfl (Nat.le_of_ble_eq_true rfl) rfl (by decide)).trans ?_
  exact Eq.trans (congrArg _ (and_t (Nat.zero_le _))) (congrArg _ (and_t (Nat.zero_le _)))
theorem v4_59 {z : P0} {ls : Lcs} {st : List Value} {c n : Nat} {K : Nat → Nat × Nat} {I : Nat → Nat → Int32} {R : Nat → Nat → Option Nat} {L : Nat → Nat → Int64} {sz : Nat} {ex : Bool} {Q : Res → Mem → Prop}  {a0 : Int32} : X z 4 59 ls (.int a0 :: st) (0, 0) (K, I, R, L, sz, ex) Q = (wsum st ≤ 8 ∧ X z 7 0 [some (.int a0)] [] (0, 0) (K, I, R, L, sz, ex) (aftr (X z) mT 4 59 ls st (0, 0) Q)) := by
  rw [x4_59]
  refine (inv_s (As := [.int a0]) (rm := mi4) (ry := mi7) rfl rfl (by decide) rfl rfl (Nat.le_of_ble_eq_true rfl) rfl (by decide)).trans ?_
  exact Eq.trans (congrArg _ (and_t (Nat.zero_le _))) (congrArg _ (and_t (Nat.zero_le _)))
theorem v4_100 {z : P0} {ls : Lcs} {st : List Value} {c n : Nat} {K : Nat → Nat × Nat} {I : Nat → Nat → Int32} {R : Nat → Nat → Option Nat} {L : Nat → Nat → Int64} {sz : Nat} {ex : Bool} {Q : Res → Mem → Prop}  {a0 : Int32} : X z 4 100 ls (.int a0 :: st) (0, 0) (K, I, R, L, sz, ex) Q = (wsum st ≤ 8 ∧ X z 5 0 [some (.int a0)] [] (0, 0) (K, I, R, L, sz, ex) (aftr (X z) mT 4 100 ls st (0, 0) Q)) := by
  rw [x4_100]
  refine (inv_s (As := [.int a0]) (rm := mi4) (ry := mi5) rfl rfl (by decide) rfl rfl (Nat.le_of_ble_eq_true rfl) rfl (by decide)).trans ?_
  exact Eq.trans (congrArg _ (and_t (Nat.zero_le _))) (congrArg _ (and_t (Nat.zero_le _)))
theorem v4_105 {z : P0} {ls : Lcs} {st : List Value} {c n : Nat} {K : Nat → Nat × Nat} {I : Nat → Nat → Int32} {R : Nat → Nat → Option Nat} {L : Nat → Nat → Int64} {sz : Nat} {ex : Bool} {Q : Res → Mem → Prop}  {a0 : Int32} : X z 4 105 ls (.int a0 :: st) (0, 0) (K, I, R, L, sz, ex) Q = (wsum st ≤ 8 ∧ X z 6 0 [some (.int a0)] [] (0, 0) (K, I, R, L, sz, ex) (aftr (X z) mT 4 105 ls st (0, 0) Q)) := by
  rw [x4_105]
  refine (inv_s (As := [.int a0]) (rm := mi4) (ry := mi6) rfl rfl (by decide) rfl rfl (Nat.le_of_ble_eq_true rfl) rfl (by decide)).trans ?_
  exact Eq.trans (congrArg _ (and_t (Nat.zero_le _))) (congrArg _ (and_t (Nat.zero_le _)))
theorem v4_120 {z : P0} {ls : Lcs} {st : List Value} {c n : Nat} {K : Nat → Nat × Nat} {I : Nat → Nat → Int32} {R : Nat → Nat → Option Nat} {L : Nat → Nat → Int64} {sz : Nat} {ex : Bool} {Q : Res → Mem → Prop}  {a0 : Int32} : X z 4 120 ls (.int a0 :: st) (0, 0) (K, I, R, L, sz, ex) Q = (wsum st ≤ 8 ∧ X z 6 0 [some (.int a0)] [] (0, 0) (K, I, R, L, sz, ex) (aftr (X z) mT 4 120 ls st (0, 0) Q)) := by
  rw [x4_120]
  refine (inv_s (As := [.int a0]) (rm := mi4) (ry := mi6) rfl rfl (by decide) rfl rfl (Nat.le_of_ble_eq_true rfl) rfl (by decide)).trans ?_
  exact Eq.trans (congrArg _ (and_t (Nat.zero_le _))) (congrArg _ (and_t (Nat.zero_le _)))
theorem v5_17 {z : P0} {ls : Lcs} {st : List Value} {c n : Nat} {K : Nat → Nat × Nat} {I : Nat → Nat → Int32} {R : Nat → Nat → Option Nat} {L : Nat → Nat → Int64} {sz : Nat} {ex : Bool} {Q : Res → Mem → Prop}  {a0 : Int32} : X z 5 17 ls (.int a0 :: st) (0, 0) (K, I, R, L, sz, ex) Q = (wsum st ≤ 8 ∧ X z 8 0 [some (.int a0)] [] (0, 0) (K, I, R, L, sz, ex) (aftr (X z) mT 5 17 ls st (0, 0) Q)) := by
  rw [x5_17]
  refine (inv_s (As := [.int a0]) (rm := mi5) (ry := mi8) rfl rfl (by decide) rfl rfl (Nat.le_of_ble_eq_true rfl) rfl (by decide)).trans ?_
  exact Eq.trans (congrArg _ (and_t (Nat.zero_le _))) (congrArg _ (and_t (Nat.zero_le _)))
theorem v6_9 {z : P0} {ls : Lcs} {st : List Value} {c n : Nat} {K : Nat → Nat × Nat} {I : Nat → Nat → Int32} {R : Nat → Nat → Option Nat} {L : Nat → Nat → Int64} {sz : Nat} {ex : Bool} {Q : Res → Mem → Prop}  {a0 : Int32} : X z 6 9 ls (.int a0 :: st) (0, 0) (K, I, R, L, sz, ex) Q = (wsum st ≤ 8 ∧ X z 8 0 [some (.int a0)] [] (0, 0) (K, I, R, L, sz, ex) (aftr (X z) mT 6 9 ls st (0, 0) Q)) := by
  rw [x6_9]
  refine (inv_s (As := [.int a0]) (rm := mi6) (ry := mi8) rfl rfl (by decide) rfl rfl (Nat.le_of_ble_eq_true rfl) rfl (by decide)).trans ?_
  exact Eq.trans (congrArg _ (and_t (Nat.zero_le _))) (congrArg _ (and_t (Nat.zero_le _)))
theorem v8_1 {z : P0} {ls : Lcs} {st : List Value} {c n : Nat} {K : Nat → Nat × Nat} {I : Nat → Nat → Int32} {R : Nat → Nat → Option Nat} {L : Nat → Nat → Int64} {sz : Nat} {ex : Bool} {Q : Res → Mem → Prop}  {a0 : Int32} : X z 8 1 ls (.int a0 :: st) (0, 0) (K, I, R, L, sz, ex) Q = (wsum st ≤ 8 ∧ X z 88 0 [some (.int a0)] [] (0, 0) (K, I, R, L, sz, ex) (aftr (X z) mT 8 1 ls st (0, 0) Q)) := by
  rw [x8_1]
  refine (inv_s (As := [.int a0]) (rm := mi8) (ry := mi88) rfl rfl (by decide) rfl rfl (Nat.le_of_ble_eq_true rfl) rfl (by decide)).trans ?_
  exact Eq.trans (congrArg _ (and_t (Nat.zero_le _))) (congrArg _ (and_t (Nat.zero_le _)))
theorem v10_107 {z : P0} {ls : Lcs} {st : List Value} {c n : Nat} {K : Nat → Nat × Nat} {I : Nat → Nat → Int32} {R : Nat → Nat → Option Nat} {L : Nat → Nat → Int64} {sz : Nat} {ex : Bool} {Q : Res → Mem → Prop} {x : Nat} {a0 : Int32} {a1 : Nat} {a2 : Nat} : X z 10 107 ls (.ref a2 :: .ref a1 :: .int a0 :: .ref x :: st) (0, 0) (K, I, R, L, sz, ex) Q = ((K x).1 = 101 ∧ wsum st ≤ 8 ∧ X z 11 0 [some (.ref x), some (.int a0), some (.ref a1), some (.ref a2)] [] (0, 0) (K, I, R, L, sz, ex) (aftr (X z) mT 10 107 ls st (0, 0) Q)) := by
  rw [x10_107]
  refine (inv_v (As := [.int a0, .ref a1, .ref a2]) (rm := mi10) (ry := mi11) rfl rfl (by decide) rfl rfl (Nat.le_of_ble_eq_true rfl) rfl rfl).trans ?_
  refine congrArg _ ?_
  exact Eq.trans (congrArg _ (and_t (Nat.zero_le _))) (congrArg _ (and_t (Nat.zero_le _)))
theorem v10_124 {z : P0} {ls : Lcs} {st : List Value} {c n : Nat} {K : Nat → Nat × Nat} {I : Nat → Nat → Int32} {R : Nat → Nat → Option Nat} {L : Nat → Nat → Int64} {sz : Nat} {ex : Bool} {Q : Res → Mem → Prop} {x : Nat} {a0 : Int32} : X z 10 124 ls (.int a0 :: .ref x :: st) (0, 0) (K, I, R, L, sz, ex) Q = ((K x).1 = 101 ∧ wsum st ≤ 8 ∧ X z 19 0 [some (.ref x), some (.int a0)] [] (0, 0) (K, I, R, L, sz, ex) (aftr (X z) mT 10 124 ls st (0, 0) Q)) := by
  rw [x10_124]
  refine (inv_v (As := [.int a0]) (rm := mi10) (ry := mi19) rfl rfl (by decide) rfl rfl (Nat.le_of_ble_eq_true rfl) rfl rfl).trans ?_
  refine congrArg _ ?_
  exact Eq.trans (congrArg _ (and_t (Nat.zero_le _))) (congrArg _ (and_t (Nat.zero_le _)))
theorem v11_9 {z : P0} {ls : Lcs} {st : List Value} {c n : Nat} {K : Nat → Nat × Nat} {I : Nat → Nat → Int32} {R : Nat → Nat → Option Nat} {L : Nat → Nat → Int64} {sz : Nat} {ex : Bool} {Q : Res → Mem → Prop} {x : Nat} {a0 : Nat} {a1 : Nat} : X z 11 9 ls (.ref a1 :: .ref a0 :: .ref x :: st) (0, 0) (K, I, R, L, sz, ex) Q = ((K x).1 = 101 ∧ wsum st ≤ 8 ∧ X z 12 0 [some (.ref x), some (.ref a0), some (.ref a1), none, none] [] (0, 0) (K, I, R, L, sz, ex) (aftr (X z) mT 11 9 ls st (0, 0) Q)) := by
  rw [x11_9]
  refine (inv_v (As := [.ref a0, .ref a1]) (rm := mi11) (ry := mi12) rfl rfl (by decide) rfl rfl (Nat.le_of_ble_eq_true rfl) rfl rfl).trans ?_
  refine congrArg _ ?_
  exact Eq.trans (congrArg _ (and_t (Nat.zero_le _))) (congrArg _ (and_t (Nat.zero_le _)))
theorem v11_24 {z : P0} {ls : Lcs} {st : List Value} {c n : Nat} {K : Nat → Nat × Nat} {I : Nat → Nat → Int32} {R : Nat → Nat → Option Nat} {L : Nat → Nat → Int64} {sz : Nat} {ex : Bool} {Q : Res → Mem → Prop} {x : Nat} {a0 : Nat} {a1 : Nat} : X z 11 24 ls (.ref a1 :: .ref a0 :: .ref x :: st) (0, 0) (K, I, R, L, sz, ex) Q = ((K x).1 = 101 ∧ wsum st ≤ 8 ∧ X z 13 0 [some (.ref x), some (.ref a0), some (.ref a1), none, none] [] (0, 0) (K, I, R, L, sz, ex) (aftr (X z) mT 11 24 ls st (0, 0) Q)) := by
  rw [x11_24]
  refine (inv_v (As := [.ref a0, .ref a1]) (rm := mi11) (ry := mi13) rfl rfl (by decide) rfl rfl (Nat.le_of_ble_eq_true rfl) rfl rfl).trans ?_
  refine congrArg _ ?_
  exact Eq.trans (congrArg _ (and_t (Nat.zero_le _))) (congrArg _ (and_t (Nat.zero_le _)))
theorem v11_39 {z : P0} {ls : Lcs} {st : List Value} {c n : Nat} {K : Nat → Nat × Nat} {I : Nat → Nat → Int32} {R : Nat → Nat → Option Nat} {L : Nat → Nat → Int64} {sz : Nat} {ex : Bool} {Q : Res → Mem → Prop} {x : Nat} {a0 : Nat} {a1 : Nat} : X z 11 39 ls (.ref a1 :: .ref a0 :: .ref x :: st) (0, 0) (K, I, R, L, sz, ex) Q = ((K x).1 = 101 ∧ wsum st ≤ 8 ∧ X z 15 0 [some (.ref x), some (.ref a0), some (.ref a1), none, none, none] [] (0, 0) (K, I, R, L, sz, ex) (aftr (X z) mT 11 39 ls st (0, 0) Q)) := by
  rw [x11_39]
  refine (inv_v (As := [.ref a0, .ref a1]) (rm := mi11) (ry := mi15) rfl rfl (by decide) rfl rfl (Nat.le_of_ble_eq_true rfl) rfl rfl).trans ?_
  refine congrArg _ ?_
  exact Eq.trans (congrArg _ (and_t (Nat.zero_le _))) (congrArg _ (and_t (Nat.zero_le _)))
theorem v11_53 {z : P0} {ls : Lcs} {st : List Value} {c n : Nat} {K : Nat → Nat × Nat} {I : Nat → Nat → Int32} {R : Nat → Nat → Option Nat} {L : Nat → Nat → Int64} {sz : Nat} {ex : Bool} {Q : Res → Mem → Prop} {x : Nat} {a0 : Int32} : X z 11 53 ls (.int a0 :: .ref x :: st) (0, 0) (K, I, R, L, sz, ex) Q = ((K x).1 = 101 ∧ wsum st ≤ 8 ∧ X z 19 0 [some (.ref x), some (.int a0)] [] (0, 0) (K, I, R, L, sz, ex) (aftr (X z) mT 11 53 ls st (0, 0) Q)) := by
  rw [x11_53]
  refine (inv_v (As := [.int a0]) (rm := mi11) (ry := mi19) rfl rfl (by decide) rfl rfl (Nat.le_of_ble_eq_true rfl) rfl rfl).trans ?_
  refine congrArg _ ?_
  exact Eq.trans (congrArg _ (and_t (Nat.zero_le _))) (congrArg _ (and_t (Nat.zero_le _)))
theorem v12_45 {z : P0} {ls : Lcs} {st : List Value} {c n : Nat} {K : Nat → Nat × Nat} {I : Nat → Nat → Int32} {R : Nat → Nat → Option Nat} {L : Nat → Nat → Int64} {sz : Nat} {ex : Bool} {Q : Res → Mem → Prop} {x : Nat} {a0 : Int32} : X z 12 45 ls (.int a0 :: .ref x :: st) (0, 0) (K, I, R, L, sz, ex) Q = ((K x).1 = 101 ∧ wsum st ≤ 8 ∧ X z 19 0 [some (.ref x), some (.int a0)] [] (0, 0) (K, I, R, L, sz, ex) (aftr (X z) mT 12 45 ls st (0, 0) Q)) := by
  rw [x12_45]
  refine (inv_v (As := [.int a0]) (rm := mi12) (ry := mi19) rfl rfl (by decide) rfl rfl (Nat.le_of_ble_eq_true rfl) rfl rfl).trans ?_
  refine congrArg _ ?_
  exact Eq.trans (congrArg _ (and_t (Nat.zero_le _))) (congrArg _ (and_t (Nat.zero_le _)))
theorem v12_59 {z : P0} {ls : Lcs} {st : List Value} {c n : Nat} {K : Nat → Nat × Nat} {I : Nat → Nat → Int32} {R : Nat → Nat → Option Nat} {L : Nat → Nat → Int64} {sz : Nat} {ex : Bool} {Q : Res → Mem → Prop} {x : Nat} {a0 : Nat} {a1 : Int32} : X z 12 59 ls (.int a1 :: .ref a0 :: .ref x :: st) (0, 0) (K, I, R, L, sz, ex) Q = ((K x).1 = 101 ∧ wsum st ≤ 8 ∧ X z 17 0 [some (.ref x), some (.ref a0), some (.int a1), none] [] (0, 0) (K, I, R, L, sz, ex) (aftr (X z) mT 12 59 ls st (0, 0) Q)) := by
  rw [x12_59]
  refine (inv_v (As := [.ref a0, .int a1]) (rm := mi12) (ry := mi17) rfl rfl (by decide) rfl rfl (Nat.le_of_ble_eq_true rfl) rfl rfl).trans ?_
  refine congrArg _ ?_
  exact Eq.trans (congrArg _ (and_t (Nat.zero_le _))) (congrArg _ (and_t (Nat.zero_le _)))
theorem v13_49 {z : P0} {ls : Lcs} {st : List Value} {c n : Nat} {K : Nat → Nat × Nat} {I : Nat → Nat → Int32} {R : Nat → Nat → Option Nat} {L : Nat → Nat → Int64} {sz : Nat} {ex : Bool} {Q : Res → Mem → Prop} {x : Nat} {a0 : Nat} : X z 13 49 ls (.ref a0 :: .ref x :: st) (0, 0) (K, I, R, L, sz, ex) Q = ((K x).1 = 101 ∧ wsum st ≤ 8 ∧ X z 18 0 [some (.ref x), some (.ref a0), none] [] (0, 0) (K, I, R, L, sz, ex) (aftr (X z) mT 13 49 ls st (0, 0) Q)) := by
  rw [x13_49]
  refine (inv_v (As := [.ref a0]) (rm := mi13) (ry := mi18) rfl rfl (by decide) rfl rfl (Nat.le_of_ble_eq_true rfl) rfl rfl).trans ?_
  refine congrArg _ ?_
  exact Eq.trans (congrArg _ (and_t (Nat.zero_le _))) (congrArg _ (and_t (Nat.zero_le _)))
theorem v13_61 {z : P0} {ls : Lcs} {st : List Value} {c n : Nat} {K : Nat → Nat × Nat} {I : Nat → Nat → Int32} {R : Nat → Nat → Option Nat} {L : Nat → Nat → Int64} {sz : Nat} {ex : Bool} {Q : Res → Mem → Prop}  {a0 : Int32} : X z 13 61 ls (.int a0 :: st) (0, 0) (K, I, R, L, sz, ex) Q = (wsum st ≤ 8 ∧ X z 14 0 [some (.int a0)] [] (0, 0) (K, I, R, L, sz, ex) (aftr (X z) mT 13 61 ls st (0, 0) Q)) := by
  rw [x13_61]
  refine (inv_s (As := [.int a0]) (rm := mi13) (ry := mi14) rfl rfl (by decide) rfl rfl (Nat.le_of_ble_eq_true rfl) rfl (by decide)).trans ?_
  exact Eq.trans (congrArg _ (and_t (Nat.zero_le _))) (congrArg _ (and_t (Nat.zero_le _)))
theorem v13_64 {z : P0} {ls : Lcs} {st : List Value} {c n : Nat} {K : Nat → Nat × Nat} {I : Nat → Nat → Int32} {R : Nat → Nat → Option Nat} {L : Nat → Nat → Int64} {sz : Nat} {ex : Bool} {Q : Res → Mem → Prop} {x : Nat} {a0 : Int32} : X z 13 64 ls (.int a0 :: .ref x :: st) (0, 0) (K, I, R, L, sz, ex) Q = ((K x).1 = 101 ∧ wsum st ≤ 8 ∧ X z 19 0 [some (.ref x), some (.int a0)] [] (0, 0) (K, I, R, L, sz, ex) (aftr (X z) mT 13 64 ls st (0, 0) Q)) := by
  rw [x13_64]
  refine (inv_v (As := [.int a0]) (rm := mi13) (ry := mi19) rfl rfl (by decide) rfl rfl (Nat.le_of_ble_eq_true rfl) rfl rfl).trans ?_
  refine congrArg _ ?_
  exact Eq.trans (congrArg _ (and_t (Nat.zero_le _))) (congrArg _ (and_t (Nat.zero_le _)))
theorem v13_78 {z : P0} {ls : Lcs} {st : List Value} {c n : Nat} {K : Nat → Nat × Nat} {I : Nat → Nat → Int32} {R : Nat → Nat → Option Nat} {L : Nat → Nat → Int64} {sz : Nat} {ex : Bool} {Q : Res → Mem → Prop} {x : Nat} {a0 : Int32} : X z 13 78 ls (.int a0 :: .ref x :: st) (0, 0) (K, I, R, L, sz, ex) Q = ((K x).1 = 101 ∧ wsum st ≤ 8 ∧ X z 19 0 [some (.ref x), some (.int a0)] [] (0, 0) (K, I, R, L, sz, ex) (aftr (X z) mT 13 78 ls st (0, 0) Q)) := by
  rw [x13_78]
  refine (inv_v (As := [.int a0]) (rm := mi13) (ry := mi19) rfl rfl (by decide) rfl rfl (Nat.le_of_ble_eq_true rfl) rfl rfl).trans ?_
  refine congrArg _ ?_
  exact Eq.trans (congrArg _ (and_t (Nat.zero_le _))) (congrArg _ (and_t (Nat.zero_le _)))
theorem v15_3 {z : P0} {ls : Lcs} {st : List Value} {c n : Nat} {K : Nat → Nat × Nat} {I : Nat → Nat → Int32} {R : Nat → Nat → Option Nat} {L : Nat → Nat → Int64} {sz : Nat} {ex : Bool} {Q : Res → Mem → Prop} {x : Nat} {a0 : Nat} {a1 : Nat} : X z 15 3 ls (.ref a1 :: .ref a0 :: .ref x :: st) (0, 0) (K, I, R, L, sz, ex) Q = ((K x).1 = 101 ∧ wsum st ≤ 8 ∧ X z 16 0 [some (.ref x), some (.ref a0), some (.ref a1), none, none, none, none] [] (0, 0) (K, I, R, L, sz, ex) (aftr (X z) mT 15 3 ls st (0, 0) Q)) := by
  rw [x15_3]
  refine (inv_v (As := [.ref a0, .ref a1]) (rm := mi15) (ry := mi16) rfl rfl (by decide) rfl rfl (Nat.le_of_ble_eq_true rfl) rfl rfl).trans ?_
  refine congrArg _ ?_
  exact Eq.trans (congrArg _ (and_t (Nat.zero_le _))) (congrArg _ (and_t (Nat.zero_le _)))
theorem v15_51 {z : P0} {ls : Lcs} {st : List Value} {c n : Nat} {K : Nat → Nat × Nat} {I : Nat → Nat → Int32} {R : Nat → Nat → Option Nat} {L : Nat → Nat → Int64} {sz : Nat} {ex : Bool} {Q : Res → Mem → Prop} {x : Nat} {a0 : Int32} : X z 15 51 ls (.int a0 :: .ref x :: st) (0, 0) (K, I, R, L, sz, ex) Q = ((K x).1 = 101 ∧ wsum st ≤ 8 ∧ X z 19 0 [some (.ref x), some (.int a0)] [] (0, 0) (K, I, R, L, sz, ex) (aftr (X z) mT 15 51 ls st (0, 0) Q)) := by
  rw [x15_51]
  refine (inv_v (As := [.int a0]) (rm := mi15) (ry := mi19) rfl rfl (by decide) rfl rfl (Nat.le_of_ble_eq_true rfl) rfl rfl).trans ?_
  refine congrArg _ ?_
  exact Eq.trans (congrArg _ (and_t (Nat.zero_le _))) (congrArg _ (and_t (Nat.zero_le _)))
theorem v15_57 {z : P0} {ls : Lcs} {st : List Value} {c n : Nat} {K : Nat → Nat × Nat} {I : Nat → Nat → Int32} {R : Nat → Nat → Option Nat} {L : Nat → Nat → Int64} {sz : Nat} {ex : Bool} {Q : Res → Mem → Prop} {x : Nat}  : X z 15 57 ls (.ref x :: st) (0, 0) (K, I, R, L, sz, ex) Q = ((K x).1 = 109 ∧ wsum st ≤ 8 ∧ X z 56 0 [some (.ref x), none, none] [] (0, 0) (K, I, R, L, sz, ex) (aftr (X z) mT 15 57 ls st (0, 0) Q)) := by
  rw [x15_57]
  refine (inv_v (As := []) (rm := mi15) (ry := mi56) rfl rfl (by decide) rfl rfl (Nat.le_of_ble_eq_true rfl) rfl rfl).trans ?_
  refine congrArg _ ?_
  exact Eq.trans (congrArg _ (and_t (Nat.zero_le _))) (congrArg _ (and_t (Nat.zero_le _)))
theorem v15_60 {z : P0} {ls : Lcs} {st : List Value} {c n : Nat} {K : Nat → Nat × Nat} {I : Nat → Nat → Int32} {R : Nat → Nat → Option Nat} {L : Nat → Nat → Int64} {sz : Nat} {ex : Bool} {Q : Res → Mem → Prop} {x : Nat} {a0 : Nat} : X z 15 60 ls (.ref a0 :: .ref x :: st) (0, 0) (K, I, R, L, sz, ex) Q = ((K x).1 = 101 ∧ wsum st ≤ 8 ∧ X z 18 0 [some (.ref x), some (.ref a0), none] [] (0, 0) (K, I, R, L, sz, ex) (aftr (X z) mT 15 60 ls st (0, 0) Q)) := by
  rw [x15_60]
  refine (inv_v (As := [.ref a0]) (rm := mi15) (ry := mi18) rfl rfl (by decide) rfl rfl (Nat.le_of_ble_eq_true rfl) rfl rfl).trans ?_
  refine congrArg _ ?_
  exact Eq.trans (congrArg _ (and_t (Nat.zero_le _))) (congrArg _ (and_t (Nat.zero_le _)))
theorem v15_66 {z : P0} {ls : Lcs} {st : List Value} {c n : Nat} {K : Nat → Nat × Nat} {I : Nat → Nat → Int32} {R : Nat → Nat → Option Nat} {L : Nat → Nat → Int64} {sz : Nat} {ex : Bool} {Q : Res → Mem → Prop} {x : Nat} {a0 : Int32} : X z 15 66 ls (.int a0 :: .ref x :: st) (0, 0) (K, I, R, L, sz, ex) Q = ((K x).1 = 101 ∧ wsum st ≤ 8 ∧ X z 19 0 [some (.ref x), some (.int a0)] [] (0, 0) (K, I, R, L, sz, ex) (aftr (X z) mT 15 66 ls st (0, 0) Q)) := by
  rw [x15_66]
  refine (inv_v (As := [.int a0]) (rm := mi15) (ry := mi19) rfl rfl (by decide) rfl rfl (Nat.le_of_ble_eq_true rfl) rfl rfl).trans ?_
  refine congrArg _ ?_
  exact Eq.trans (congrArg _ (and_t (Nat.zero_le _))) (congrArg _ (and_t (Nat.zero_le _)))
theorem v15_80 {z : P0} {ls : Lcs} {st : List Value} {c n : Nat} {K : Nat → Nat × Nat} {I : Nat → Nat → Int32} {R : Nat → Nat → Option Nat} {L : Nat → Nat → Int64} {sz : Nat} {ex : Bool} {Q : Res → Mem → Prop} {x : Nat} {a0 : Nat} {a1 : Int32} : X z 15 80 ls (.int a1 :: .ref a0 :: .ref x :: st) (0, 0) (K, I, R, L, sz, ex) Q = ((K x).1 = 101 ∧ wsum st ≤ 8 ∧ X z 17 0 [some (.ref x), some (.ref a0), some (.int a1), none] [] (0, 0) (K, I, R, L, sz, ex) (aftr (X z) mT 15 80 ls st (0, 0) Q)) := by
  rw [x15_80]
  refine (inv_v (As := [.ref a0, .int a1]) (rm := mi15) (ry := mi17) rfl rfl (by decide) rfl rfl (Nat.le_of_ble_eq_true rfl) rfl rfl).trans ?_
  refine congrArg _ ?_
  exact Eq.trans (congrArg _ (and_t (Nat.zero_le _))) (congrArg _ (and_t (Nat.zero_le _)))
theorem v18_4 {z : P0} {ls : Lcs} {st : List Value} {c n : Nat} {K : Nat → Nat × Nat} {I : Nat → Nat → Int32} {R : Nat → Nat → Option Nat} {L : Nat → Nat → Int64} {sz : Nat} {ex : Bool} {Q : Res → Mem → Prop} {x : Nat}  : X z 18 4 ls (.ref x :: st) (0, 0) (K, I, R, L, sz, ex) Q = ((K x).1 = 52 ∧ wsum st ≤ 8 ∧ X z 185 0 [some (.ref x)] [] (0, 0) (K, I, R, L, sz, ex) (aftr (X z) mT 18 4 ls st (0, 0) Q)) := by
  rw [x18_4]
  refine (inv_v (As := []) (rm := mi18) (ry := mi185) rfl rfl (by decide) rfl rfl (Nat.le_of_ble_eq_true rfl) rfl rfl).trans ?_
  refine congrArg _ ?_
  exact Eq.trans (congrArg _ (and_t (Nat.zero_le _))) (congrArg _ (and_t (Nat.zero_le _)))
theorem v18_30 {z : P0} {ls : Lcs} {st : List Value} {c n : Nat} {K : Nat → Nat × Nat} {I : Nat → Nat → Int32} {R : Nat → Nat → Option Nat} {L : Nat → Nat → Int64} {sz : Nat} {ex : Bool} {Q : Res → Mem → Prop} {x : Nat} {a0 : Int32} : X z 18 30 ls (.int a0 :: .ref x :: st) (0, 0) (K, I, R, L, sz, ex) Q = ((K x).1 = 52 ∧ wsum st ≤ 8 ∧ X z 186 0 [some (.ref x), some (.int a0)] [] (0, 0) (K, I, R, L, sz, ex) (aftr (X z) mT 18 30 ls st (0, 0) Q)) := by
  rw [x18_30]
  refine (inv_v (As := [.int a0]) (rm := mi18) (ry := mi186) rfl rfl (by decide) rfl rfl (Nat.le_of_ble_eq_true rfl) rfl rfl).trans ?_
  refine congrArg _ ?_
  exact Eq.trans (congrArg _ (and_t (Nat.zero_le _))) (congrArg _ (and_t (Nat.zero_le _)))
theorem v23_30 {z : P0} {ls : Lcs} {st : List Value} {c n : Nat} {K : Nat → Nat × Nat} {I : Nat → Nat → Int32} {R : Nat → Nat → Option Nat} {L : Nat → Nat → Int64} {sz : Nat} {ex : Bool} {Q : Res → Mem → Prop} {x : Nat}  : X z 23 30 ls (.ref x :: st) (c, n) (K, I, R, L, sz, ex) Q = ((K x).1 = 108 ∧ wsum st ≤ 8 ∧ c + 65 ≤ 397 ∧ n + 528 ≤ 3234 ∧ X z 47 0 [some (.ref x), none] [] (0, 0) (K, I, R, L, sz, ex) (aftr (X z) mT 23 30 ls st (c + 65, n + 528) Q)) := by
  rw [x23_30]
  exact inv_i (As := []) (rm := mi23) (ry := mi47) rfl rfl (by decide) rfl rfl (Nat.le_of_ble_eq_true rfl) rfl rfl (by decide)
theorem v24_10 {z : P0} {ls : Lcs} {st : List Value} {c n : Nat} {K : Nat → Nat × Nat} {I : Nat → Nat → Int32} {R : Nat → Nat → Option Nat} {L : Nat → Nat → Int64} {sz : Nat} {ex : Bool} {Q : Res → Mem → Prop} {x : Nat}  : X z 24 10 ls (.ref x :: st) (0, 0) (K, I, R, L, sz, ex) Q = ((K x).1 = 103 ∧ wsum st ≤ 8 ∧ X z 26 0 [some (.ref x), none, none] [] (0, 0) (K, I, R, L, sz, ex) (aftr (X z) mT 24 10 ls st (0, 0) Q)) := by
  rw [x24_10]
  refine (inv_v (As := []) (rm := mi24) (ry := mi26) rfl rfl (by decide) rfl rfl (Nat.le_of_ble_eq_true rfl) rfl rfl).trans ?_
  refine congrArg _ ?_
  exact Eq.trans (congrArg _ (and_t (Nat.zero_le _))) (congrArg _ (and_t (Nat.zero_le _)))
theorem v24_23 {z : P0} {ls : Lcs} {st : List Value} {c n : Nat} {K : Nat → Nat × Nat} {I : Nat → Nat → Int32} {R : Nat → Nat → Option Nat} {L : Nat → Nat → Int64} {sz : Nat} {ex : Bool} {Q : Res → Mem → Prop} {x : Nat} {a0 : Nat} : X z 24 23 ls (.ref a0 :: .ref x :: st) (0, 0) (K, I, R, L, sz, ex) Q = ((K x).1 = 108 ∧ wsum st ≤ 8 ∧ X z 48 0 [some (.ref x), some (.ref a0), none] [] (0, 0) (K, I, R, L, sz, ex) (aftr (X z) mT 24 23 ls st (0, 0) Q)) := by
  rw [x24_23]
  refine (inv_v (As := [.ref a0]) (rm := mi24) (ry := mi48) rfl rfl (by decide) rfl rfl (Nat.le_of_ble_eq_true rfl) rfl rfl).trans ?_
  refine congrArg _ ?_
  exact Eq.trans (congrArg _ (and_t (Nat.zero_le _))) (congrArg _ (and_t (Nat.zero_le _)))
theorem v28_4 {z : P0} {ls : Lcs} {st : List Value} {c n : Nat} {K : Nat → Nat × Nat} {I : Nat → Nat → Int32} {R : Nat → Nat → Option Nat} {L : Nat → Nat → Int64} {sz : Nat} {ex : Bool} {Q : Res → Mem → Prop}  {a0 : Int32} {a1 : Int32} : X z 28 4 ls (.int a1 :: .int a0 :: st) (0, 0) (K, I, R, L, sz, ex) Q = (wsum st ≤ 8 ∧ X z 184 0 [some (.int a0), some (.int a1)] [] (0, 0) (K, I, R, L, sz, ex) (aftr (X z) mT 28 4 ls st (0, 0) Q)) := by
  rw [x28_4]
  refine (inv_s (As := [.int a0, .int a1]) (rm := mi28) (ry := mi184) rfl rfl (by decide) rfl rfl (Nat.le_of_ble_eq_true rfl) rfl (by decide)).trans ?_
  exact Eq.trans (congrArg _ (and_t (Nat.zero_le _))) (congrArg _ (and_t (Nat.zero_le _)))
theorem v30_35 {z : P0} {ls : Lcs} {st : List Value} {c n : Nat} {K : Nat → Nat × Nat} {I : Nat → Nat → Int32} {R : Nat → Nat → Option Nat} {L : Nat → Nat → Int64} {sz : Nat} {ex : Bool} {Q : Res → Mem → Prop} {x : Nat}  : X z 30 35 ls (.ref x :: st) (0, 0) (K, I, R, L, sz, ex) Q = ((K x).1 = 104 ∧ wsum st ≤ 8 ∧ X z 29 0 [some (.ref x), none, none] [] (0, 0) (K, I, R, L, sz, ex) (aftr (X z) mT 30 35 ls st (0, 0) Q)) := by
  rw [x30_35]
  refine (inv_v (As := []) (rm := mi30) (ry := mi29) rfl rfl (by decide) rfl rfl (Nat.le_of_ble_eq_true rfl) rfl rfl).trans ?_
  refine congrArg _ ?_
  exact Eq.trans (congrArg _ (and_t (Nat.zero_le _))) (congrArg _ (and_t (Nat.zero_le _)))
theorem v34_49 {z : P0} {ls : Lcs} {st : List Value} {c n : Nat} {K : Nat → Nat × Nat} {I : Nat → Nat → Int32} {R : Nat → Nat → Option Nat} {L : Nat → Nat → Int64} {sz : Nat} {ex : Bool} {Q : Res → Mem → Prop} {x : Nat} {a0 : Int32} {a1 : Int32} {a2 : Int32} : X z 34 49 ls (.int a2 :: .int a1 :: .int a0 :: .ref x :: st) (0, 0) (K, I, R, L, sz, ex) Q = ((K x).1 = 105 ∧ wsum st ≤ 8 ∧ X z 35 0 [some (.ref x), some (.int a0), some (.int a1), some (.int a2), none] [] (0, 0) (K, I, R, L, sz, ex) (aftr (X z) mT 34 49 ls st (0, 0) Q)) := by
  rw [x34_49]
  refine (inv_v (As := [.int a0, .int a1, .int a2]) (rm := mi34) (ry := mi35) rfl rfl (by decide) rfl rfl (Nat.le_of_ble_eq_true rfl) rfl rfl).trans ?_
  refine congrArg _ ?_
  exact Eq.trans (congrArg _ (and_t (Nat.zero_le _))) (congrArg _ (and_t (Nat.zero_le _)))
theorem v36_72 {z : P0} {ls : Lcs} {st : List Value} {c n : Nat} {K : Nat → Nat × Nat} {I : Nat → Nat → Int32} {R : Nat → Nat → Option Nat} {L : Nat → Nat → Int64} {sz : Nat} {ex : Bool} {Q : Res → Mem → Prop} {x : Nat}  : X z 36 72 ls (.ref x :: st) (c, n) (K, I, R, L, sz, ex) Q = ((K x).1 = 102 ∧ wsum st ≤ 8 ∧ c + 1 ≤ 45 ∧ n + 6 ≤ 382 ∧ X z 20 0 [some (.ref x)] [] (0, 0) (K, I, R, L, sz, ex) (aftr (X z) mT 36 72 ls st (c + 1, n + 6) Q)) := by
  rw [x36_72]
  exact inv_i (As := []) (rm := mi36) (ry := mi20) rfl rfl (by decide) rfl rfl (Nat.le_of_ble_eq_true rfl) rfl rfl (by decide)
theorem v38_18 {z : P0} {ls : Lcs} {st : List Value} {c n : Nat} {K : Nat → Nat × Nat} {I : Nat → Nat → Int32} {R : Nat → Nat → Option Nat} {L : Nat → Nat → Int64} {sz : Nat} {ex : Bool} {Q : Res → Mem → Prop} {x : Nat} {a0 : Nat} {a1 : Nat} : X z 38 18 ls (.ref a1 :: .ref a0 :: .ref x :: st) (0, 0) (K, I, R, L, sz, ex) Q = ((K x).1 = 106 ∧ wsum st ≤ 8 ∧ X z 40 0 [some (.ref x), some (.ref a0), some (.ref a1), none, none, none] [] (0, 0) (K, I, R, L, sz, ex) (aftr (X z) mT 38 18 ls st (0, 0) Q)) := by
  rw [x38_18]
  refine (inv_v (As := [.ref a0, .ref a1]) (rm := mi38) (ry := mi40) rfl rfl (by decide) rfl rfl (Nat.le_of_ble_eq_true rfl) rfl rfl).trans ?_
  refine congrArg _ ?_
  exact Eq.trans (congrArg _ (and_t (Nat.zero_le _))) (congrArg _ (and_t (Nat.zero_le _)))
theorem v38_46 {z : P0} {ls : Lcs} {st : List Value} {c n : Nat} {K : Nat → Nat × Nat} {I : Nat → Nat → Int32} {R : Nat → Nat → Option Nat} {L : Nat → Nat → Int64} {sz : Nat} {ex : Bool} {Q : Res → Mem → Prop} {x : Nat} {a0 : Nat} {a1 : Nat} : X z 38 46 ls (.ref a1 :: .ref a0 :: .ref x :: st) (0, 0) (K, I, R, L, sz, ex) Q = ((K x).1 = 101 ∧ wsum st ≤ 8 ∧ X z 10 0 [some (.ref x), some (.ref a0), some (.ref a1), none, none, none, none] [] (0, 0) (K, I, R, L, sz, ex) (aftr (X z) mT 38 46 ls st (0, 0) Q)) := by
  rw [x38_46]
  refine (inv_v (As := [.ref a0, .ref a1]) (rm := mi38) (ry := mi10) rfl rfl (by decide) rfl rfl (Nat.le_of_ble_eq_true rfl) rfl rfl).trans ?_
  refine congrArg _ ?_
  exact Eq.trans (congrArg _ (and_t (Nat.zero_le _))) (congrArg _ (and_t (Nat.zero_le _)))
theorem v38_67 {z : P0} {ls : Lcs} {st : List Value} {c n : Nat} {K : Nat → Nat × Nat} {I : Nat → Nat → Int32} {R : Nat → Nat → Option Nat} {L : Nat → Nat → Int64} {sz : Nat} {ex : Bool} {Q : Res → Mem → Prop} {x : Nat} {a0 : Nat} {a1 : Int32} : X z 38 67 ls (.int a1 :: .ref a0 :: .ref x :: st) (0, 0) (K, I, R, L, sz, ex) Q = ((K x).1 = 105 ∧ wsum st ≤ 8 ∧ X z 33 0 [some (.ref x), some (.ref a0), some (.int a1), none, none, none] [] (0, 0) (K, I, R, L, sz, ex) (aftr (X z) mT 38 67 ls st (0, 0) Q)) := by
  rw [x38_67]
  refine (inv_v (As := [.ref a0, .int a1]) (rm := mi38) (ry := mi33) rfl rfl (by decide) rfl rfl (Nat.le_of_ble_eq_true rfl) rfl rfl).trans ?_
  refine congrArg _ ?_
  exact Eq.trans (congrArg _ (and_t (Nat.zero_le _))) (congrArg _ (and_t (Nat.zero_le _)))
theorem v38_80 {z : P0} {ls : Lcs} {st : List Value} {c n : Nat} {K : Nat → Nat × Nat} {I : Nat → Nat → Int32} {R : Nat → Nat → Option Nat} {L : Nat → Nat → Int64} {sz : Nat} {ex : Bool} {Q : Res → Mem → Prop} {x : Nat} {a0 : Int32} {a1 : Int32} : X z 38 80 ls (.int a1 :: .int a0 :: .ref x :: st) (0, 0) (K, I, R, L, sz, ex) Q = ((K x).1 = 105 ∧ wsum st ≤ 8 ∧ X z 34 0 [some (.ref x), some (.int a0), some (.int a1), none, none, none] [] (0, 0) (K, I, R, L, sz, ex) (aftr (X z) mT 38 80 ls st (0, 0) Q)) := by
  rw [x38_80]
  refine (inv_v (As := [.int a0, .int a1]) (rm := mi38) (ry := mi34) rfl rfl (by decide) rfl rfl (Nat.le_of_ble_eq_true rfl) rfl rfl).trans ?_
  refine congrArg _ ?_
  exact Eq.trans (congrArg _ (and_t (Nat.zero_le _))) (congrArg _ (and_t (Nat.zero_le _)))
theorem v38_125 {z : P0} {ls : Lcs} {st : List Value} {c n : Nat} {K : Nat → Nat × Nat} {I : Nat → Nat → Int32} {R : Nat → Nat → Option Nat} {L : Nat → Nat → Int64} {sz : Nat} {ex : Bool} {Q : Res → Mem → Prop} {x : Nat} {a0 : Nat} {a1 : Int32} : X z 38 125 ls (.int a1 :: .ref a0 :: .ref x :: st) (0, 0) (K, I, R, L, sz, ex) Q = ((K x).1 = 106 ∧ wsum st ≤ 8 ∧ X z 42 0 [some (.ref x), some (.ref a0), some (.int a1), none] [] (0, 0) (K, I, R, L, sz, ex) (aftr (X z) mT 38 125 ls st (0, 0) Q)) := by
  rw [x38_125]
  refine (inv_v (As := [.ref a0, .int a1]) (rm := mi38) (ry := mi42) rfl rfl (by decide) rfl rfl (Nat.le_of_ble_eq_true rfl) rfl rfl).trans ?_
  refine congrArg _ ?_
  exact Eq.trans (congrArg _ (and_t (Nat.zero_le _))) (congrArg _ (and_t (Nat.zero_le _)))
theorem v40_38 {z : P0} {ls : Lcs} {st : List Value} {c n : Nat} {K : Nat → Nat × Nat} {I : Nat → Nat → Int32} {R : Nat → Nat → Option Nat} {L : Nat → Nat → Int64} {sz : Nat} {ex : Bool} {Q : Res → Mem → Prop} {x : Nat} {a0 : Int32} {a1 : Nat} {a2 : Int32} : X z 40 38 ls (.int a2 :: .ref a1 :: .int a0 :: .ref x :: st) (0, 0) (K, I, R, L, sz, ex) Q = ((K x).1 = 108 ∧ wsum st ≤ 8 ∧ X z 49 0 [some (.ref x), some (.int a0), some (.ref a1), some (.int a2)] [] (0, 0) (K, I, R, L, sz, ex) (aftr (X z) mT 40 38 ls st (0, 0) Q)) := by
  rw [x40_38]
  refine (inv_v (As := [.int a0, .ref a1, .int a2]) (rm := mi40) (ry := mi49) rfl rfl (by decide) rfl rfl (Nat.le_of_ble_eq_true rfl) rfl rfl).trans ?_
  refine congrArg _ ?_
  exact Eq.trans (congrArg _ (and_t (Nat.zero_le _))) (congrArg _ (and_t (Nat.zero_le _)))
theorem v40_67 {z : P0} {ls : Lcs} {st : List Value} {c n : Nat} {K : Nat → Nat × Nat} {I : Nat → Nat → Int32} {R : Nat → Nat → Option Nat} {L : Nat → Nat → Int64} {sz : Nat} {ex : Bool} {Q : Res → Mem → Prop} {x : Nat} {a0 : Int32} {a1 : Int32} : X z 40 67 ls (.int a1 :: .int a0 :: .ref x :: st) (0, 0) (K, I, R, L, sz, ex) Q = ((K x).1 = 106 ∧ wsum st ≤ 8 ∧ X z 41 0 [some (.ref x), some (.int a0), some (.int a1), none] [] (0, 0) (K, I, R, L, sz, ex) (aftr (X z) mT 40 67 ls st (0, 0) Q)) := by
  rw [x40_67]
  refine (inv_v (As := [.int a0, .int a1]) (rm := mi40) (ry := mi41) rfl rfl (by decide) rfl rfl (Nat.le_of_ble_eq_true rfl) rfl rfl).trans ?_
  refine congrArg _ ?_
  exact Eq.trans (congrArg _ (and_t (Nat.zero_le _))) (congrArg _ (and_t (Nat.zero_le _)))
theorem v40_88 {z : P0} {ls : Lcs} {st : List Value} {c n : Nat} {K : Nat → Nat × Nat} {I : Nat → Nat → Int32} {R : Nat → Nat → Option Nat} {L : Nat → Nat → Int64} {sz : Nat} {ex : Bool} {Q : Res → Mem → Prop} {x : Nat} {a0 : Int32} : X z 40 88 ls (.int a0 :: .ref x :: st) (0, 0) (K, I, R, L, sz, ex) Q = ((K x).1 = 102 ∧ wsum st ≤ 8 ∧ X z 21 0 [some (.ref x), some (.int a0)] [] (0, 0) (K, I, R, L, sz, ex) (aftr (X z) mT 40 88 ls st (0, 0) Q)) := by
  rw [x40_88]
  refine (inv_v (As := [.int a0]) (rm := mi40) (ry := mi21) rfl rfl (by decide) rfl rfl (Nat.le_of_ble_eq_true rfl) rfl rfl).trans ?_
  refine congrArg _ ?_
  exact Eq.trans (congrArg _ (and_t (Nat.zero_le _))) (congrArg _ (and_t (Nat.zero_le _)))
theorem v45_7 {z : P0} {ls : Lcs} {st : List Value} {c n : Nat} {K : Nat → Nat × Nat} {I : Nat → Nat → Int32} {R : Nat → Nat → Option Nat} {L : Nat → Nat → Int64} {sz : Nat} {ex : Bool} {Q : Res → Mem → Prop}  {a0 : Int32} {a1 : Int32} : X z 45 7 ls (.int a1 :: .int a0 :: st) (0, 0) (K, I, R, L, sz, ex) Q = (wsum st ≤ 8 ∧ X z 184 0 [some (.int a0), some (.int a1)] [] (0, 0) (K, I, R, L, sz, ex) (aftr (X z) mT 45 7 ls st (0, 0) Q)) := by
  rw [x45_7]
  refine (inv_s (As := [.int a0, .int a1]) (rm := mi45) (ry := mi184) rfl rfl (by decide) rfl rfl (Nat.le_of_ble_eq_true rfl) rfl (by decide)).trans ?_
  exact Eq.trans (congrArg _ (and_t (Nat.zero_le _))) (congrArg _ (and_t (Nat.zero_le _)))
theorem v47_27 {z : P0} {ls : Lcs} {st : List Value} {c n : Nat} {K : Nat → Nat × Nat} {I : Nat → Nat → Int32} {R : Nat → Nat → Option Nat} {L : Nat → Nat → Int64} {sz : Nat} {ex : Bool} {Q : Res → Mem → Prop} {x : Nat}  : X z 47 27 ls (.ref x :: st) (c, n) (K, I, R, L, sz, ex) Q = ((K x).1 = 104 ∧ wsum st ≤ 8 ∧ c + 1 ≤ 65 ∧ n + 60 ≤ 528 ∧ X z 27 0 [some (.ref x)] [] (0, 0) (K, I, R, L, sz, ex) (aftr (X z) mT 47 27 ls st (c + 1, n + 60) Q)) := by
  rw [x47_27]
  exact inv_i (As := []) (rm := mi47) (ry := mi27) rfl rfl (by decide) rfl rfl (Nat.le_of_ble_eq_true rfl) rfl rfl (by decide)
theorem v47_58 {z : P0} {ls : Lcs} {st : List Value} {c n : Nat} {K : Nat → Nat × Nat} {I : Nat → Nat → Int32} {R : Nat → Nat → Option Nat} {L : Nat → Nat → Int64} {sz : Nat} {ex : Bool} {Q : Res → Mem → Prop} {x : Nat}  : X z 47 58 ls (.ref x :: st) (c, n) (K, I, R, L, sz, ex) Q = ((K x).1 = 107 ∧ wsum st ≤ 8 ∧ c + 1 ≤ 65 ∧ n + 8 ≤ 528 ∧ X z 44 0 [some (.ref x)] [] (0, 0) (K, I, R, L, sz, ex) (aftr (X z) mT 47 58 ls st (c + 1, n + 8) Q)) := by
  rw [x47_58]
  exact inv_i (As := []) (rm := mi47) (ry := mi44) rfl rfl (by decide) rfl rfl (Nat.le_of_ble_eq_true rfl) rfl rfl (by decide)
theorem v47_85 {z : P0} {ls : Lcs} {st : List Value} {c n : Nat} {K : Nat → Nat × Nat} {I : Nat → Nat → Int32} {R : Nat → Nat → Option Nat} {L : Nat → Nat → Int64} {sz : Nat} {ex : Bool} {Q : Res → Mem → Prop} {x : Nat}  : X z 47 85 ls (.ref x :: st) (c, n) (K, I, R, L, sz, ex) Q = ((K x).1 = 109 ∧ wsum st ≤ 8 ∧ c + 1 ≤ 65 ∧ n + 8 ≤ 528 ∧ X z 52 0 [some (.ref x)] [] (0, 0) (K, I, R, L, sz, ex) (aftr (X z) mT 47 85 ls st (c + 1, n + 8) Q)) := by
  rw [x47_85]
  exact inv_i (As := []) (rm := mi47) (ry := mi52) rfl rfl (by decide) rfl rfl (Nat.le_of_ble_eq_true rfl) rfl rfl (by decide)
theorem v48_22 {z : P0} {ls : Lcs} {st : List Value} {c n : Nat} {K : Nat → Nat × Nat} {I : Nat → Nat → Int32} {R : Nat → Nat → Option Nat} {L : Nat → Nat → Int64} {sz : Nat} {ex : Bool} {Q : Res → Mem → Prop} {x : Nat} {a0 : Nat} : X z 48 22 ls (.ref a0 :: .ref x :: st) (0, 0) (K, I, R, L, sz, ex) Q = ((K x).1 = 107 ∧ wsum st ≤ 8 ∧ X z 46 0 [some (.ref x), some (.ref a0)] [] (0, 0) (K, I, R, L, sz, ex) (aftr (X z) mT 48 22 ls st (0, 0) Q)) := by
  rw [x48_22]
  refine (inv_v (As := [.ref a0]) (rm := mi48) (ry := mi46) rfl rfl (by decide) rfl rfl (Nat.le_of_ble_eq_true rfl) rfl rfl).trans ?_
  refine congrArg _ ?_
  exact Eq.trans (congrArg _ (and_t (Nat.zero_le _))) (congrArg _ (and_t (Nat.zero_le _)))
theorem v48_61 {z : P0} {ls : Lcs} {st : List Value} {c n : Nat} {K : Nat → Nat × Nat} {I : Nat → Nat → Int32} {R : Nat → Nat → Option Nat} {L : Nat → Nat → Int64} {sz : Nat} {ex : Bool} {Q : Res → Mem → Prop} {x : Nat} {a0 : Nat} : X z 48 61 ls (.ref a0 :: .ref x :: st) (0, 0) (K, I, R, L, sz, ex) Q = ((K x).1 = 109 ∧ wsum st ≤ 8 ∧ X z 54 0 [some (.ref x), some (.ref a0)] [] (0, 0) (K, I, R, L, sz, ex) (aftr (X z) mT 48 61 ls st (0, 0) Q)) := by
  rw [x48_61]
  refine (inv_v (As := [.ref a0]) (rm := mi48) (ry := mi54) rfl rfl (by decide) rfl rfl (Nat.le_of_ble_eq_true rfl) rfl rfl).trans ?_
  refine congrArg _ ?_
  exact Eq.trans (congrArg _ (and_t (Nat.zero_le _))) (congrArg _ (and_t (Nat.zero_le _)))
theorem v48_96 {z : P0} {ls : Lcs} {st : List Value} {c n : Nat} {K : Nat → Nat × Nat} {I : Nat → Nat → Int32} {R : Nat → Nat → Option Nat} {L : Nat → Nat → Int64} {sz : Nat} {ex : Bool} {Q : Res → Mem → Prop} {x : Nat} {a0 : Nat} {a1 : Int32} : X z 48 96 ls (.int a1 :: .ref a0 :: .ref x :: st) (0, 0) (K, I, R, L, sz, ex) Q = ((K x).1 = 104 ∧ wsum st ≤ 8 ∧ X z 28 0 [some (.ref x), some (.ref a0), some (.int a1)] [] (0, 0) (K, I, R, L, sz, ex) (aftr (X z) mT 48 96 ls st (0, 0) Q)) := by
  rw [x48_96]
  refine (inv_v (As := [.ref a0, .int a1]) (rm := mi48) (ry := mi28) rfl rfl (by decide) rfl rfl (Nat.le_of_ble_eq_true rfl) rfl rfl).trans ?_
  refine congrArg _ ?_
  exact Eq.trans (congrArg _ (and_t (Nat.zero_le _))) (congrArg _ (and_t (Nat.zero_le _)))
theorem v49_41 {z : P0} {ls : Lcs} {st : List Value} {c n : Nat} {K : Nat → Nat × Nat} {I : Nat → Nat → Int32} {R : Nat → Nat → Option Nat} {L : Nat → Nat → Int64} {sz : Nat} {ex : Bool} {Q : Res → Mem → Prop} {x : Nat}  : X z 49 41 ls (.ref x :: st) (0, 0) (K, I, R, L, sz, ex) Q = ((K x).1 = 104 ∧ wsum st ≤ 8 ∧ X z 31 0 [some (.ref x), none] [] (0, 0) (K, I, R, L, sz, ex) (aftr (X z) mT 49 41 ls st (0, 0) Q)) := by
  rw [x49_41]
  refine (inv_v (As := []) (rm := mi49) (ry := mi31) rfl rfl (by decide) rfl rfl (Nat.le_of_ble_eq_true rfl) rfl rfl).trans ?_
  refine congrArg _ ?_
  exact Eq.trans (congrArg _ (and_t (Nat.zero_le _))) (congrArg _ (and_t (Nat.zero_le _)))
theorem v53_49 {z : P0} {ls : Lcs} {st : List Value} {c n : Nat} {K : Nat → Nat × Nat} {I : Nat → Nat → Int32} {R : Nat → Nat → Option Nat} {L : Nat → Nat → Int64} {sz : Nat} {ex : Bool} {Q : Res → Mem → Prop}  {a0 : Int32} {a1 : Int32} : X z 53 49 ls (.int a1 :: .int a0 :: st) (0, 0) (K, I, R, L, sz, ex) Q = (wsum st ≤ 8 ∧ X z 184 0 [some (.int a0), some (.int a1)] [] (0, 0) (K, I, R, L, sz, ex) (aftr (X z) mT 53 49 ls st (0, 0) Q)) := by
  rw [x53_49]
  refine (inv_s (As := [.int a0, .int a1]) (rm := mi53) (ry := mi184) rfl rfl (by decide) rfl rfl (Nat.le_of_ble_eq_true rfl) rfl (by decide)).trans ?_
  exact Eq.trans (congrArg _ (and_t (Nat.zero_le _))) (congrArg _ (and_t (Nat.zero_le _)))
theorem v57_9 {z : P0} {ls : Lcs} {st : List Value} {c n : Nat} {K : Nat → Nat × Nat} {I : Nat → Nat → Int32} {R : Nat → Nat → Option Nat} {L : Nat → Nat → Int64} {sz : Nat} {ex : Bool} {Q : Res → Mem → Prop} {x : Nat}  : X z 57 9 ls (.ref x :: st) (c, n) (K, I, R, L, sz, ex) Q = ((K x).1 = 108 ∧ wsum st ≤ 8 ∧ c + 65 ≤ 565 ∧ n + 528 ≤ 6546 ∧ X z 47 0 [some (.ref x), none] [] (0, 0) (K, I, R, L, sz, ex) (aftr (X z) mT 57 9 ls st (c + 65, n + 528) Q)) := by
  rw [x57_9]
  exact inv_i (As := []) (rm := mi57) (ry := mi47) rfl rfl (by decide) rfl rfl (Nat.le_of_ble_eq_true rfl) rfl rfl (by decide)
theorem v57_20 {z : P0} {ls : Lcs} {st : List Value} {c n : Nat} {K : Nat → Nat × Nat} {I : Nat → Nat → Int32} {R : Nat → Nat → Option Nat} {L : Nat → Nat → Int64} {sz : Nat} {ex : Bool} {Q : Res → Mem → Prop} {x : Nat}  : X z 57 20 ls (.ref x :: st) (c, n) (K, I, R, L, sz, ex) Q = ((K x).1 = 103 ∧ wsum st ≤ 8 ∧ c + 397 ≤ 565 ∧ n + 3234 ≤ 6546 ∧ X z 23 0 [some (.ref x), none] [] (0, 0) (K, I, R, L, sz, ex) (aftr (X z) mT 57 20 ls st (c + 397, n + 3234) Q)) := by
  rw [x57_20]
  exact inv_i (As := []) (rm := mi57) (ry := mi23) rfl rfl (by decide) rfl rfl (Nat.le_of_ble_eq_true rfl) rfl rfl (by decide)
theorem v57_31 {z : P0} {ls : Lcs} {st : List Value} {c n : Nat} {K : Nat → Nat × Nat} {I : Nat → Nat → Int32} {R : Nat → Nat → Option Nat} {L : Nat → Nat → Int64} {sz : Nat} {ex : Bool} {Q : Res → Mem → Prop} {x : Nat}  : X z 57 31 ls (.ref x :: st) (c, n) (K, I, R, L, sz, ex) Q = ((K x).1 = 100 ∧ wsum st ≤ 8 ∧ c + 1 ≤ 565 ∧ n + 60 ≤ 6546 ∧ X z 0 0 [some (.ref x)] [] (0, 0) (K, I, R, L, sz, ex) (aftr (X z) mT 57 31 ls st (c + 1, n + 60) Q)) := by
  rw [x57_31]
  exact inv_i (As := []) (rm := mi57) (ry := mi0) rfl rfl (by decide) rfl rfl (Nat.le_of_ble_eq_true rfl) rfl rfl (by decide)
theorem v57_41 {z : P0} {ls : Lcs} {st : List Value} {c n : Nat} {K : Nat → Nat × Nat} {I : Nat → Nat → Int32} {R : Nat → Nat → Option Nat} {L : Nat → Nat → Int64} {sz : Nat} {ex : Bool} {Q : Res → Mem → Prop} {x : Nat}  : X z 57 41 ls (.ref x :: st) (c, n) (K, I, R, L, sz, ex) Q = ((K x).1 = 101 ∧ wsum st ≤ 8 ∧ c + 2 ≤ 565 ∧ n + 1666 ≤ 6546 ∧ X z 9 0 [some (.ref x)] [] (0, 0) (K, I, R, L, sz, ex) (aftr (X z) mT 57 41 ls st (c + 2, n + 1666) Q)) := by
  rw [x57_41]
  exact inv_i (As := []) (rm := mi57) (ry := mi9) rfl rfl (by decide) rfl rfl (Nat.le_of_ble_eq_true rfl) rfl rfl (by decide)
theorem v57_49 {z : P0} {ls : Lcs} {st : List Value} {c n : Nat} {K : Nat → Nat × Nat} {I : Nat → Nat → Int32} {R : Nat → Nat → Option Nat} {L : Nat → Nat → Int64} {sz : Nat} {ex : Bool} {Q : Res → Mem → Prop} {x : Nat}  : X z 57 49 ls (.ref x :: st) (c, n) (K, I, R, L, sz, ex) Q = ((K x).1 = 105 ∧ wsum st ≤ 8 ∧ c + 2 ≤ 565 ∧ n + 242 ≤ 6546 ∧ X z 32 0 [some (.ref x)] [] (0, 0) (K, I, R, L, sz, ex) (aftr (X z) mT 57 49 ls st (c + 2, n + 242) Q)) := by
  rw [x57_49]
  exact inv_i (As := []) (rm := mi57) (ry := mi32) rfl rfl (by decide) rfl rfl (Nat.le_of_ble_eq_true rfl) rfl rfl (by decide)
theorem v57_60 {z : P0} {ls : Lcs} {st : List Value} {c n : Nat} {K : Nat → Nat × Nat} {I : Nat → Nat → Int32} {R : Nat → Nat → Option Nat} {L : Nat → Nat → Int64} {sz : Nat} {ex : Bool} {Q : Res → Mem → Prop} {x : Nat} {a0 : Nat} {a1 : Nat} : X z 57 60 ls (.ref a1 :: .ref a0 :: .ref x :: st) (c, n) (K, I, R, L, sz, ex) Q = ((K x).1 = 106 ∧ wsum st ≤ 8 ∧ c + 45 ≤ 565 ∧ n + 382 ≤ 6546 ∧ X z 36 0 [some (.ref x), some (.ref a0), some (.ref a1), none] [] (0, 0) (K, I, R, L, sz, ex) (aftr (X z) mT 57 60 ls st (c + 45, n + 382) Q)) := by
  rw [x57_60]
  exact inv_i (As := [.ref a0, .ref a1]) (rm := mi57) (ry := mi36) rfl rfl (by decide) rfl rfl (Nat.le_of_ble_eq_true rfl) rfl rfl (by decide)
theorem v57_73 {z : P0} {ls : Lcs} {st : List Value} {c n : Nat} {K : Nat → Nat × Nat} {I : Nat → Nat → Int32} {R : Nat → Nat → Option Nat} {L : Nat → Nat → Int64} {sz : Nat} {ex : Bool} {Q : Res → Mem → Prop} {x : Nat} {a0 : Nat} {a1 : Nat} : X z 57 73 ls (.ref a1 :: .ref a0 :: .ref x :: st) (c, n) (K, I, R, L, sz, ex) Q = ((K x).1 = 106 ∧ wsum st ≤ 8 ∧ c + 45 ≤ 565 ∧ n + 382 ≤ 6546 ∧ X z 36 0 [some (.ref x), some (.ref a0), some (.ref a1), none] [] (0, 0) (K, I, R, L, sz, ex) (aftr (X z) mT 57 73 ls st (c + 45, n + 382) Q)) := by
  rw [x57_73]
  exact inv_i (As := [.ref a0, .ref a1]) (rm := mi57) (ry := mi36) rfl rfl (by decide) rfl rfl (Nat.le_of_ble_eq_true rfl) rfl rfl (by decide)
theorem v58_1 {z : P0} {ls : Lcs} {st : List Value} {c n : Nat} {K : Nat → Nat × Nat} {I : Nat → Nat → Int32} {R : Nat → Nat → Option Nat} {L : Nat → Nat → Int64} {sz : Nat} {ex : Bool} {Q : Res → Mem → Prop}  {a0 : Int32} : X z 58 1 ls (.int a0 :: st) (0, 0) (K, I, R, L, sz, ex) Q = (wsum st ≤ 8 ∧ X z 85 0 [some (.int a0)] [] (0, 0) (K, I, R, L, sz, ex) (aftr (X z) mT 58 1 ls st (0, 0) Q)) := by
  rw [x58_1]
  refine (inv_s (As := [.int a0]) (rm := mi58) (ry := mi85) rfl rfl (by decide) rfl rfl (Nat.le_of_ble_eq_true rfl) rfl (by decide)).trans ?_
  exact Eq.trans (congrArg _ (and_t (Nat.zero_le _))) (congrArg _ (and_t (Nat.zero_le _)))
theorem v58_31 {z : P0} {ls : Lcs} {st : List Value} {c n : Nat} {K : Nat → Nat × Nat} {I : Nat → Nat → Int32} {R : Nat → Nat → Option Nat} {L : Nat → Nat → Int64} {sz : Nat} {ex : Bool} {Q : Res → Mem → Prop} {x : Nat} {a0 : Int32} : X z 58 31 ls (.int a0 :: .ref x :: st) (0, 0) (K, I, R, L, sz, ex) Q = ((K x).1 = 100 ∧ wsum st ≤ 8 ∧ X z 2 0 [some (.ref x), some (.int a0), none, none] [] (0, 0) (K, I, R, L, sz, ex) (aftr (X z) mT 58 31 ls st (0, 0) Q)) := by
  rw [x58_31]
  refine (inv_v (As := [.int a0]) (rm := mi58) (ry := mi2) rfl rfl (by decide) rfl rfl (Nat.le_of_ble_eq_true rfl) rfl rfl).trans ?_
  refine congrArg _ ?_
  exact Eq.trans (congrArg _ (and_t (Nat.zero_le _))) (congrArg _ (and_t (Nat.zero_le _)))
theorem v58_77 {z : P0} {ls : Lcs} {st : List Value} {c n : Nat} {K : Nat → Nat × Nat} {I : Nat → Nat → Int32} {R : Nat → Nat → Option Nat} {L : Nat → Nat → Int64} {sz : Nat} {ex : Bool} {Q : Res → Mem → Prop} {x : Nat} {a0 : Nat} : X z 58 77 ls (.ref a0 :: .ref x :: st) (0, 0) (K, I, R, L, sz, ex) Q = ((K x).1 = 103 ∧ wsum st ≤ 8 ∧ X z 24 0 [some (.ref x), some (.ref a0)] [] (0, 0) (K, I, R, L, sz, ex) (aftr (X z) mT 58 77 ls st (0, 0) Q)) := by
  rw [x58_77]
  refine (inv_v (As := [.ref a0]) (rm := mi58) (ry := mi24) rfl rfl (by decide) rfl rfl (Nat.le_of_ble_eq_true rfl) rfl rfl).trans ?_
  refine congrArg _ ?_
  exact Eq.trans (congrArg _ (and_t (Nat.zero_le _))) (congrArg _ (and_t (Nat.zero_le _)))
theorem v58_103 {z : P0} {ls : Lcs} {st : List Value} {c n : Nat} {K : Nat → Nat × Nat} {I : Nat → Nat → Int32} {R : Nat → Nat → Option Nat} {L : Nat → Nat → Int64} {sz : Nat} {ex : Bool} {Q : Res → Mem → Prop} {x : Nat} {a0 : Nat} {a1 : Int32} {a2 : Int32} : X z 58 103 ls (.int a2 :: .int a1 :: .ref a0 :: .ref x :: st) (0, 0) (K, I, R, L, sz, ex) Q = ((K x).1 = 107 ∧ wsum st ≤ 8 ∧ X z 45 0 [some (.ref x), some (.ref a0), some (.int a1), some (.int a2)] [] (0, 0) (K, I, R, L, sz, ex) (aftr (X z) mT 58 103 ls st (0, 0) Q)) := by
  rw [x58_103]
  refine (inv_v (As := [.ref a0, .int a1, .int a2]) (rm := mi58) (ry := mi45) rfl rfl (by decide) rfl rfl (Nat.le_of_ble_eq_true rfl) rfl rfl).trans ?_
  refine congrArg _ ?_
  exact Eq.trans (congrArg _ (and_t (Nat.zero_le _))) (congrArg _ (and_t (Nat.zero_le _)))
theorem v59_5 {z : P0} {ls : Lcs} {st : List Value} {c n : Nat} {K : Nat → Nat × Nat} {I : Nat → Nat → Int32} {R : Nat → Nat → Option Nat} {L : Nat → Nat → Int64} {sz : Nat} {ex : Bool} {Q : Res → Mem → Prop} {x : Nat} {a0 : Int32} : X z 59 5 ls (.int a0 :: .ref x :: st) (0, 0) (K, I, R, L, sz, ex) Q = ((K x).1 = 100 ∧ wsum st ≤ 8 ∧ X z 2 0 [some (.ref x), some (.int a0), none, none] [] (0, 0) (K, I, R, L, sz, ex) (aftr (X z) mT 59 5 ls st (0, 0) Q)) := by
  rw [x59_5]
  refine (inv_v (As := [.int a0]) (rm := mi59) (ry := mi2) rfl rfl (by decide) rfl rfl (Nat.le_of_ble_eq_true rfl) rfl rfl).trans ?_
  refine congrArg _ ?_
  exact Eq.trans (congrArg _ (and_t (Nat.zero_le _))) (congrArg _ (and_t (Nat.zero_le _)))
theorem v59_51 {z : P0} {ls : Lcs} {st : List Value} {c n : Nat} {K : Nat → Nat × Nat} {I : Nat → Nat → Int32} {R : Nat → Nat → Option Nat} {L : Nat → Nat → Int64} {sz : Nat} {ex : Bool} {Q : Res → Mem → Prop} {x : Nat} {a0 : Nat} : X z 59 51 ls (.ref a0 :: .ref x :: st) (0, 0) (K, I, R, L, sz, ex) Q = ((K x).1 = 103 ∧ wsum st ≤ 8 ∧ X z 24 0 [some (.ref x), some (.ref a0)] [] (0, 0) (K, I, R, L, sz, ex) (aftr (X z) mT 59 51 ls st (0, 0) Q)) := by
  rw [x59_51]
  refine (inv_v (As := [.ref a0]) (rm := mi59) (ry := mi24) rfl rfl (by decide) rfl rfl (Nat.le_of_ble_eq_true rfl) rfl rfl).trans ?_
  refine congrArg _ ?_
  exact Eq.trans (congrArg _ (and_t (Nat.zero_le _))) (congrArg _ (and_t (Nat.zero_le _)))
theorem v59_75 {z : P0} {ls : Lcs} {st : List Value} {c n : Nat} {K : Nat → Nat × Nat} {I : Nat → Nat → Int32} {R : Nat → Nat → Option Nat} {L : Nat → Nat → Int64} {sz : Nat} {ex : Bool} {Q : Res → Mem → Prop} {x : Nat} {a0 : Nat} : X z 59 75 ls (.ref a0 :: .ref x :: st) (0, 0) (K, I, R, L, sz, ex) Q = ((K x).1 = 109 ∧ wsum st ≤ 8 ∧ X z 53 0 [some (.ref x), some (.ref a0), none] [] (0, 0) (K, I, R, L, sz, ex) (aftr (X z) mT 59 75 ls st (0, 0) Q)) := by
  rw [x59_75]
  refine (inv_v (As := [.ref a0]) (rm := mi59) (ry := mi53) rfl rfl (by decide) rfl rfl (Nat.le_of_ble_eq_true rfl) rfl rfl).trans ?_
  refine congrArg _ ?_
  exact Eq.trans (congrArg _ (and_t (Nat.zero_le _))) (congrArg _ (and_t (Nat.zero_le _)))
theorem v60_5 {z : P0} {ls : Lcs} {st : List Value} {c n : Nat} {K : Nat → Nat × Nat} {I : Nat → Nat → Int32} {R : Nat → Nat → Option Nat} {L : Nat → Nat → Int64} {sz : Nat} {ex : Bool} {Q : Res → Mem → Prop} {x : Nat} {a0 : Int32} : X z 60 5 ls (.int a0 :: .ref x :: st) (0, 0) (K, I, R, L, sz, ex) Q = ((K x).1 = 100 ∧ wsum st ≤ 8 ∧ X z 2 0 [some (.ref x), some (.int a0), none, none] [] (0, 0) (K, I, R, L, sz, ex) (aftr (X z) mT 60 5 ls st (0, 0) Q)) := by
  rw [x60_5]
  refine (inv_v (As := [.int a0]) (rm := mi60) (ry := mi2) rfl rfl (by decide) rfl rfl (Nat.le_of_ble_eq_true rfl) rfl rfl).trans ?_
  refine congrArg _ ?_
  exact Eq.trans (congrArg _ (and_t (Nat.zero_le _))) (congrArg _ (and_t (Nat.zero_le _)))
theorem v60_29 {z : P0} {ls : Lcs} {st : List Value} {c n : Nat} {K : Nat → Nat × Nat} {I : Nat → Nat → Int32} {R : Nat → Nat → Option Nat} {L : Nat → Nat → Int64} {sz : Nat} {ex : Bool} {Q : Res → Mem → Prop} {x : Nat} {a0 : Nat} : X z 60 29 ls (.ref a0 :: .ref x :: st) (0, 0) (K, I, R, L, sz, ex) Q = ((K x).1 = 103 ∧ wsum st ≤ 8 ∧ X z 24 0 [some (.ref x), some (.ref a0)] [] (0, 0) (K, I, R, L, sz, ex) (aftr (X z) mT 60 29 ls st (0, 0) Q)) := by
  rw [x60_29]
  refine (inv_v (As := [.ref a0]) (rm := mi60) (ry := mi24) rfl rfl (by decide) rfl rfl (Nat.le_of_ble_eq_true rfl) rfl rfl).trans ?_
  refine congrArg _ ?_
  exact Eq.trans (congrArg _ (and_t (Nat.zero_le _))) (congrArg _ (and_t (Nat.zero_le _)))
theorem v60_53 {z : P0} {ls : Lcs} {st : List Value} {c n : Nat} {K : Nat → Nat × Nat} {I : Nat → Nat → Int32} {R : Nat → Nat → Option Nat} {L : Nat → Nat → Int64} {sz : Nat} {ex : Bool} {Q : Res → Mem → Prop} {x : Nat} {a0 : Nat} {a1 : Int32} : X z 60 53 ls (.int a1 :: .ref a0 :: .ref x :: st) (0, 0) (K, I, R, L, sz, ex) Q = ((K x).1 = 104 ∧ wsum st ≤ 8 ∧ X z 28 0 [some (.ref x), some (.ref a0), some (.int a1)] [] (0, 0) (K, I, R, L, sz, ex) (aftr (X z) mT 60 53 ls st (0, 0) Q)) := by
  rw [x60_53]
  refine (inv_v (As := [.ref a0, .int a1]) (rm := mi60) (ry := mi28) rfl rfl (by decide) rfl rfl (Nat.le_of_ble_eq_true rfl) rfl rfl).trans ?_
  refine congrArg _ ?_
  exact Eq.trans (congrArg _ (and_t (Nat.zero_le _))) (congrArg _ (and_t (Nat.zero_le _)))
theorem v60_71 {z : P0} {ls : Lcs} {st : List Value} {c n : Nat} {K : Nat → Nat × Nat} {I : Nat → Nat → Int32} {R : Nat → Nat → Option Nat} {L : Nat → Nat → Int64} {sz : Nat} {ex : Bool} {Q : Res → Mem → Prop} {x : Nat}  : X z 60 71 ls (.ref x :: st) (0, 0) (K, I, R, L, sz, ex) Q = ((K x).1 = 104 ∧ wsum st ≤ 8 ∧ X z 29 0 [some (.ref x), none, none] [] (0, 0) (K, I, R, L, sz, ex) (aftr (X z) mT 60 71 ls st (0, 0) Q)) := by
  rw [x60_71]
  refine (inv_v (As := []) (rm := mi60) (ry := mi29) rfl rfl (by decide) rfl rfl (Nat.le_of_ble_eq_true rfl) rfl rfl).trans ?_
  refine congrArg _ ?_
  exact Eq.trans (congrArg _ (and_t (Nat.zero_le _))) (congrArg _ (and_t (Nat.zero_le _)))
theorem v61_2 {z : P0} {ls : Lcs} {st : List Value} {c n : Nat} {K : Nat → Nat × Nat} {I : Nat → Nat → Int32} {R : Nat → Nat → Option Nat} {L : Nat → Nat → Int64} {sz : Nat} {ex : Bool} {Q : Res → Mem → Prop} {x : Nat} {a0 : Int32} : X z 61 2 ls (.int a0 :: .ref x :: st) (0, 0) (K, I, R, L, sz, ex) Q = ((K x).1 = 110 ∧ wsum st ≤ 8 ∧ X z 89 0 [some (.ref x), some (.int a0)] [] (0, 0) (K, I, R, L, sz, ex) (aftr (X z) mT 61 2 ls st (0, 0) Q)) := by
  rw [x61_2]
  refine (inv_v (As := [.int a0]) (rm := mi61) (ry := mi89) rfl rfl (by decide) rfl rfl (Nat.le_of_ble_eq_true rfl) rfl rfl).trans ?_
  refine congrArg _ ?_
  exact Eq.trans (congrArg _ (and_t (Nat.zero_le _))) (congrArg _ (and_t (Nat.zero_le _)))
theorem v61_19 {z : P0} {ls : Lcs} {st : List Value} {c n : Nat} {K : Nat → Nat × Nat} {I : Nat → Nat → Int32} {R : Nat → Nat → Option Nat} {L : Nat → Nat → Int64} {sz : Nat} {ex : Bool} {Q : Res → Mem → Prop}  {a0 : Int32} : X z 61 19 ls (.int a0 :: st) (0, 0) (K, I, R, L, sz, ex) Q = (wsum st ≤ 8 ∧ X z 85 0 [some (.int a0)] [] (0, 0) (K, I, R, L, sz, ex) (aftr (X z) mT 61 19 ls st (0, 0) Q)) := by
  rw [x61_19]
  refine (inv_s (As := [.int a0]) (rm := mi61) (ry := mi85) rfl rfl (by decide) rfl rfl (Nat.le_of_ble_eq_true rfl) rfl (by decide)).trans ?_
  exact Eq.trans (congrArg _ (and_t (Nat.zero_le _))) (congrArg _ (and_t (Nat.zero_le _)))
theorem v61_43 {z : P0} {ls : Lcs} {st : List Value} {c n : Nat} {K : Nat → Nat × Nat} {I : Nat → Nat → Int32} {R : Nat → Nat → Option Nat} {L : Nat → Nat → Int64} {sz : Nat} {ex : Bool} {Q : Res → Mem → Prop} {x : Nat} {a0 : Nat} : X z 61 43 ls (.ref a0 :: .ref x :: st) (0, 0) (K, I, R, L, sz, ex) Q = ((K x).1 = 103 ∧ wsum st ≤ 8 ∧ X z 24 0 [some (.ref x), some (.ref a0)] [] (0, 0) (K, I, R, L, sz, ex) (aftr (X z) mT 61 43 ls st (0, 0) Q)) := by
  rw [x61_43]
  refine (inv_v (As := [.ref a0]) (rm := mi61) (ry := mi24) rfl rfl (by decide) rfl rfl (Nat.le_of_ble_eq_true rfl) rfl rfl).trans ?_
  refine congrArg _ ?_
  exact Eq.trans (congrArg _ (and_t (Nat.zero_le _))) (congrArg _ (and_t (Nat.zero_le _)))
theorem v62_2 {z : P0} {ls : Lcs} {st : List Value} {c n : Nat} {K : Nat → Nat × Nat} {I : Nat → Nat → Int32} {R : Nat → Nat → Option Nat} {L : Nat → Nat → Int64} {sz : Nat} {ex : Bool} {Q : Res → Mem → Prop} {x : Nat} {a0 : Int32} : X z 62 2 ls (.int a0 :: .ref x :: st) (0, 0) (K, I, R, L, sz, ex) Q = ((K x).1 = 110 ∧ wsum st ≤ 8 ∧ X z 89 0 [some (.ref x), some (.int a0)] [] (0, 0) (K, I, R, L, sz, ex) (aftr (X z) mT 62 2 ls st (0, 0) Q)) := by
  rw [x62_2]
  refine (inv_v (As := [.int a0]) (rm := mi62) (ry := mi89) rfl rfl (by decide) rfl rfl (Nat.le_of_ble_eq_true rfl) rfl rfl).trans ?_
  refine congrArg _ ?_
  exact Eq.trans (congrArg _ (and_t (Nat.zero_le _))) (congrArg _ (and_t (Nat.zero_le _)))
theorem v62_25 {z : P0} {ls : Lcs} {st : List Value} {c n : Nat} {K : Nat → Nat × Nat} {I : Nat → Nat → Int32} {R : Nat → Nat → Option Nat} {L : Nat → Nat → Int64} {sz : Nat} {ex : Bool} {Q : Res → Mem → Prop} {x : Nat} {a0 : Int32} : X z 62 25 ls (.int a0 :: .ref x :: st) (0, 0) (K, I, R, L, sz, ex) Q = ((K x).1 = 110 ∧ wsum st ≤ 8 ∧ X z 90 0 [some (.ref x), some (.int a0)] [] (0, 0) (K, I, R, L, sz, ex) (aftr (X z) mT 62 25 ls st (0, 0) Q)) := by
  rw [x62_25]
  refine (inv_v (As := [.int a0]) (rm := mi62) (ry := mi90) rfl rfl (by decide) rfl rfl (Nat.le_of_ble_eq_true rfl) rfl rfl).trans ?_
  refine congrArg _ ?_
  exact Eq.trans (congrArg _ (and_t (Nat.zero_le _))) (congrArg _ (and_t (Nat.zero_le _)))
theorem v62_49 {z : P0} {ls : Lcs} {st : List Value} {c n : Nat} {K : Nat → Nat × Nat} {I : Nat → Nat → Int32} {R : Nat → Nat → Option Nat} {L : Nat → Nat → Int64} {sz : Nat} {ex : Bool} {Q : Res → Mem → Prop} {x : Nat} {a0 : Nat} : X z 62 49 ls (.ref a0 :: .ref x :: st) (0, 0) (K, I, R, L, sz, ex) Q = ((K x).1 = 103 ∧ wsum st ≤ 8 ∧ X z 24 0 [some (.ref x), some (.ref a0)] [] (0, 0) (K, I, R, L, sz, ex) (aftr (X z) mT 62 49 ls st (0, 0) Q)) := by
  rw [x62_49]
  refine (inv_v (As := [.ref a0]) (rm := mi62) (ry := mi24) rfl rfl (by decide) rfl rfl (Nat.le_of_ble_eq_true rfl) rfl rfl).trans ?_
  refine congrArg _ ?_
  exact Eq.trans (congrArg _ (and_t (Nat.zero_le _))) (congrArg _ (and_t (Nat.zero_le _)))
theorem v63_2 {z : P0} {ls : Lcs} {st : List Value} {c n : Nat} {K : Nat → Nat × Nat} {I : Nat → Nat → Int32} {R : Nat → Nat → Option Nat} {L : Nat → Nat → Int64} {sz : Nat} {ex : Bool} {Q : Res → Mem → Prop} {x : Nat} {a0 : Int32} : X z 63 2 ls (.int a0 :: .ref x :: st) (0, 0) (K, I, R, L, sz, ex) Q = ((K x).1 = 110 ∧ wsum st ≤ 8 ∧ X z 89 0 [some (.ref x), some (.int a0)] [] (0, 0) (K, I, R, L, sz, ex) (aftr (X z) mT 63 2 ls st (0, 0) Q)) := by
  rw [x63_2]
  refine (inv_v (As := [.int a0]) (rm := mi63) (ry := mi89) rfl rfl (by decide) rfl rfl (Nat.le_of_ble_eq_true rfl) rfl rfl).trans ?_
  refine congrArg _ ?_
  exact Eq.trans (congrArg _ (and_t (Nat.zero_le _))) (congrArg _ (and_t (Nat.zero_le _)))
theorem v63_26 {z : P0} {ls : Lcs} {st : List Value} {c n : Nat} {K : Nat → Nat × Nat} {I : Nat → Nat → Int32} {R : Nat → Nat → Option Nat} {L : Nat → Nat → Int64} {sz : Nat} {ex : Bool} {Q : Res → Mem → Prop} {x : Nat} {a0 : Nat} : X z 63 26 ls (.ref a0 :: .ref x :: st) (0, 0) (K, I, R, L, sz, ex) Q = ((K x).1 = 103 ∧ wsum st ≤ 8 ∧ X z 24 0 [some (.ref x), some (.ref a0)] [] (0, 0) (K, I, R, L, sz, ex) (aftr (X z) mT 63 26 ls st (0, 0) Q)) := by
  rw [x63_26]
  refine (inv_v (As := [.ref a0]) (rm := mi63) (ry := mi24) rfl rfl (by decide) rfl rfl (Nat.le_of_ble_eq_true rfl) rfl rfl).trans ?_
  refine congrArg _ ?_
  exact Eq.trans (congrArg _ (and_t (Nat.zero_le _))) (congrArg _ (and_t (Nat.zero_le _)))
theorem v63_46 {z : P0} {ls : Lcs} {st : List Value} {c n : Nat} {K : Nat → Nat × Nat} {I : Nat → Nat → Int32} {R : Nat → Nat → Option Nat} {L : Nat → Nat → Int64} {sz : Nat} {ex : Bool} {Q : Res → Mem → Prop} {x : Nat}  : X z 63 46 ls (.ref x :: st) (0, 0) (K, I, R, L, sz, ex) Q = ((K x).1 = 108 ∧ wsum st ≤ 8 ∧ X z 50 0 [some (.ref x), none, none] [] (0, 0) (K, I, R, L, sz, ex) (aftr (X z) mT 63 46 ls st (0, 0) Q)) := by
  rw [x63_46]
  refine (inv_v (As := []) (rm := mi63) (ry := mi50) rfl rfl (by decide) rfl rfl (Nat.le_of_ble_eq_true rfl) rfl rfl).trans ?_
  refine congrArg _ ?_
  exact Eq.trans (congrArg _ (and_t (Nat.zero_le _))) (congrArg _ (and_t (Nat.zero_le _)))
theorem v64_1 {z : P0} {ls : Lcs} {st : List Value} {c n : Nat} {K : Nat → Nat × Nat} {I : Nat → Nat → Int32} {R : Nat → Nat → Option Nat} {L : Nat → Nat → Int64} {sz : Nat} {ex : Bool} {Q : Res → Mem → Prop}  {a0 : Int32} : X z 64 1 ls (.int a0 :: st) (0, 0) (K, I, R, L, sz, ex) Q = (wsum st ≤ 8 ∧ X z 86 0 [some (.int a0)] [] (0, 0) (K, I, R, L, sz, ex) (aftr (X z) mT 64 1 ls st (0, 0) Q)) := by
  rw [x64_1]
  refine (inv_s (As := [.int a0]) (rm := mi64) (ry := mi86) rfl rfl (by decide) rfl rfl (Nat.le_of_ble_eq_true rfl) rfl (by decide)).trans ?_
  exact Eq.trans (congrArg _ (and_t (Nat.zero_le _))) (congrArg _ (and_t (Nat.zero_le _)))
theorem v64_19 {z : P0} {ls : Lcs} {st : List Value} {c n : Nat} {K : Nat → Nat × Nat} {I : Nat → Nat → Int32} {R : Nat → Nat → Option Nat} {L : Nat → Nat → Int64} {sz : Nat} {ex : Bool} {Q : Res → Mem → Prop}  {a0 : Int32} {a1 : Int32} : X z 64 19 ls (.int a1 :: .int a0 :: st) (0, 0) (K, I, R, L, sz, ex) Q = (wsum st ≤ 8 ∧ X z 87 0 [some (.int a0), some (.int a1)] [] (0, 0) (K, I, R, L, sz, ex) (aftr (X z) mT 64 19 ls st (0, 0) Q)) := by
  rw [x64_19]
  refine (inv_s (As := [.int a0, .int a1]) (rm := mi64) (ry := mi87) rfl rfl (by decide) rfl rfl (Nat.le_of_ble_eq_true rfl) rfl (by decide)).trans ?_
  exact Eq.trans (congrArg _ (and_t (Nat.zero_le _))) (congrArg _ (and_t (Nat.zero_le _)))
theorem v64_43 {z : P0} {ls : Lcs} {st : List Value} {c n : Nat} {K : Nat → Nat × Nat} {I : Nat → Nat → Int32} {R : Nat → Nat → Option Nat} {L : Nat → Nat → Int64} {sz : Nat} {ex : Bool} {Q : Res → Mem → Prop} {x : Nat} {a0 : Nat} : X z 64 43 ls (.ref a0 :: .ref x :: st) (0, 0) (K, I, R, L, sz, ex) Q = ((K x).1 = 103 ∧ wsum st ≤ 8 ∧ X z 24 0 [some (.ref x), some (.ref a0)] [] (0, 0) (K, I, R, L, sz, ex) (aftr (X z) mT 64 43 ls st (0, 0) Q)) := by
  rw [x64_43]
  refine (inv_v (As := [.ref a0]) (rm := mi64) (ry := mi24) rfl rfl (by decide) rfl rfl (Nat.le_of_ble_eq_true rfl) rfl rfl).trans ?_
  refine congrArg _ ?_
  exact Eq.trans (congrArg _ (and_t (Nat.zero_le _))) (congrArg _ (and_t (Nat.zero_le _)))
theorem v65_38 {z : P0} {ls : Lcs} {st : List Value} {c n : Nat} {K : Nat → Nat × Nat} {I : Nat → Nat → Int32} {R : Nat → Nat → Option Nat} {L : Nat → Nat → Int64} {sz : Nat} {ex : Bool} {Q : Res → Mem → Prop} {x : Nat} {a0 : Nat} {a1 : Nat} : X z 65 38 ls (.ref a1 :: .ref a0 :: .ref x :: st) (0, 0) (K, I, R, L, sz, ex) Q = ((K x).1 = 106 ∧ wsum st ≤ 8 ∧ X z 38 0 [some (.ref x), some (.ref a0), some (.ref a1), none, none] [] (0, 0) (K, I, R, L, sz, ex) (aftr (X z) mT 65 38 ls st (0, 0) Q)) := by
  rw [x65_38]
  refine (inv_v (As := [.ref a0, .ref a1]) (rm := mi65) (ry := mi38) rfl rfl (by decide) rfl rfl (Nat.le_of_ble_eq_true rfl) rfl rfl).trans ?_
  refine congrArg _ ?_
  exact Eq.trans (congrArg _ (and_t (Nat.zero_le _))) (congrArg _ (and_t (Nat.zero_le _)))
theorem v65_69 {z : P0} {ls : Lcs} {st : List Value} {c n : Nat} {K : Nat → Nat × Nat} {I : Nat → Nat → Int32} {R : Nat → Nat → Option Nat} {L : Nat → Nat → Int64} {sz : Nat} {ex : Bool} {Q : Res → Mem → Prop} {x : Nat} {a0 : Nat} : X z 65 69 ls (.ref a0 :: .ref x :: st) (0, 0) (K, I, R, L, sz, ex) Q = ((K x).1 = 103 ∧ wsum st ≤ 8 ∧ X z 24 0 [some (.ref x), some (.ref a0)] [] (0, 0) (K, I, R, L, sz, ex) (aftr (X z) mT 65 69 ls st (0, 0) Q)) := by
  rw [x65_69]
  refine (inv_v (As := [.ref a0]) (rm := mi65) (ry := mi24) rfl rfl (by decide) rfl rfl (Nat.le_of_ble_eq_true rfl) rfl rfl).trans ?_
  refine congrArg _ ?_
  exact Eq.trans (congrArg _ (and_t (Nat.zero_le _))) (congrArg _ (and_t (Nat.zero_le _)))
theorem v66_54 {z : P0} {ls : Lcs} {st : List Value} {c n : Nat} {K : Nat → Nat × Nat} {I : Nat → Nat → Int32} {R : Nat → Nat → Option Nat} {L : Nat → Nat → Int64} {sz : Nat} {ex : Bool} {Q : Res → Mem → Prop} {x : Nat} {a0 : Nat} : X z 66 54 ls (.ref a0 :: .ref x :: st) (0, 0) (K, I, R, L, sz, ex) Q = ((K x).1 = 103 ∧ wsum st ≤ 8 ∧ X z 24 0 [some (.ref x), some (.ref a0)] [] (0, 0) (K, I, R, L, sz, ex) (aftr (X z) mT 66 54 ls st (0, 0) Q)) := by
  rw [x66_54]
  refine (inv_v (As := [.ref a0]) (rm := mi66) (ry := mi24) rfl rfl (by decide) rfl rfl (Nat.le_of_ble_eq_true rfl) rfl rfl).trans ?_
  refine congrArg _ ?_
  exact Eq.trans (congrArg _ (and_t (Nat.zero_le _))) (congrArg _ (and_t (Nat.zero_le _)))
theorem v69_24 {z : P0} {ls : Lcs} {st : List Value} {c n : Nat} {K : Nat → Nat × Nat} {I : Nat → Nat → Int32} {R : Nat → Nat → Option Nat} {L : Nat → Nat → Int64} {sz : Nat} {ex : Bool} {Q : Res → Mem → Prop} {x : Nat} {a0 : Int32} : X z 69 24 ls (.int a0 :: .ref x :: st) (0, 0) (K, I, R, L, sz, ex) Q = ((K x).1 = 100 ∧ wsum st ≤ 8 ∧ X z 1 0 [some (.ref x), some (.int a0), none, none] [] (0, 0) (K, I, R, L, sz, ex) (aftr (X z) mT 69 24 ls st (0, 0) Q)) := by
  rw [x69_24]
  refine (inv_v (As := [.int a0]) (rm := mi69) (ry := mi1) rfl rfl (by decide) rfl rfl (Nat.le_of_ble_eq_true rfl) rfl rfl).trans ?_
  refine congrArg _ ?_
  exact Eq.trans (congrArg _ (and_t (Nat.zero_le _))) (congrArg _ (and_t (Nat.zero_le _)))
theorem v71_2 {z : P0} {ls : Lcs} {st : List Value} {c n : Nat} {K : Nat → Nat × Nat} {I : Nat → Nat → Int32} {R : Nat → Nat → Option Nat} {L : Nat → Nat → Int64} {sz : Nat} {ex : Bool} {Q : Res → Mem → Prop} {x : Nat} {a0 : Int32} : X z 71 2 ls (.int a0 :: .ref x :: st) (0, 0) (K, I, R, L, sz, ex) Q = ((K x).1 = 110 ∧ wsum st ≤ 8 ∧ X z 89 0 [some (.ref x), some (.int a0)] [] (0, 0) (K, I, R, L, sz, ex) (aftr (X z) mT 71 2 ls st (0, 0) Q)) := by
  rw [x71_2]
  refine (inv_v (As := [.int a0]) (rm := mi71) (ry := mi89) rfl rfl (by decide) rfl rfl (Nat.le_of_ble_eq_true rfl) rfl rfl).trans ?_
  refine congrArg _ ?_
  exact Eq.trans (congrArg _ (and_t (Nat.zero_le _))) (congrArg _ (and_t (Nat.zero_le _)))
theorem v71_53 {z : P0} {ls : Lcs} {st : List Value} {c n : Nat} {K : Nat → Nat × Nat} {I : Nat → Nat → Int32} {R : Nat → Nat → Option Nat} {L : Nat → Nat → Int64} {sz : Nat} {ex : Bool} {Q : Res → Mem → Prop} {x : Nat} {a0 : Nat} {a1 : Nat} : X z 71 53 ls (.ref a1 :: .ref a0 :: .ref x :: st) (0, 0) (K, I, R, L, sz, ex) Q = ((K x).1 = 106 ∧ wsum st ≤ 8 ∧ X z 38 0 [some (.ref x), some (.ref a0), some (.ref a1), none, none] [] (0, 0) (K, I, R, L, sz, ex) (aftr (X z) mT 71 53 ls st (0, 0) Q)) := by
  rw [x71_53]
  refine (inv_v (As := [.ref a0, .ref a1]) (rm := mi71) (ry := mi38) rfl rfl (by decide) rfl rfl (Nat.le_of_ble_eq_true rfl) rfl rfl).trans ?_
  refine congrArg _ ?_
  exact Eq.trans (congrArg _ (and_t (Nat.zero_le _))) (congrArg _ (and_t (Nat.zero_le _)))
theorem v71_59 {z : P0} {ls : Lcs} {st : List Value} {c n : Nat} {K : Nat → Nat × Nat} {I : Nat → Nat → Int32} {R : Nat → Nat → Option Nat} {L : Nat → Nat → Int64} {sz : Nat} {ex : Bool} {Q : Res → Mem → Prop} {x : Nat} {a0 : Int32} {a1 : Int32} : X z 71 59 ls (.int a1 :: .int a0 :: .ref x :: st) (0, 0) (K, I, R, L, sz, ex) Q = ((K x).1 = 110 ∧ wsum st ≤ 8 ∧ X z 93 0 [some (.ref x), some (.int a0), some (.int a1), none] [] (0, 0) (K, I, R, L, sz, ex) (aftr (X z) mT 71 59 ls st (0, 0) Q)) := by
  rw [x71_59]
  refine (inv_v (As := [.int a0, .int a1]) (rm := mi71) (ry := mi93) rfl rfl (by decide) rfl rfl (Nat.le_of_ble_eq_true rfl) rfl rfl).trans ?_
  refine congrArg _ ?_
  exact Eq.trans (congrArg _ (and_t (Nat.zero_le _))) (congrArg _ (and_t (Nat.zero_le _)))
theorem v74_15 {z : P0} {ls : Lcs} {st : List Value} {c n : Nat} {K : Nat → Nat × Nat} {I : Nat → Nat → Int32} {R : Nat → Nat → Option Nat} {L : Nat → Nat → Int64} {sz : Nat} {ex : Bool} {Q : Res → Mem → Prop} {x : Nat} {a0 : Nat} {a1 : Nat} : X z 74 15 ls (.ref a1 :: .ref a0 :: .ref x :: st) (0, 0) (K, I, R, L, sz, ex) Q = ((K x).1 = 106 ∧ wsum st ≤ 8 ∧ X z 38 0 [some (.ref x), some (.ref a0), some (.ref a1), none, none] [] (0, 0) (K, I, R, L, sz, ex) (aftr (X z) mT 74 15 ls st (0, 0) Q)) := by
  rw [x74_15]
  refine (inv_v (As := [.ref a0, .ref a1]) (rm := mi74) (ry := mi38) rfl rfl (by decide) rfl rfl (Nat.le_of_ble_eq_true rfl) rfl rfl).trans ?_
  refine congrArg _ ?_
  exact Eq.trans (congrArg _ (and_t (Nat.zero_le _))) (congrArg _ (and_t (Nat.zero_le _)))
theorem v74_23 {z : P0} {ls : Lcs} {st : List Value} {c n : Nat} {K : Nat → Nat × Nat} {I : Nat → Nat → Int32} {R : Nat → Nat → Option Nat} {L : Nat → Nat → Int64} {sz : Nat} {ex : Bool} {Q : Res → Mem → Prop} {x : Nat} {a0 : Int32} : X z 74 23 ls (.int a0 :: .ref x :: st) (0, 0) (K, I, R, L, sz, ex) Q = ((K x).1 = 106 ∧ wsum st ≤ 8 ∧ X z 37 0 [some (.ref x), some (.int a0)] [] (0, 0) (K, I, R, L, sz, ex) (aftr (X z) mT 74 23 ls st (0, 0) Q)) := by
  rw [x74_23]
  refine (inv_v (As := [.int a0]) (rm := mi74) (ry := mi37) rfl rfl (by decide) rfl rfl (Nat.le_of_ble_eq_true rfl) rfl rfl).trans ?_
  refine congrArg _ ?_
  exact Eq.trans (congrArg _ (and_t (Nat.zero_le _))) (congrArg _ (and_t (Nat.zero_le _)))
theorem v74_64 {z : P0} {ls : Lcs} {st : List Value} {c n : Nat} {K : Nat → Nat × Nat} {I : Nat → Nat → Int32} {R : Nat → Nat → Option Nat} {L : Nat → Nat → Int64} {sz : Nat} {ex : Bool} {Q : Res → Mem → Prop} {x : Nat} {a0 : Int32} {a1 : Int32} : X z 74 64 ls (.int a1 :: .int a0 :: .ref x :: st) (0, 0) (K, I, R, L, sz, ex) Q = ((K x).1 = 110 ∧ wsum st ≤ 8 ∧ X z 95 0 [some (.ref x), some (.int a0), some (.int a1), none] [] (0, 0) (K, I, R, L, sz, ex) (aftr (X z) mT 74 64 ls st (0, 0) Q)) := by
  rw [x74_64]
  refine (inv_v (As := [.int a0, .int a1]) (rm := mi74) (ry := mi95) rfl rfl (by decide) rfl rfl (Nat.le_of_ble_eq_true rfl) rfl rfl).trans ?_
  refine congrArg _ ?_
  exact Eq.trans (congrArg _ (and_t (Nat.zero_le _))) (congrArg _ (and_t (Nat.zero_le _)))
theorem v75_15 {z : P0} {ls : Lcs} {st : List Value} {c n : Nat} {K : Nat → Nat × Nat} {I : Nat → Nat → Int32} {R : Nat → Nat → Option Nat} {L : Nat → Nat → Int64} {sz : Nat} {ex : Bool} {Q : Res → Mem → Prop} {x : Nat} {a0 : Nat} {a1 : Nat} : X z 75 15 ls (.ref a1 :: .ref a0 :: .ref x :: st) (0, 0) (K, I, R, L, sz, ex) Q = ((K x).1 = 106 ∧ wsum st ≤ 8 ∧ X z 38 0 [some (.ref x), some (.ref a0), some (.ref a1), none, none] [] (0, 0) (K, I, R, L, sz, ex) (aftr (X z) mT 75 15 ls st (0, 0) Q)) := by
  rw [x75_15]
  refine (inv_v (As := [.ref a0, .ref a1]) (rm := mi75) (ry := mi38) rfl rfl (by decide) rfl rfl (Nat.le_of_ble_eq_true rfl) rfl rfl).trans ?_
  refine congrArg _ ?_
  exact Eq.trans (congrArg _ (and_t (Nat.zero_le _))) (congrArg _ (and_t (Nat.zero_le _)))
theorem v75_23 {z : P0} {ls : Lcs} {st : List Value} {c n : Nat} {K : Nat → Nat × Nat} {I : Nat → Nat → Int32} {R : Nat → Nat → Option Nat} {L : Nat → Nat → Int64} {sz : Nat} {ex : Bool} {Q : Res → Mem → Prop} {x : Nat} {a0 : Int32} : X z 75 23 ls (.int a0 :: .ref x :: st) (0, 0) (K, I, R, L, sz, ex) Q = ((K x).1 = 106 ∧ wsum st ≤ 8 ∧ X z 37 0 [some (.ref x), some (.int a0)] [] (0, 0) (K, I, R, L, sz, ex) (aftr (X z) mT 75 23 ls st (0, 0) Q)) := by
  rw [x75_23]
  refine (inv_v (As := [.int a0]) (rm := mi75) (ry := mi37) rfl rfl (by decide) rfl rfl (Nat.le_of_ble_eq_true rfl) rfl rfl).trans ?_
  refine congrArg _ ?_
  exact Eq.trans (congrArg _ (and_t (Nat.zero_le _))) (congrArg _ (and_t (Nat.zero_le _)))
theorem v75_80 {z : P0} {ls : Lcs} {st : List Value} {c n : Nat} {K : Nat → Nat × Nat} {I : Nat → Nat → Int32} {R : Nat → Nat → Option Nat} {L : Nat → Nat → Int64} {sz : Nat} {ex : Bool} {Q : Res → Mem → Prop} {x : Nat} {a0 : Nat} {a1 : Nat} : X z 75 80 ls (.ref a1 :: .ref a0 :: .ref x :: st) (0, 0) (K, I, R, L, sz, ex) Q = ((K x).1 = 101 ∧ wsum st ≤ 8 ∧ X z 10 0 [some (.ref x), some (.ref a0), some (.ref a1), none, none, none, none] [] (0, 0) (K, I, R, L, sz, ex) (aftr (X z) mT 75 80 ls st (0, 0) Q)) := by
  rw [x75_80]
  refine (inv_v (As := [.ref a0, .ref a1]) (rm := mi75) (ry := mi10) rfl rfl (by decide) rfl rfl (Nat.le_of_ble_eq_true rfl) rfl rfl).trans ?_
  refine congrArg _ ?_
  exact Eq.trans (congrArg _ (and_t (Nat.zero_le _))) (congrArg _ (and_t (Nat.zero_le _)))
theorem v76_15 {z : P0} {ls : Lcs} {st : List Value} {c n : Nat} {K : Nat → Nat × Nat} {I : Nat → Nat → Int32} {R : Nat → Nat → Option Nat} {L : Nat → Nat → Int64} {sz : Nat} {ex : Bool} {Q : Res → Mem → Prop} {x : Nat} {a0 : Nat} {a1 : Nat} : X z 76 15 ls (.ref a1 :: .ref a0 :: .ref x :: st) (0, 0) (K, I, R, L, sz, ex) Q = ((K x).1 = 106 ∧ wsum st ≤ 8 ∧ X z 38 0 [some (.ref x), some (.ref a0), some (.ref a1), none, none] [] (0, 0) (K, I, R, L, sz, ex) (aftr (X z) mT 76 15 ls st (0, 0) Q)) := by
  rw [x76_15]
  refine (inv_v (As := [.ref a0, .ref a1]) (rm := mi76) (ry := mi38) rfl rfl (by decide) rfl rfl (Nat.le_of_ble_eq_true rfl) rfl rfl).trans ?_
  refine congrArg _ ?_
  exact Eq.trans (congrArg _ (and_t (Nat.zero_le _))) (congrArg _ (and_t (Nat.zero_le _)))
theorem v76_23 {z : P0} {ls : Lcs} {st : List Value} {c n : Nat} {K : Nat → Nat × Nat} {I : Nat → Nat → Int32} {R : Nat → Nat → Option Nat} {L : Nat → Nat → Int64} {sz : Nat} {ex : Bool} {Q : Res → Mem → Prop} {x : Nat} {a0 : Int32} : X z 76 23 ls (.int a0 :: .ref x :: st) (0, 0) (K, I, R, L, sz, ex) Q = ((K x).1 = 106 ∧ wsum st ≤ 8 ∧ X z 37 0 [some (.ref x), some (.int a0)] [] (0, 0) (K, I, R, L, sz, ex) (aftr (X z) mT 76 23 ls st (0, 0) Q)) := by
  rw [x76_23]
  refine (inv_v (As := [.int a0]) (rm := mi76) (ry := mi37) rfl rfl (by decide) rfl rfl (Nat.le_of_ble_eq_true rfl) rfl rfl).trans ?_
  refine congrArg _ ?_
  exact Eq.trans (congrArg _ (and_t (Nat.zero_le _))) (congrArg _ (and_t (Nat.zero_le _)))
theorem v76_49 {z : P0} {ls : Lcs} {st : List Value} {c n : Nat} {K : Nat → Nat × Nat} {I : Nat → Nat → Int32} {R : Nat → Nat → Option Nat} {L : Nat → Nat → Int64} {sz : Nat} {ex : Bool} {Q : Res → Mem → Prop} {x : Nat}  : X z 76 49 ls (.ref x :: st) (0, 0) (K, I, R, L, sz, ex) Q = ((K x).1 = 102 ∧ wsum st ≤ 8 ∧ X z 22 0 [some (.ref x), none, none] [] (0, 0) (K, I, R, L, sz, ex) (aftr (X z) mT 76 49 ls st (0, 0) Q)) := by
  rw [x76_49]
  refine (inv_v (As := []) (rm := mi76) (ry := mi22) rfl rfl (by decide) rfl rfl (Nat.le_of_ble_eq_true rfl) rfl rfl).trans ?_
  refine congrArg _ ?_
  exact Eq.trans (congrArg _ (and_t (Nat.zero_le _))) (congrArg _ (and_t (Nat.zero_le _)))
theorem v77_36 {z : P0} {ls : Lcs} {st : List Value} {c n : Nat} {K : Nat → Nat × Nat} {I : Nat → Nat → Int32} {R : Nat → Nat → Option Nat} {L : Nat → Nat → Int64} {sz : Nat} {ex : Bool} {Q : Res → Mem → Prop} {x : Nat} {a0 : Nat} {a1 : Nat} : X z 77 36 ls (.ref a1 :: .ref a0 :: .ref x :: st) (0, 0) (K, I, R, L, sz, ex) Q = ((K x).1 = 106 ∧ wsum st ≤ 8 ∧ X z 38 0 [some (.ref x), some (.ref a0), some (.ref a1), none, none] [] (0, 0) (K, I, R, L, sz, ex) (aftr (X z) mT 77 36 ls st (0, 0) Q)) := by
  rw [x77_36]
  refine (inv_v (As := [.ref a0, .ref a1]) (rm := mi77) (ry := mi38) rfl rfl (by decide) rfl rfl (Nat.le_of_ble_eq_true rfl) rfl rfl).trans ?_
  refine congrArg _ ?_
  exact Eq.trans (congrArg _ (and_t (Nat.zero_le _))) (congrArg _ (and_t (Nat.zero_le _)))
theorem v77_41 {z : P0} {ls : Lcs} {st : List Value} {c n : Nat} {K : Nat → Nat × Nat} {I : Nat → Nat → Int32} {R : Nat → Nat → Option Nat} {L : Nat → Nat → Int64} {sz : Nat} {ex : Bool} {Q : Res → Mem → Prop} {x : Nat} {a0 : Int32} : X z 77 41 ls (.int a0 :: .ref x :: st) (0, 0) (K, I, R, L, sz, ex) Q = ((K x).1 = 110 ∧ wsum st ≤ 8 ∧ X z 96 0 [some (.ref x), some (.int a0)] [] (0, 0) (K, I, R, L, sz, ex) (aftr (X z) mT 77 41 ls st (0, 0) Q)) := by
  rw [x77_41]
  refine (inv_v (As := [.int a0]) (rm := mi77) (ry := mi96) rfl rfl (by decide) rfl rfl (Nat.le_of_ble_eq_true rfl) rfl rfl).trans ?_
  refine congrArg _ ?_
  exact Eq.trans (congrArg _ (and_t (Nat.zero_le _))) (congrArg _ (and_t (Nat.zero_le _)))
theorem v96_95 {z : P0} {ls : Lcs} {st : List Value} {c n : Nat} {K : Nat → Nat × Nat} {I : Nat → Nat → Int32} {R : Nat → Nat → Option Nat} {L : Nat → Nat → Int64} {sz : Nat} {ex : Bool} {Q : Res → Mem → Prop} {x : Nat}  : X z 96 95 ls (.ref x :: st) (0, 0) (K, I, R, L, sz, ex) Q = ((K x).1 = 104 ∧ wsum st ≤ 8 ∧ X z 29 0 [some (.ref x), none, none] [] (0, 0) (K, I, R, L, sz, ex) (aftr (X z) mT 96 95 ls st (0, 0) Q)) := by
  rw [x96_95]
  refine (inv_v (As := []) (rm := mi96) (ry := mi29) rfl rfl (by decide) rfl rfl (Nat.le_of_ble_eq_true rfl) rfl rfl).trans ?_
  refine congrArg _ ?_
  exact Eq.trans (congrArg _ (and_t (Nat.zero_le _))) (congrArg _ (and_t (Nat.zero_le _)))
theorem v96_175 {z : P0} {ls : Lcs} {st : List Value} {c n : Nat} {K : Nat → Nat × Nat} {I : Nat → Nat → Int32} {R : Nat → Nat → Option Nat} {L : Nat → Nat → Int64} {sz : Nat} {ex : Bool} {Q : Res → Mem → Prop} {x : Nat}  : X z 96 175 ls (.ref x :: st) (0, 0) (K, I, R, L, sz, ex) Q = ((K x).1 = 108 ∧ wsum st ≤ 8 ∧ X z 50 0 [some (.ref x), none, none] [] (0, 0) (K, I, R, L, sz, ex) (aftr (X z) mT 96 175 ls st (0, 0) Q)) := by
  rw [x96_175]
  refine (inv_v (As := []) (rm := mi96) (ry := mi50) rfl rfl (by decide) rfl rfl (Nat.le_of_ble_eq_true rfl) rfl rfl).trans ?_
  refine congrArg _ ?_
  exact Eq.trans (congrArg _ (and_t (Nat.zero_le _))) (congrArg _ (and_t (Nat.zero_le _)))
theorem v96_186 {z : P0} {ls : Lcs} {st : List Value} {c n : Nat} {K : Nat → Nat × Nat} {I : Nat → Nat → Int32} {R : Nat → Nat → Option Nat} {L : Nat → Nat → Int64} {sz : Nat} {ex : Bool} {Q : Res → Mem → Prop} {x : Nat}  : X z 96 186 ls (.ref x :: st) (0, 0) (K, I, R, L, sz, ex) Q = ((K x).1 = 104 ∧ wsum st ≤ 8 ∧ X z 30 0 [some (.ref x), none, none] [] (0, 0) (K, I, R, L, sz, ex) (aftr (X z) mT 96 186 ls st (0, 0) Q)) := by
  rw [x96_186]
  refine (inv_v (As := []) (rm := mi96) (ry := mi30) rfl rfl (by decide) rfl rfl (Nat.le_of_ble_eq_true rfl) rfl rfl).trans ?_
  refine congrArg _ ?_
  exact Eq.trans (congrArg _ (and_t (Nat.zero_le _))) (congrArg _ (and_t (Nat.zero_le _)))
theorem v185_6 {z : P0} {ls : Lcs} {st : List Value} {c n : Nat} {K : Nat → Nat × Nat} {I : Nat → Nat → Int32} {R : Nat → Nat → Option Nat} {L : Nat → Nat → Int64} {sz : Nat} {ex : Bool} {Q : Res → Mem → Prop} {x : Nat}  : X z 185 6 ls (.ref x :: st) (0, 0) (K, I, R, L, sz, ex) Q = ((K x).1 = 52 ∧ wsum st ≤ 8 ∧ X z 187 0 [some (.ref x)] [] (0, 0) (K, I, R, L, sz, ex) (aftr (X z) mT 185 6 ls st (0, 0) Q)) := by
  rw [x185_6]
  refine (inv_v (As := []) (rm := mi185) (ry := mi187) rfl rfl (by decide) rfl rfl (Nat.le_of_ble_eq_true rfl) rfl rfl).trans ?_
  refine congrArg _ ?_
  exact Eq.trans (congrArg _ (and_t (Nat.zero_le _))) (congrArg _ (and_t (Nat.zero_le _)))
theorem v186_1 {z : P0} {ls : Lcs} {st : List Value} {c n : Nat} {K : Nat → Nat × Nat} {I : Nat → Nat → Int32} {R : Nat → Nat → Option Nat} {L : Nat → Nat → Int64} {sz : Nat} {ex : Bool} {Q : Res → Mem → Prop} {x : Nat}  : X z 186 1 ls (.ref x :: st) (0, 0) (K, I, R, L, sz, ex) Q = ((K x).1 = 52 ∧ wsum st ≤ 8 ∧ X z 188 0 [some (.ref x)] [] (0, 0) (K, I, R, L, sz, ex) (aftr (X z) mT 186 1 ls st (0, 0) Q)) := by
  rw [x186_1]
  refine (inv_v (As := []) (rm := mi186) (ry := mi188) rfl rfl (by decide) rfl rfl (Nat.le_of_ble_eq_true rfl) rfl rfl).trans ?_
  refine congrArg _ ?_
  exact Eq.trans (congrArg _ (and_t (Nat.zero_le _))) (congrArg _ (and_t (Nat.zero_le _)))
theorem v186_12 {z : P0} {ls : Lcs} {st : List Value} {c n : Nat} {K : Nat → Nat × Nat} {I : Nat → Nat → Int32} {R : Nat → Nat → Option Nat} {L : Nat → Nat → Int64} {sz : Nat} {ex : Bool} {Q : Res → Mem → Prop}  {a0 : Nat} {a1 : Int32} : X z 186 12 ls (.int a1 :: .ref a0 :: st) (0, 0) (K, I, R, L, sz, ex) Q = (wsum st ≤ 8 ∧ X z 190 0 [some (.ref a0), some (.int a1)] [] (0, 0) (K, I, R, L, sz, ex) (aftr (X z) mT 186 12 ls st (0, 0) Q)) := by
  rw [x186_12]
  refine (inv_s (As := [.ref a0, .int a1]) (rm := mi186) (ry := mi190) rfl rfl (by decide) rfl rfl (Nat.le_of_ble_eq_true rfl) rfl (by decide)).trans ?_
  exact Eq.trans (congrArg _ (and_t (Nat.zero_le _))) (congrArg _ (and_t (Nat.zero_le _)))
theorem v190_3 {z : P0} {ls : Lcs} {st : List Value} {c n : Nat} {K : Nat → Nat × Nat} {I : Nat → Nat → Int32} {R : Nat → Nat → Option Nat} {L : Nat → Nat → Int64} {sz : Nat} {ex : Bool} {Q : Res → Mem → Prop}  {a0 : Int32} {a1 : Int32} : X z 190 3 ls (.int a1 :: .int a0 :: st) (0, 0) (K, I, R, L, sz, ex) Q = (wsum st ≤ 8 ∧ X z 189 0 [some (.int a0), some (.int a1)] [] (0, 0) (K, I, R, L, sz, ex) (aftr (X z) mT 190 3 ls st (0, 0) Q)) := by
  rw [x190_3]
  refine (inv_s (As := [.int a0, .int a1]) (rm := mi190) (ry := mi189) rfl rfl (by decide) rfl rfl (Nat.le_of_ble_eq_true rfl) rfl (by decide)).trans ?_
  exact Eq.trans (congrArg _ (and_t (Nat.zero_le _))) (congrArg _ (and_t (Nat.zero_le _)))
theorem v195_1 {z : P0} {ls : Lcs} {st : List Value} {c n : Nat} {K : Nat → Nat × Nat} {I : Nat → Nat → Int32} {R : Nat → Nat → Option Nat} {L : Nat → Nat → Int64} {sz : Nat} {ex : Bool} {Q : Res → Mem → Prop} {x : Nat}  : X z 195 1 ls (.ref x :: st) (c, n) (K, I, R, L, sz, ex) Q = ((K x).1 = 110 ∧ wsum st ≤ 8 ∧ c + 0 ≤ 20 ∧ n + 0 ≤ 120 ∧ X z 68 0 [some (.ref x), none] [] (0, 0) (K, I, R, L, sz, ex) (aftr (X z) mT 195 1 ls st (c + 0, n + 0) Q)) := by
  rw [x195_1]
  exact inv_v (As := []) (rm := mi195) (ry := mi68) rfl rfl (by decide) rfl rfl (Nat.le_of_ble_eq_true rfl) rfl rfl
theorem v195_20 {z : P0} {ls : Lcs} {st : List Value} {c n : Nat} {K : Nat → Nat × Nat} {I : Nat → Nat → Int32} {R : Nat → Nat → Option Nat} {L : Nat → Nat → Int64} {sz : Nat} {ex : Bool} {Q : Res → Mem → Prop}  {a0 : Int32} {a1 : Int32} {a2 : Int32} {a3 : Int32} : X z 195 20 ls (.int a3 :: .int a2 :: .int a1 :: .int a0 :: st) (c, n) (K, I, R, L, sz, ex) Q = (wsum st ≤ 8 ∧ c + 0 ≤ 20 ∧ n + 0 ≤ 120 ∧ X z 194 0 [some (.int a0), some (.int a1), some (.int a2), some (.int a3)] [] (0, 0) (K, I, R, L, sz, ex) (aftr (X z) mT 195 20 ls st (c + 0, n + 0) Q)) := by
  rw [x195_20]
  exact inv_s (As := [.int a0, .int a1, .int a2, .int a3]) (rm := mi195) (ry := mi194) rfl rfl (by decide) rfl rfl (Nat.le_of_ble_eq_true rfl) rfl (by decide)
theorem v195_23 {z : P0} {ls : Lcs} {st : List Value} {c n : Nat} {K : Nat → Nat × Nat} {I : Nat → Nat → Int32} {R : Nat → Nat → Option Nat} {L : Nat → Nat → Int64} {sz : Nat} {ex : Bool} {Q : Res → Mem → Prop} {x : Nat} {a0 : Int32} : X z 195 23 ls (.int a0 :: .ref x :: st) (c, n) (K, I, R, L, sz, ex) Q = ((K x).1 = 110 ∧ wsum st ≤ 8 ∧ c + 1 ≤ 20 ∧ n + 6 ≤ 120 ∧ X z 67 0 [some (.ref x), some (.int a0)] [] (0, 0) (K, I, R, L, sz, ex) (aftr (X z) mT 195 23 ls st (c + 1, n + 6) Q)) := by
  rw [x195_23]
  exact inv_v (As := [.int a0]) (rm := mi195) (ry := mi67) rfl rfl (by decide) rfl rfl (Nat.le_of_ble_eq_true rfl) rfl rfl
theorem v195_35 {z : P0} {ls : Lcs} {st : List Value} {c n : Nat} {K : Nat → Nat × Nat} {I : Nat → Nat → Int32} {R : Nat → Nat → Option Nat} {L : Nat → Nat → Int64} {sz : Nat} {ex : Bool} {Q : Res → Mem → Prop} {x : Nat} {a0 : Int32} : X z 195 35 ls (.int a0 :: .ref x :: st) (c, n) (K, I, R, L, sz, ex) Q = ((K x).1 = 110 ∧ wsum st ≤ 8 ∧ c + 1 ≤ 20 ∧ n + 6 ≤ 120 ∧ X z 69 0 [some (.ref x), some (.int a0)] [] (0, 0) (K, I, R, L, sz, ex) (aftr (X z) mT 195 35 ls st (c + 1, n + 6) Q)) := by
  rw [x195_35]
  exact inv_v (As := [.int a0]) (rm := mi195) (ry := mi69) rfl rfl (by decide) rfl rfl (Nat.le_of_ble_eq_true rfl) rfl rfl
theorem v195_57 {z : P0} {ls : Lcs} {st : List Value} {c n : Nat} {K : Nat → Nat × Nat} {I : Nat → Nat → Int32} {R : Nat → Nat → Option Nat} {L : Nat → Nat → Int64} {sz : Nat} {ex : Bool} {Q : Res → Mem → Prop} {x : Nat} {a0 : Int32} {a1 : Int32} : X z 195 57 ls (.int a1 :: .int a0 :: .ref x :: st) (c, n) (K, I, R, L, sz, ex) Q = ((K x).1 = 110 ∧ wsum st ≤ 8 ∧ c + 1 ≤ 20 ∧ n + 6 ≤ 120 ∧ X z 58 0 [some (.ref x), some (.int a0), some (.int a1), none] [] (0, 0) (K, I, R, L, sz, ex) (aftr (X z) mT 195 57 ls st (c + 1, n + 6) Q)) := by
  rw [x195_57]
  exact inv_v (As := [.int a0, .int a1]) (rm := mi195) (ry := mi58) rfl rfl (by decide) rfl rfl (Nat.le_of_ble_eq_true rfl) rfl rfl
theorem v195_65 {z : P0} {ls : Lcs} {st : List Value} {c n : Nat} {K : Nat → Nat × Nat} {I : Nat → Nat → Int32} {R : Nat → Nat → Option Nat} {L : Nat → Nat → Int64} {sz : Nat} {ex : Bool} {Q : Res → Mem → Prop} {x : Nat}  : X z 195 65 ls (.ref x :: st) (c, n) (K, I, R, L, sz, ex) Q = ((K x).1 = 110 ∧ wsum st ≤ 8 ∧ c + 0 ≤ 20 ∧ n + 0 ≤ 120 ∧ X z 68 0 [some (.ref x), none] [] (0, 0) (K, I, R, L, sz, ex) (aftr (X z) mT 195 65 ls st (c + 0, n + 0) Q)) := by
  rw [x195_65]
  exact inv_v (As := []) (rm := mi195) (ry := mi68) rfl rfl (by decide) rfl rfl (Nat.le_of_ble_eq_true rfl) rfl rfl
theorem v196_1 {z : P0} {ls : Lcs} {st : List Value} {c n : Nat} {K : Nat → Nat × Nat} {I : Nat → Nat → Int32} {R : Nat → Nat → Option Nat} {L : Nat → Nat → Int64} {sz : Nat} {ex : Bool} {Q : Res → Mem → Prop} {x : Nat}  : X z 196 1 ls (.ref x :: st) (c, n) (K, I, R, L, sz, ex) Q = ((K x).1 = 110 ∧ wsum st ≤ 8 ∧ c + 0 ≤ 20 ∧ n + 0 ≤ 120 ∧ X z 68 0 [some (.ref x), none] [] (0, 0) (K, I, R, L, sz, ex) (aftr (X z) mT 196 1 ls st (c + 0, n + 0) Q)) := by
  rw [x196_1]
  exact inv_v (As := []) (rm := mi196) (ry := mi68) rfl rfl (by decide) rfl rfl (Nat.le_of_ble_eq_true rfl) rfl rfl
theorem v196_20 {z : P0} {ls : Lcs} {st : List Value} {c n : Nat} {K : Nat → Nat × Nat} {I : Nat → Nat → Int32} {R : Nat → Nat → Option Nat} {L : Nat → Nat → Int64} {sz : Nat} {ex : Bool} {Q : Res → Mem → Prop}  {a0 : Int32} {a1 : Int32} {a2 : Int32} {a3 : Int32} : X z 196 20 ls (.int a3 :: .int a2 :: .int a1 :: .int a0 :: st) (c, n) (K, I, R, L, sz, ex) Q = (wsum st ≤ 8 ∧ c + 0 ≤ 20 ∧ n + 0 ≤ 120 ∧ X z 194 0 [some (.int a0), some (.int a1), some (.int a2), some (.int a3)] [] (0, 0) (K, I, R, L, sz, ex) (aftr (X z) mT 196 20 ls st (c + 0, n + 0) Q)) := by
  rw [x196_20]
  exact inv_s (As := [.int a0, .int a1, .int a2, .int a3]) (rm := mi196) (ry := mi194) rfl rfl (by decide) rfl rfl (Nat.le_of_ble_eq_true rfl) rfl (by decide)
theorem v196_23 {z : P0} {ls : Lcs} {st : List Value} {c n : Nat} {K : Nat → Nat × Nat} {I : Nat → Nat → Int32} {R : Nat → Nat → Option Nat} {L : Nat → Nat → Int64} {sz : Nat} {ex : Bool} {Q : Res → Mem → Prop} {x : Nat} {a0 : Int32} : X z 196 23 ls (.int a0 :: .ref x :: st) (c, n) (K, I, R, L, sz, ex) Q = ((K x).1 = 110 ∧ wsum st ≤ 8 ∧ c + 1 ≤ 20 ∧ n + 6 ≤ 120 ∧ X z 67 0 [some (.ref x), some (.int a0)] [] (0, 0) (K, I, R, L, sz, ex) (aftr (X z) mT 196 23 ls st (c + 1, n + 6) Q)) := by
  rw [x196_23]
  exact inv_v (As := [.int a0]) (rm := mi196) (ry := mi67) rfl rfl (by decide) rfl rfl (Nat.le_of_ble_eq_true rfl) rfl rfl
theorem v196_40 {z : P0} {ls : Lcs} {st : List Value} {c n : Nat} {K : Nat → Nat × Nat} {I : Nat → Nat → Int32} {R : Nat → Nat → Option Nat} {L : Nat → Nat → Int64} {sz : Nat} {ex : Bool} {Q : Res → Mem → Prop} {x : Nat} {a0 : Int32} : X z 196 40 ls (.int a0 :: .ref x :: st) (c, n) (K, I, R, L, sz, ex) Q = ((K x).1 = 110 ∧ wsum st ≤ 8 ∧ c + 1 ≤ 20 ∧ n + 6 ≤ 120 ∧ X z 67 0 [some (.ref x), some (.int a0)] [] (0, 0) (K, I, R, L, sz, ex) (aftr (X z) mT 196 40 ls st (c + 1, n + 6) Q)) := by
  rw [x196_40]
  exact inv_v (As := [.int a0]) (rm := mi196) (ry := mi67) rfl rfl (by decide) rfl rfl (Nat.le_of_ble_eq_true rfl) rfl rfl
theorem v196_46 {z : P0} {ls : Lcs} {st : List Value} {c n : Nat} {K : Nat → Nat × Nat} {I : Nat → Nat → Int32} {R : Nat → Nat → Option Nat} {L : Nat → Nat → Int64} {sz : Nat} {ex : Bool} {Q : Res → Mem → Prop} {x : Nat} {a0 : Int32} : X z 196 46 ls (.int a0 :: .ref x :: st) (c, n) (K, I, R, L, sz, ex) Q = ((K x).1 = 110 ∧ wsum st ≤ 8 ∧ c + 1 ≤ 20 ∧ n + 6 ≤ 120 ∧ X z 69 0 [some (.ref x), some (.int a0)] [] (0, 0) (K, I, R, L, sz, ex) (aftr (X z) mT 196 46 ls st (c + 1, n + 6) Q)) := by
  rw [x196_46]
  exact inv_v (As := [.int a0]) (rm := mi196) (ry := mi69) rfl rfl (by decide) rfl rfl (Nat.le_of_ble_eq_true rfl) rfl rfl
theorem v196_64 {z : P0} {ls : Lcs} {st : List Value} {c n : Nat} {K : Nat → Nat × Nat} {I : Nat → Nat → Int32} {R : Nat → Nat → Option Nat} {L : Nat → Nat → Int64} {sz : Nat} {ex : Bool} {Q : Res → Mem → Prop} {x : Nat}  : X z 196 64 ls (.ref x :: st) (c, n) (K, I, R, L, sz, ex) Q = ((K x).1 = 110 ∧ wsum st ≤ 8 ∧ c + 1 ≤ 20 ∧ n + 6 ≤ 120 ∧ X z 59 0 [some (.ref x), none] [] (0, 0) (K, I, R, L, sz, ex) (aftr (X z) mT 196 64 ls st (c + 1, n + 6) Q)) := by
  rw [x196_64]
  exact inv_v (As := []) (rm := mi196) (ry := mi59) rfl rfl (by decide) rfl rfl (Nat.le_of_ble_eq_true rfl) rfl rfl
theorem v196_72 {z : P0} {ls : Lcs} {st : List Value} {c n : Nat} {K : Nat → Nat × Nat} {I : Nat → Nat → Int32} {R : Nat → Nat → Option Nat} {L : Nat → Nat → Int64} {sz : Nat} {ex : Bool} {Q : Res → Mem → Prop} {x : Nat}  : X z 196 72 ls (.ref x :: st) (c, n) (K, I, R, L, sz, ex) Q = ((K x).1 = 110 ∧ wsum st ≤ 8 ∧ c + 0 ≤ 20 ∧ n + 0 ≤ 120 ∧ X z 68 0 [some (.ref x), none] [] (0, 0) (K, I, R, L, sz, ex) (aftr (X z) mT 196 72 ls st (c + 0, n + 0) Q)) := by
  rw [x196_72]
  exact inv_v (As := []) (rm := mi196) (ry := mi68) rfl rfl (by decide) rfl rfl (Nat.le_of_ble_eq_true rfl) rfl rfl
theorem v197_1 {z : P0} {ls : Lcs} {st : List Value} {c n : Nat} {K : Nat → Nat × Nat} {I : Nat → Nat → Int32} {R : Nat → Nat → Option Nat} {L : Nat → Nat → Int64} {sz : Nat} {ex : Bool} {Q : Res → Mem → Prop} {x : Nat}  : X z 197 1 ls (.ref x :: st) (c, n) (K, I, R, L, sz, ex) Q = ((K x).1 = 110 ∧ wsum st ≤ 8 ∧ c + 0 ≤ 60 ∧ n + 0 ≤ 360 ∧ X z 68 0 [some (.ref x), none] [] (0, 0) (K, I, R, L, sz, ex) (aftr (X z) mT 197 1 ls st (c + 0, n + 0) Q)) := by
  rw [x197_1]
  exact inv_v (As := []) (rm := mi197) (ry := mi68) rfl rfl (by decide) rfl rfl (Nat.le_of_ble_eq_true rfl) rfl rfl
theorem v197_18 {z : P0} {ls : Lcs} {st : List Value} {c n : Nat} {K : Nat → Nat × Nat} {I : Nat → Nat → Int32} {R : Nat → Nat → Option Nat} {L : Nat → Nat → Int64} {sz : Nat} {ex : Bool} {Q : Res → Mem → Prop}  {a0 : Int32} {a1 : Int32} : X z 197 18 ls (.int a1 :: .int a0 :: st) (c, n) (K, I, R, L, sz, ex) Q = (wsum st ≤ 8 ∧ c + 0 ≤ 60 ∧ n + 0 ≤ 360 ∧ X z 193 0 [some (.int a0), some (.int a1)] [] (0, 0) (K, I, R, L, sz, ex) (aftr (X z) mT 197 18 ls st (c + 0, n + 0) Q)) := by
  rw [x197_18]
  exact inv_s (As := [.int a0, .int a1]) (rm := mi197) (ry := mi193) rfl rfl (by decide) rfl rfl (Nat.le_of_ble_eq_true rfl) rfl (by decide)
theorem v197_40 {z : P0} {ls : Lcs} {st : List Value} {c n : Nat} {K : Nat → Nat × Nat} {I : Nat → Nat → Int32} {R : Nat → Nat → Option Nat} {L : Nat → Nat → Int64} {sz : Nat} {ex : Bool} {Q : Res → Mem → Prop}  {a0 : Int32} {a1 : Int32} : X z 197 40 ls (.int a1 :: .int a0 :: st) (c, n) (K, I, R, L, sz, ex) Q = (wsum st ≤ 8 ∧ c + 0 ≤ 60 ∧ n + 0 ≤ 360 ∧ X z 193 0 [some (.int a0), some (.int a1)] [] (0, 0) (K, I, R, L, sz, ex) (aftr (X z) mT 197 40 ls st (c + 0, n + 0) Q)) := by
  rw [x197_40]
  exact inv_s (As := [.int a0, .int a1]) (rm := mi197) (ry := mi193) rfl rfl (by decide) rfl rfl (Nat.le_of_ble_eq_true rfl) rfl (by decide)
theorem v197_71 {z : P0} {ls : Lcs} {st : List Value} {c n : Nat} {K : Nat → Nat × Nat} {I : Nat → Nat → Int32} {R : Nat → Nat → Option Nat} {L : Nat → Nat → Int64} {sz : Nat} {ex : Bool} {Q : Res → Mem → Prop}  {a0 : Int32} {a1 : Int32} : X z 197 71 ls (.int a1 :: .int a0 :: st) (c, n) (K, I, R, L, sz, ex) Q = (wsum st ≤ 8 ∧ c + 0 ≤ 60 ∧ n + 0 ≤ 360 ∧ X z 193 0 [some (.int a0), some (.int a1)] [] (0, 0) (K, I, R, L, sz, ex) (aftr (X z) mT 197 71 ls st (c + 0, n + 0) Q)) := by
  rw [x197_71]
  exact inv_s (As := [.int a0, .int a1]) (rm := mi197) (ry := mi193) rfl rfl (by decide) rfl rfl (Nat.le_of_ble_eq_true rfl) rfl (by decide)
theorem v197_225 {z : P0} {ls : Lcs} {st : List Value} {c n : Nat} {K : Nat → Nat × Nat} {I : Nat → Nat → Int32} {R : Nat → Nat → Option Nat} {L : Nat → Nat → Int64} {sz : Nat} {ex : Bool} {Q : Res → Mem → Prop} {x : Nat} {a0 : Int32} : X z 197 225 ls (.int a0 :: .ref x :: st) (c, n) (K, I, R, L, sz, ex) Q = ((K x).1 = 110 ∧ wsum st ≤ 8 ∧ c + 1 ≤ 60 ∧ n + 6 ≤ 360 ∧ X z 67 0 [some (.ref x), some (.int a0)] [] (0, 0) (K, I, R, L, sz, ex) (aftr (X z) mT 197 225 ls st (c + 1, n + 6) Q)) := by
  rw [x197_225]
  exact inv_v (As := [.int a0]) (rm := mi197) (ry := mi67) rfl rfl (by decide) rfl rfl (Nat.le_of_ble_eq_true rfl) rfl rfl
theorem v197_236 {z : P0} {ls : Lcs} {st : List Value} {c n : Nat} {K : Nat → Nat × Nat} {I : Nat → Nat → Int32} {R : Nat → Nat → Option Nat} {L : Nat → Nat → Int64} {sz : Nat} {ex : Bool} {Q : Res → Mem → Prop} {x : Nat} {a0 : Int32} : X z 197 236 ls (.int a0 :: .ref x :: st) (c, n) (K, I, R, L, sz, ex) Q = ((K x).1 = 110 ∧ wsum st ≤ 8 ∧ c + 1 ≤ 60 ∧ n + 6 ≤ 360 ∧ X z 67 0 [some (.ref x), some (.int a0)] [] (0, 0) (K, I, R, L, sz, ex) (aftr (X z) mT 197 236 ls st (c + 1, n + 6) Q)) := by
  rw [x197_236]
  exact inv_v (As := [.int a0]) (rm := mi197) (ry := mi67) rfl rfl (by decide) rfl rfl (Nat.le_of_ble_eq_true rfl) rfl rfl
theorem v197_243 {z : P0} {ls : Lcs} {st : List Value} {c n : Nat} {K : Nat → Nat × Nat} {I : Nat → Nat → Int32} {R : Nat → Nat → Option Nat} {L : Nat → Nat → Int64} {sz : Nat} {ex : Bool} {Q : Res → Mem → Prop} {x : Nat} {a0 : Int32} : X z 197 243 ls (.int a0 :: .ref x :: st) (c, n) (K, I, R, L, sz, ex) Q = ((K x).1 = 110 ∧ wsum st ≤ 8 ∧ c + 1 ≤ 60 ∧ n + 6 ≤ 360 ∧ X z 67 0 [some (.ref x), some (.int a0)] [] (0, 0) (K, I, R, L, sz, ex) (aftr (X z) mT 197 243 ls st (c + 1, n + 6) Q)) := by
  rw [x197_243]
  exact inv_v (As := [.int a0]) (rm := mi197) (ry := mi67) rfl rfl (by decide) rfl rfl (Nat.le_of_ble_eq_true rfl) rfl rfl
theorem v197_253 {z : P0} {ls : Lcs} {st : List Value} {c n : Nat} {K : Nat → Nat × Nat} {I : Nat → Nat → Int32} {R : Nat → Nat → Option Nat} {L : Nat → Nat → Int64} {sz : Nat} {ex : Bool} {Q : Res → Mem → Prop} {x : Nat} {a0 : Int32} : X z 197 253 ls (.int a0 :: .ref x :: st) (c, n) (K, I, R, L, sz, ex) Q = ((K x).1 = 110 ∧ wsum st ≤ 8 ∧ c + 1 ≤ 60 ∧ n + 6 ≤ 360 ∧ X z 67 0 [some (.ref x), some (.int a0)] [] (0, 0) (K, I, R, L, sz, ex) (aftr (X z) mT 197 253 ls st (c + 1, n + 6) Q)) := by
  rw [x197_253]
  exact inv_v (As := [.int a0]) (rm := mi197) (ry := mi67) rfl rfl (by decide) rfl rfl (Nat.le_of_ble_eq_true rfl) rfl rfl
theorem v197_328 {z : P0} {ls : Lcs} {st : List Value} {c n : Nat} {K : Nat → Nat × Nat} {I : Nat → Nat → Int32} {R : Nat → Nat → Option Nat} {L : Nat → Nat → Int64} {sz : Nat} {ex : Bool} {Q : Res → Mem → Prop} {x : Nat} {a0 : Int32} : X z 197 328 ls (.int a0 :: .ref x :: st) (c, n) (K, I, R, L, sz, ex) Q = ((K x).1 = 110 ∧ wsum st ≤ 8 ∧ c + 1 ≤ 60 ∧ n + 6 ≤ 360 ∧ X z 67 0 [some (.ref x), some (.int a0)] [] (0, 0) (K, I, R, L, sz, ex) (aftr (X z) mT 197 328 ls st (c + 1, n + 6) Q)) := by
  rw [x197_328]
  exact inv_v (As := [.int a0]) (rm := mi197) (ry := mi67) rfl rfl (by decide) rfl rfl (Nat.le_of_ble_eq_true rfl) rfl rfl
theorem v197_349 {z : P0} {ls : Lcs} {st : List Value} {c n : Nat} {K : Nat → Nat × Nat} {I : Nat → Nat → Int32} {R : Nat → Nat → Option Nat} {L : Nat → Nat → Int64} {sz : Nat} {ex : Bool} {Q : Res → Mem → Prop} {x : Nat} {a0 : Int32} : X z 197 349 ls (.int a0 :: .ref x :: st) (c, n) (K, I, R, L, sz, ex) Q = ((K x).1 = 110 ∧ wsum st ≤ 8 ∧ c + 1 ≤ 60 ∧ n + 6 ≤ 360 ∧ X z 67 0 [some (.ref x), some (.int a0)] [] (0, 0) (K, I, R, L, sz, ex) (aftr (X z) mT 197 349 ls st (c + 1, n + 6) Q)) := by
  rw [x197_349]
  exact inv_v (As := [.int a0]) (rm := mi197) (ry := mi67) rfl rfl (by decide) rfl rfl (Nat.le_of_ble_eq_true rfl) rfl rfl
theorem v200_15 {z : P0} {ls : Lcs} {st : List Value} {c n : Nat} {K : Nat → Nat × Nat} {I : Nat → Nat → Int32} {R : Nat → Nat → Option Nat} {L : Nat → Nat → Int64} {sz : Nat} {ex : Bool} {Q : Res → Mem → Prop}  {a0 : Nat} {a1 : Int32} : X z 200 15 ls (.int a1 :: .ref a0 :: st) (0, 0) (K, I, R, L, sz, ex) Q = (wsum st ≤ 8 ∧ X z 199 0 [some (.ref a0), some (.int a1)] [] (0, 0) (K, I, R, L, sz, ex) (aftr (X z) mT 200 15 ls st (0, 0) Q)) := by
  rw [x200_15]
  refine (inv_s (As := [.ref a0, .int a1]) (rm := mi200) (ry := mi199) rfl rfl (by decide) rfl rfl (Nat.le_of_ble_eq_true rfl) rfl (by decide)).trans ?_
  exact Eq.trans (congrArg _ (and_t (Nat.zero_le _))) (congrArg _ (and_t (Nat.zero_le _)))
theorem v200_35 {z : P0} {ls : Lcs} {st : List Value} {c n : Nat} {K : Nat → Nat × Nat} {I : Nat → Nat → Int32} {R : Nat → Nat → Option Nat} {L : Nat → Nat → Int64} {sz : Nat} {ex : Bool} {Q : Res → Mem → Prop}  {a0 : Nat} {a1 : Int32} : X z 200 35 ls (.int a1 :: .ref a0 :: st) (0, 0) (K, I, R, L, sz, ex) Q = (wsum st ≤ 8 ∧ X z 199 0 [some (.ref a0), some (.int a1)] [] (0, 0) (K, I, R, L, sz, ex) (aftr (X z) mT 200 35 ls st (0, 0) Q)) := by
  rw [x200_35]
  refine (inv_s (As := [.ref a0, .int a1]) (rm := mi200) (ry := mi199) rfl rfl (by decide) rfl rfl (Nat.le_of_ble_eq_true rfl) rfl (by decide)).trans ?_
  exact Eq.trans (congrArg _ (and_t (Nat.zero_le _))) (congrArg _ (and_t (Nat.zero_le _)))
theorem v202_47 {z : P0} {ls : Lcs} {st : List Value} {c n : Nat} {K : Nat → Nat × Nat} {I : Nat → Nat → Int32} {R : Nat → Nat → Option Nat} {L : Nat → Nat → Int64} {sz : Nat} {ex : Bool} {Q : Res → Mem → Prop}  {a0 : Nat} : X z 202 47 ls (.ref a0 :: st) (0, 0) (K, I, R, L, sz, ex) Q = (wsum st ≤ 8 ∧ X z 200 0 [some (.ref a0)] [] (0, 0) (K, I, R, L, sz, ex) (aftr (X z) mT 202 47 ls st (0, 0) Q)) := by
  rw [x202_47]
  refine (inv_s (As := [.ref a0]) (rm := mi202) (ry := mi200) rfl rfl (by decide) rfl rfl (Nat.le_of_ble_eq_true rfl) rfl (by decide)).trans ?_
  exact Eq.trans (congrArg _ (and_t (Nat.zero_le _))) (congrArg _ (and_t (Nat.zero_le _)))
theorem v202_57 {z : P0} {ls : Lcs} {st : List Value} {c n : Nat} {K : Nat → Nat × Nat} {I : Nat → Nat → Int32} {R : Nat → Nat → Option Nat} {L : Nat → Nat → Int64} {sz : Nat} {ex : Bool} {Q : Res → Mem → Prop}  {a0 : Nat} : X z 202 57 ls (.ref a0 :: st) (0, 0) (K, I, R, L, sz, ex) Q = (wsum st ≤ 8 ∧ X z 201 0 [some (.ref a0), none] [] (0, 0) (K, I, R, L, sz, ex) (aftr (X z) mT 202 57 ls st (0, 0) Q)) := by
  rw [x202_57]
  refine (inv_s (As := [.ref a0]) (rm := mi202) (ry := mi201) rfl rfl (by decide) rfl rfl (Nat.le_of_ble_eq_true rfl) rfl (by decide)).trans ?_
  exact Eq.trans (congrArg _ (and_t (Nat.zero_le _))) (congrArg _ (and_t (Nat.zero_le _)))
theorem v203_1 {z : P0} {ls : Lcs} {st : List Value} {c n : Nat} {K : Nat → Nat × Nat} {I : Nat → Nat → Int32} {R : Nat → Nat → Option Nat} {L : Nat → Nat → Int64} {sz : Nat} {ex : Bool} {Q : Res → Mem → Prop}  {a0 : Nat} : X z 203 1 ls (.ref a0 :: st) (0, 0) (K, I, R, L, sz, ex) Q = (wsum st ≤ 8 ∧ X z 200 0 [some (.ref a0)] [] (0, 0) (K, I, R, L, sz, ex) (aftr (X z) mT 203 1 ls st (0, 0) Q)) := by
  rw [x203_1]
  refine (inv_s (As := [.ref a0]) (rm := mi203) (ry := mi200) rfl rfl (by decide) rfl rfl (Nat.le_of_ble_eq_true rfl) rfl (by decide)).trans ?_
  exact Eq.trans (congrArg _ (and_t (Nat.zero_le _))) (congrArg _ (and_t (Nat.zero_le _)))
theorem v203_5 {z : P0} {ls : Lcs} {st : List Value} {c n : Nat} {K : Nat → Nat × Nat} {I : Nat → Nat → Int32} {R : Nat → Nat → Option Nat} {L : Nat → Nat → Int64} {sz : Nat} {ex : Bool} {Q : Res → Mem → Prop}  {a0 : Nat} : X z 203 5 ls (.ref a0 :: st) (0, 0) (K, I, R, L, sz, ex) Q = (wsum st ≤ 8 ∧ X z 201 0 [some (.ref a0), none] [] (0, 0) (K, I, R, L, sz, ex) (aftr (X z) mT 203 5 ls st (0, 0) Q)) := by
  rw [x203_5]
  refine (inv_s (As := [.ref a0]) (rm := mi203) (ry := mi201) rfl rfl (by decide) rfl rfl (Nat.le_of_ble_eq_true rfl) rfl (by decide)).trans ?_
  exact Eq.trans (congrArg _ (and_t (Nat.zero_le _))) (congrArg _ (and_t (Nat.zero_le _)))
theorem v205_46 {z : P0} {ls : Lcs} {st : List Value} {c n : Nat} {K : Nat → Nat × Nat} {I : Nat → Nat → Int32} {R : Nat → Nat → Option Nat} {L : Nat → Nat → Int64} {sz : Nat} {ex : Bool} {Q : Res → Mem → Prop}  {a0 : Nat} {a1 : Nat} {a2 : Int32} : X z 205 46 ls (.int a2 :: .ref a1 :: .ref a0 :: st) (0, 0) (K, I, R, L, sz, ex) Q = (wsum st ≤ 8 ∧ X z 204 0 [some (.ref a0), some (.ref a1), some (.int a2), none] [] (0, 0) (K, I, R, L, sz, ex) (aftr (X z) mT 205 46 ls st (0, 0) Q)) := by
  rw [x205_46]
  refine (inv_s (As := [.ref a0, .ref a1, .int a2]) (rm := mi205) (ry := mi204) rfl rfl (by decide) rfl rfl (Nat.le_of_ble_eq_true rfl) rfl (by decide)).trans ?_
  exact Eq.trans (congrArg _ (and_t (Nat.zero_le _))) (congrArg _ (and_t (Nat.zero_le _)))
theorem v207_25 {z : P0} {ls : Lcs} {st : List Value} {c n : Nat} {K : Nat → Nat × Nat} {I : Nat → Nat → Int32} {R : Nat → Nat → Option Nat} {L : Nat → Nat → Int64} {sz : Nat} {ex : Bool} {Q : Res → Mem → Prop}  {a0 : Nat} {a1 : Nat} {a2 : Nat} {a3 : Nat} {a4 : Nat} {a5 : Int32} : X z 207 25 ls (.int a5 :: .ref a4 :: .ref a3 :: .ref a2 :: .ref a1 :: .ref a0 :: st) (0, 0) (K, I, R, L, sz, ex) Q = (wsum st ≤ 8 ∧ X z 205 0 [some (.ref a0), some (.ref a1), some (.ref a2), some (.ref a3), some (.ref a4), some (.int a5)] [] (0, 0) (K, I, R, L, sz, ex) (aftr (X z) mT 207 25 ls st (0, 0) Q)) := by
  rw [x207_25]
  refine (inv_s (As := [.ref a0, .ref a1, .ref a2, .ref a3, .ref a4, .int a5]) (rm := mi207) (ry := mi205) rfl rfl (by decide) rfl rfl (Nat.le_of_ble_eq_true rfl) rfl (by decide)).trans ?_
  exact Eq.trans (congrArg _ (and_t (Nat.zero_le _))) (congrArg _ (and_t (Nat.zero_le _)))
theorem v207_89 {z : P0} {ls : Lcs} {st : List Value} {c n : Nat} {K : Nat → Nat × Nat} {I : Nat → Nat → Int32} {R : Nat → Nat → Option Nat} {L : Nat → Nat → Int64} {sz : Nat} {ex : Bool} {Q : Res → Mem → Prop}  {a0 : Int32} : X z 207 89 ls (.int a0 :: st) (0, 0) (K, I, R, L, sz, ex) Q = (wsum st ≤ 8 ∧ X z 206 0 [some (.int a0), none, none] [] (0, 0) (K, I, R, L, sz, ex) (aftr (X z) mT 207 89 ls st (0, 0) Q)) := by
  rw [x207_89]
  refine (inv_s (As := [.int a0]) (rm := mi207) (ry := mi206) rfl rfl (by decide) rfl rfl (Nat.le_of_ble_eq_true rfl) rfl (by decide)).trans ?_
  exact Eq.trans (congrArg _ (and_t (Nat.zero_le _))) (congrArg _ (and_t (Nat.zero_le _)))
theorem v208_11 {z : P0} {ls : Lcs} {st : List Value} {c n : Nat} {K : Nat → Nat × Nat} {I : Nat → Nat → Int32} {R : Nat → Nat → Option Nat} {L : Nat → Nat → Int64} {sz : Nat} {ex : Bool} {Q : Res → Mem → Prop}  {a0 : Int32} {a1 : Int32} {a2 : Int32} {a3 : Int32} : X z 208 11 ls (.int a3 :: .int a2 :: .int a1 :: .int a0 :: st) (0, 0) (K, I, R, L, sz, ex) Q = (wsum st ≤ 8 ∧ X z 194 0 [some (.int a0), some (.int a1), some (.int a2), some (.int a3)] [] (0, 0) (K, I, R, L, sz, ex) (aftr (X z) mT 208 11 ls st (0, 0) Q)) := by
  rw [x208_11]
  refine (inv_s (As := [.int a0, .int a1, .int a2, .int a3]) (rm := mi208) (ry := mi194) rfl rfl (by decide) rfl rfl (Nat.le_of_ble_eq_true rfl) rfl (by decide)).trans ?_
  exact Eq.trans (congrArg _ (and_t (Nat.zero_le _))) (congrArg _ (and_t (Nat.zero_le _)))
theorem v208_69 {z : P0} {ls : Lcs} {st : List Value} {c n : Nat} {K : Nat → Nat × Nat} {I : Nat → Nat → Int32} {R : Nat → Nat → Option Nat} {L : Nat → Nat → Int64} {sz : Nat} {ex : Bool} {Q : Res → Mem → Prop}  {a0 : Nat} {a1 : Int32} : X z 208 69 ls (.int a1 :: .ref a0 :: st) (0, 0) (K, I, R, L, sz, ex) Q = (wsum st ≤ 8 ∧ X z 202 0 [some (.ref a0), some (.int a1)] [] (0, 0) (K, I, R, L, sz, ex) (aftr (X z) mT 208 69 ls st (0, 0) Q)) := by
  rw [x208_69]
  refine (inv_s (As := [.ref a0, .int a1]) (rm := mi208) (ry := mi202) rfl rfl (by decide) rfl rfl (Nat.le_of_ble_eq_true rfl) rfl (by decide)).trans ?_
  exact Eq.trans (congrArg _ (and_t (Nat.zero_le _))) (congrArg _ (and_t (Nat.zero_le _)))
theorem v208_75 {z : P0} {ls : Lcs} {st : List Value} {c n : Nat} {K : Nat → Nat × Nat} {I : Nat → Nat → Int32} {R : Nat → Nat → Option Nat} {L : Nat → Nat → Int64} {sz : Nat} {ex : Bool} {Q : Res → Mem → Prop}  {a0 : Nat} {a1 : Int32} : X z 208 75 ls (.int a1 :: .ref a0 :: st) (0, 0) (K, I, R, L, sz, ex) Q = (wsum st ≤ 8 ∧ X z 202 0 [some (.ref a0), some (.int a1)] [] (0, 0) (K, I, R, L, sz, ex) (aftr (X z) mT 208 75 ls st (0, 0) Q)) := by
  rw [x208_75]
  refine (inv_s (As := [.ref a0, .int a1]) (rm := mi208) (ry := mi202) rfl rfl (by decide) rfl rfl (Nat.le_of_ble_eq_true rfl) rfl (by decide)).trans ?_
  exact Eq.trans (congrArg _ (and_t (Nat.zero_le _))) (congrArg _ (and_t (Nat.zero_le _)))
theorem v208_81 {z : P0} {ls : Lcs} {st : List Value} {c n : Nat} {K : Nat → Nat × Nat} {I : Nat → Nat → Int32} {R : Nat → Nat → Option Nat} {L : Nat → Nat → Int64} {sz : Nat} {ex : Bool} {Q : Res → Mem → Prop}  {a0 : Nat} {a1 : Int32} : X z 208 81 ls (.int a1 :: .ref a0 :: st) (0, 0) (K, I, R, L, sz, ex) Q = (wsum st ≤ 8 ∧ X z 202 0 [some (.ref a0), some (.int a1)] [] (0, 0) (K, I, R, L, sz, ex) (aftr (X z) mT 208 81 ls st (0, 0) Q)) := by
  rw [x208_81]
  refine (inv_s (As := [.ref a0, .int a1]) (rm := mi208) (ry := mi202) rfl rfl (by decide) rfl rfl (Nat.le_of_ble_eq_true rfl) rfl (by decide)).trans ?_
  exact Eq.trans (congrArg _ (and_t (Nat.zero_le _))) (congrArg _ (and_t (Nat.zero_le _)))
theorem v208_87 {z : P0} {ls : Lcs} {st : List Value} {c n : Nat} {K : Nat → Nat × Nat} {I : Nat → Nat → Int32} {R : Nat → Nat → Option Nat} {L : Nat → Nat → Int64} {sz : Nat} {ex : Bool} {Q : Res → Mem → Prop}  {a0 : Nat} {a1 : Int32} : X z 208 87 ls (.int a1 :: .ref a0 :: st) (0, 0) (K, I, R, L, sz, ex) Q = (wsum st ≤ 8 ∧ X z 202 0 [some (.ref a0), some (.int a1)] [] (0, 0) (K, I, R, L, sz, ex) (aftr (X z) mT 208 87 ls st (0, 0) Q)) := by
  rw [x208_87]
  refine (inv_s (As := [.ref a0, .int a1]) (rm := mi208) (ry := mi202) rfl rfl (by decide) rfl rfl (Nat.le_of_ble_eq_true rfl) rfl (by decide)).trans ?_
  exact Eq.trans (congrArg _ (and_t (Nat.zero_le _))) (congrArg _ (and_t (Nat.zero_le _)))
theorem v208_96 {z : P0} {ls : Lcs} {st : List Value} {c n : Nat} {K : Nat → Nat × Nat} {I : Nat → Nat → Int32} {R : Nat → Nat → Option Nat} {L : Nat → Nat → Int64} {sz : Nat} {ex : Bool} {Q : Res → Mem → Prop}  {a0 : Nat} {a1 : Int32} : X z 208 96 ls (.int a1 :: .ref a0 :: st) (0, 0) (K, I, R, L, sz, ex) Q = (wsum st ≤ 8 ∧ X z 202 0 [some (.ref a0), some (.int a1)] [] (0, 0) (K, I, R, L, sz, ex) (aftr (X z) mT 208 96 ls st (0, 0) Q)) := by
  rw [x208_96]
  refine (inv_s (As := [.ref a0, .int a1]) (rm := mi208) (ry := mi202) rfl rfl (by decide) rfl rfl (Nat.le_of_ble_eq_true rfl) rfl (by decide)).trans ?_
  exact Eq.trans (congrArg _ (and_t (Nat.zero_le _))) (congrArg _ (and_t (Nat.zero_le _)))
theorem v208_107 {z : P0} {ls : Lcs} {st : List Value} {c n : Nat} {K : Nat → Nat × Nat} {I : Nat → Nat → Int32} {R : Nat → Nat → Option Nat} {L : Nat → Nat → Int64} {sz : Nat} {ex : Bool} {Q : Res → Mem → Prop}  {a0 : Nat} {a1 : Int32} : X z 208 107 ls (.int a1 :: .ref a0 :: st) (0, 0) (K, I, R, L, sz, ex) Q = (wsum st ≤ 8 ∧ X z 202 0 [some (.ref a0), some (.int a1)] [] (0, 0) (K, I, R, L, sz, ex) (aftr (X z) mT 208 107 ls st (0, 0) Q)) := by
  rw [x208_107]
  refine (inv_s (As := [.ref a0, .int a1]) (rm := mi208) (ry := mi202) rfl rfl (by decide) rfl rfl (Nat.le_of_ble_eq_true rfl) rfl (by decide)).trans ?_
  exact Eq.trans (congrArg _ (and_t (Nat.zero_le _))) (congrArg _ (and_t (Nat.zero_le _)))
theorem v208_113 {z : P0} {ls : Lcs} {st : List Value} {c n : Nat} {K : Nat → Nat × Nat} {I : Nat → Nat → Int32} {R : Nat → Nat → Option Nat} {L : Nat → Nat → Int64} {sz : Nat} {ex : Bool} {Q : Res → Mem → Prop}  {a0 : Nat} {a1 : Int32} : X z 208 113 ls (.int a1 :: .ref a0 :: st) (0, 0) (K, I, R, L, sz, ex) Q = (wsum st ≤ 8 ∧ X z 202 0 [some (.ref a0), some (.int a1)] [] (0, 0) (K, I, R, L, sz, ex) (aftr (X z) mT 208 113 ls st (0, 0) Q)) := by
  rw [x208_113]
  refine (inv_s (As := [.ref a0, .int a1]) (rm := mi208) (ry := mi202) rfl rfl (by decide) rfl rfl (Nat.le_of_ble_eq_true rfl) rfl (by decide)).trans ?_
  exact Eq.trans (congrArg _ (and_t (Nat.zero_le _))) (congrArg _ (and_t (Nat.zero_le _)))
theorem v208_131 {z : P0} {ls : Lcs} {st : List Value} {c n : Nat} {K : Nat → Nat × Nat} {I : Nat → Nat → Int32} {R : Nat → Nat → Option Nat} {L : Nat → Nat → Int64} {sz : Nat} {ex : Bool} {Q : Res → Mem → Prop}  {a0 : Int32} {a1 : Int32} {a2 : Int32} {a3 : Int32} : X z 208 131 ls (.int a3 :: .int a2 :: .int a1 :: .int a0 :: st) (0, 0) (K, I, R, L, sz, ex) Q = (wsum st ≤ 8 ∧ X z 194 0 [some (.int a0), some (.int a1), some (.int a2), some (.int a3)] [] (0, 0) (K, I, R, L, sz, ex) (aftr (X z) mT 208 131 ls st (0, 0) Q)) := by
  rw [x208_131]
  refine (inv_s (As := [.int a0, .int a1, .int a2, .int a3]) (rm := mi208) (ry := mi194) rfl rfl (by decide) rfl rfl (Nat.le_of_ble_eq_true rfl) rfl (by decide)).trans ?_
  exact Eq.trans (congrArg _ (and_t (Nat.zero_le _))) (congrArg _ (and_t (Nat.zero_le _)))
theorem v208_134 {z : P0} {ls : Lcs} {st : List Value} {c n : Nat} {K : Nat → Nat × Nat} {I : Nat → Nat → Int32} {R : Nat → Nat → Option Nat} {L : Nat → Nat → Int64} {sz : Nat} {ex : Bool} {Q : Res → Mem → Prop}  {a0 : Nat} {a1 : Int32} : X z 208 134 ls (.int a1 :: .ref a0 :: st) (0, 0) (K, I, R, L, sz, ex) Q = (wsum st ≤ 8 ∧ X z 202 0 [some (.ref a0), some (.int a1)] [] (0, 0) (K, I, R, L, sz, ex) (aftr (X z) mT 208 134 ls st (0, 0) Q)) := by
  rw [x208_134]
  refine (inv_s (As := [.ref a0, .int a1]) (rm := mi208) (ry := mi202) rfl rfl (by decide) rfl rfl (Nat.le_of_ble_eq_true rfl) rfl (by decide)).trans ?_
  exact Eq.trans (congrArg _ (and_t (Nat.zero_le _))) (congrArg _ (and_t (Nat.zero_le _)))
theorem v209_147 {z : P0} {ls : Lcs} {st : List Value} {c n : Nat} {K : Nat → Nat × Nat} {I : Nat → Nat → Int32} {R : Nat → Nat → Option Nat} {L : Nat → Nat → Int64} {sz : Nat} {ex : Bool} {Q : Res → Mem → Prop}  {a0 : Nat} {a1 : Int32} : X z 209 147 ls (.int a1 :: .ref a0 :: st) (0, 0) (K, I, R, L, sz, ex) Q = (wsum st ≤ 8 ∧ X z 202 0 [some (.ref a0), some (.int a1)] [] (0, 0) (K, I, R, L, sz, ex) (aftr (X z) mT 209 147 ls st (0, 0) Q)) := by
  rw [x209_147]
  refine (inv_s (As := [.ref a0, .int a1]) (rm := mi209) (ry := mi202) rfl rfl (by decide) rfl rfl (Nat.le_of_ble_eq_true rfl) rfl (by decide)).trans ?_
  exact Eq.trans (congrArg _ (and_t (Nat.zero_le _))) (congrArg _ (and_t (Nat.zero_le _)))
theorem v209_165 {z : P0} {ls : Lcs} {st : List Value} {c n : Nat} {K : Nat → Nat × Nat} {I : Nat → Nat → Int32} {R : Nat → Nat → Option Nat} {L : Nat → Nat → Int64} {sz : Nat} {ex : Bool} {Q : Res → Mem → Prop}  {a0 : Nat} {a1 : Nat} {a2 : Int32} : X z 209 165 ls (.int a2 :: .ref a1 :: .ref a0 :: st) (0, 0) (K, I, R, L, sz, ex) Q = (wsum st ≤ 8 ∧ X z 208 0 [some (.ref a0), some (.ref a1), some (.int a2), none, none, none, none] [] (0, 0) (K, I, R, L, sz, ex) (aftr (X z) mT 209 165 ls st (0, 0) Q)) := by
  rw [x209_165]
  refine (inv_s (As := [.ref a0, .ref a1, .int a2]) (rm := mi209) (ry := mi208) rfl rfl (by decide) rfl rfl (Nat.le_of_ble_eq_true rfl) rfl (by decide)).trans ?_
  exact Eq.trans (congrArg _ (and_t (Nat.zero_le _))) (congrArg _ (and_t (Nat.zero_le _)))
theorem v209_195 {z : P0} {ls : Lcs} {st : List Value} {c n : Nat} {K : Nat → Nat × Nat} {I : Nat → Nat → Int32} {R : Nat → Nat → Option Nat} {L : Nat → Nat → Int64} {sz : Nat} {ex : Bool} {Q : Res → Mem → Prop}  {a0 : Int32} {a1 : Int32} {a2 : Int32} {a3 : Int32} : X z 209 195 ls (.int a3 :: .int a2 :: .int a1 :: .int a0 :: st) (0, 0) (K, I, R, L, sz, ex) Q = (wsum st ≤ 8 ∧ X z 194 0 [some (.int a0), some (.int a1), some (.int a2), some (.int a3)] [] (0, 0) (K, I, R, L, sz, ex) (aftr (X z) mT 209 195 ls st (0, 0) Q)) := by
  rw [x209_195]
  refine (inv_s (As := [.int a0, .int a1, .int a2, .int a3]) (rm := mi209) (ry := mi194) rfl rfl (by decide) rfl rfl (Nat.le_of_ble_eq_true rfl) rfl (by decide)).trans ?_
  exact Eq.trans (congrArg _ (and_t (Nat.zero_le _))) (congrArg _ (and_t (Nat.zero_le _)))
theorem v209_198 {z : P0} {ls : Lcs} {st : List Value} {c n : Nat} {K : Nat → Nat × Nat} {I : Nat → Nat → Int32} {R : Nat → Nat → Option Nat} {L : Nat → Nat → Int64} {sz : Nat} {ex : Bool} {Q : Res → Mem → Prop}  {a0 : Nat} {a1 : Int32} : X z 209 198 ls (.int a1 :: .ref a0 :: st) (0, 0) (K, I, R, L, sz, ex) Q = (wsum st ≤ 8 ∧ X z 202 0 [some (.ref a0), some (.int a1)] [] (0, 0) (K, I, R, L, sz, ex) (aftr (X z) mT 209 198 ls st (0, 0) Q)) := by
  rw [x209_198]
  refine (inv_s (As := [.ref a0, .int a1]) (rm := mi209) (ry := mi202) rfl rfl (by decide) rfl rfl (Nat.le_of_ble_eq_true rfl) rfl (by decide)).trans ?_
  exact Eq.trans (congrArg _ (and_t (Nat.zero_le _))) (congrArg _ (and_t (Nat.zero_le _)))
theorem v210_38 {z : P0} {ls : Lcs} {st : List Value} {c n : Nat} {K : Nat → Nat × Nat} {I : Nat → Nat → Int32} {R : Nat → Nat → Option Nat} {L : Nat → Nat → Int64} {sz : Nat} {ex : Bool} {Q : Res → Mem → Prop}  {a0 : Int32} : X z 210 38 ls (.int a0 :: st) (0, 0) (K, I, R, L, sz, ex) Q = (wsum st ≤ 8 ∧ X z 206 0 [some (.int a0), none, none] [] (0, 0) (K, I, R, L, sz, ex) (aftr (X z) mT 210 38 ls st (0, 0) Q)) := by
  rw [x210_38]
  refine (inv_s (As := [.int a0]) (rm := mi210) (ry := mi206) rfl rfl (by decide) rfl rfl (Nat.le_of_ble_eq_true rfl) rfl (by decide)).trans ?_
  exact Eq.trans (congrArg _ (and_t (Nat.zero_le _))) (congrArg _ (and_t (Nat.zero_le _)))
theorem v210_48 {z : P0} {ls : Lcs} {st : List Value} {c n : Nat} {K : Nat → Nat × Nat} {I : Nat → Nat → Int32} {R : Nat → Nat → Option Nat} {L : Nat → Nat → Int64} {sz : Nat} {ex : Bool} {Q : Res → Mem → Prop}  {a0 : Nat} {a1 : Int32} : X z 210 48 ls (.int a1 :: .ref a0 :: st) (0, 0) (K, I, R, L, sz, ex) Q = (wsum st ≤ 8 ∧ X z 202 0 [some (.ref a0), some (.int a1)] [] (0, 0) (K, I, R, L, sz, ex) (aftr (X z) mT 210 48 ls st (0, 0) Q)) := by
  rw [x210_48]
  refine (inv_s (As := [.ref a0, .int a1]) (rm := mi210) (ry := mi202) rfl rfl (by decide) rfl rfl (Nat.le_of_ble_eq_true rfl) rfl (by decide)).trans ?_
  exact Eq.trans (congrArg _ (and_t (Nat.zero_le _))) (congrArg _ (and_t (Nat.zero_le _)))
theorem v210_54 {z : P0} {ls : Lcs} {st : List Value} {c n : Nat} {K : Nat → Nat × Nat} {I : Nat → Nat → Int32} {R : Nat → Nat → Option Nat} {L : Nat → Nat → Int64} {sz : Nat} {ex : Bool} {Q : Res → Mem → Prop}  {a0 : Nat} {a1 : Int32} : X z 210 54 ls (.int a1 :: .ref a0 :: st) (0, 0) (K, I, R, L, sz, ex) Q = (wsum st ≤ 8 ∧ X z 202 0 [some (.ref a0), some (.int a1)] [] (0, 0) (K, I, R, L, sz, ex) (aftr (X z) mT 210 54 ls st (0, 0) Q)) := by
  rw [x210_54]
  refine (inv_s (As := [.ref a0, .int a1]) (rm := mi210) (ry := mi202) rfl rfl (by decide) rfl rfl (Nat.le_of_ble_eq_true rfl) rfl (by decide)).trans ?_
  exact Eq.trans (congrArg _ (and_t (Nat.zero_le _))) (congrArg _ (and_t (Nat.zero_le _)))
theorem v210_60 {z : P0} {ls : Lcs} {st : List Value} {c n : Nat} {K : Nat → Nat × Nat} {I : Nat → Nat → Int32} {R : Nat → Nat → Option Nat} {L : Nat → Nat → Int64} {sz : Nat} {ex : Bool} {Q : Res → Mem → Prop}  {a0 : Nat} {a1 : Int32} : X z 210 60 ls (.int a1 :: .ref a0 :: st) (0, 0) (K, I, R, L, sz, ex) Q = (wsum st ≤ 8 ∧ X z 202 0 [some (.ref a0), some (.int a1)] [] (0, 0) (K, I, R, L, sz, ex) (aftr (X z) mT 210 60 ls st (0, 0) Q)) := by
  rw [x210_60]
  refine (inv_s (As := [.ref a0, .int a1]) (rm := mi210) (ry := mi202) rfl rfl (by decide) rfl rfl (Nat.le_of_ble_eq_true rfl) rfl (by decide)).trans ?_
  exact Eq.trans (congrArg _ (and_t (Nat.zero_le _))) (congrArg _ (and_t (Nat.zero_le _)))
theorem v210_87 {z : P0} {ls : Lcs} {st : List Value} {c n : Nat} {K : Nat → Nat × Nat} {I : Nat → Nat → Int32} {R : Nat → Nat → Option Nat} {L : Nat → Nat → Int64} {sz : Nat} {ex : Bool} {Q : Res → Mem → Prop}  {a0 : Nat} {a1 : Int32} : X z 210 87 ls (.int a1 :: .ref a0 :: st) (0, 0) (K, I, R, L, sz, ex) Q = (wsum st ≤ 8 ∧ X z 202 0 [some (.ref a0), some (.int a1)] [] (0, 0) (K, I, R, L, sz, ex) (aftr (X z) mT 210 87 ls st (0, 0) Q)) := by
  rw [x210_87]
  refine (inv_s (As := [.ref a0, .int a1]) (rm := mi210) (ry := mi202) rfl rfl (by decide) rfl rfl (Nat.le_of_ble_eq_true rfl) rfl (by decide)).trans ?_
  exact Eq.trans (congrArg _ (and_t (Nat.zero_le _))) (congrArg _ (and_t (Nat.zero_le _)))
theorem v210_91 {z : P0} {ls : Lcs} {st : List Value} {c n : Nat} {K : Nat → Nat × Nat} {I : Nat → Nat → Int32} {R : Nat → Nat → Option Nat} {L : Nat → Nat → Int64} {sz : Nat} {ex : Bool} {Q : Res → Mem → Prop}  {a0 : Int32} : X z 210 91 ls (.int a0 :: st) (0, 0) (K, I, R, L, sz, ex) Q = (wsum st ≤ 8 ∧ X z 206 0 [some (.int a0), none, none] [] (0, 0) (K, I, R, L, sz, ex) (aftr (X z) mT 210 91 ls st (0, 0) Q)) := by
  rw [x210_91]
  refine (inv_s (As := [.int a0]) (rm := mi210) (ry := mi206) rfl rfl (by decide) rfl rfl (Nat.le_of_ble_eq_true rfl) rfl (by decide)).trans ?_
  exact Eq.trans (congrArg _ (and_t (Nat.zero_le _))) (congrArg _ (and_t (Nat.zero_le _)))
theorem v210_101 {z : P0} {ls : Lcs} {st : List Value} {c n : Nat} {K : Nat → Nat × Nat} {I : Nat → Nat → Int32} {R : Nat → Nat → Option Nat} {L : Nat → Nat → Int64} {sz : Nat} {ex : Bool} {Q : Res → Mem → Prop}  {a0 : Nat} {a1 : Int32} : X z 210 101 ls (.int a1 :: .ref a0 :: st) (0, 0) (K, I, R, L, sz, ex) Q = (wsum st ≤ 8 ∧ X z 202 0 [some (.ref a0), some (.int a1)] [] (0, 0) (K, I, R, L, sz, ex) (aftr (X z) mT 210 101 ls st (0, 0) Q)) := by
  rw [x210_101]
  refine (inv_s (As := [.ref a0, .int a1]) (rm := mi210) (ry := mi202) rfl rfl (by decide) rfl rfl (Nat.le_of_ble_eq_true rfl) rfl (by decide)).trans ?_
  exact Eq.trans (congrArg _ (and_t (Nat.zero_le _))) (congrArg _ (and_t (Nat.zero_le _)))
theorem v211_9 {z : P0} {ls : Lcs} {st : List Value} {c n : Nat} {K : Nat → Nat × Nat} {I : Nat → Nat → Int32} {R : Nat → Nat → Option Nat} {L : Nat → Nat → Int64} {sz : Nat} {ex : Bool} {Q : Res → Mem → Prop}  {a0 : Nat} {a1 : Int32} {a2 : Int32} : X z 211 9 ls (.int a2 :: .int a1 :: .ref a0 :: st) (0, 0) (K, I, R, L, sz, ex) Q = (wsum st ≤ 8 ∧ X z 198 0 [some (.ref a0), some (.int a1), some (.int a2), none] [] (0, 0) (K, I, R, L, sz, ex) (aftr (X z) mT 211 9 ls st (0, 0) Q)) := by
  rw [x211_9]
  refine (inv_s (As := [.ref a0, .int a1, .int a2]) (rm := mi211) (ry := mi198) rfl rfl (by decide) rfl rfl (Nat.le_of_ble_eq_true rfl) rfl (by decide)).trans ?_
  exact Eq.trans (congrArg _ (and_t (Nat.zero_le _))) (congrArg _ (and_t (Nat.zero_le _)))
theorem v211_69 {z : P0} {ls : Lcs} {st : List Value} {c n : Nat} {K : Nat → Nat × Nat} {I : Nat → Nat → Int32} {R : Nat → Nat → Option Nat} {L : Nat → Nat → Int64} {sz : Nat} {ex : Bool} {Q : Res → Mem → Prop}  {a0 : Int32} : X z 211 69 ls (.int a0 :: st) (0, 0) (K, I, R, L, sz, ex) Q = (wsum st ≤ 8 ∧ X z 206 0 [some (.int a0), none, none] [] (0, 0) (K, I, R, L, sz, ex) (aftr (X z) mT 211 69 ls st (0, 0) Q)) := by
  rw [x211_69]
  refine (inv_s (As := [.int a0]) (rm := mi211) (ry := mi206) rfl rfl (by decide) rfl rfl (Nat.le_of_ble_eq_true rfl) rfl (by decide)).trans ?_
  exact Eq.trans (congrArg _ (and_t (Nat.zero_le _))) (congrArg _ (and_t (Nat.zero_le _)))
theorem v211_98 {z : P0} {ls : Lcs} {st : List Value} {c n : Nat} {K : Nat → Nat × Nat} {I : Nat → Nat → Int32} {R : Nat → Nat → Option Nat} {L : Nat → Nat → Int64} {sz : Nat} {ex : Bool} {Q : Res → Mem → Prop}  {a0 : Nat} {a1 : Int32} {a2 : Int32} {a3 : Nat} {a4 : Nat} {a5 : Nat} : X z 211 98 ls (.ref a5 :: .ref a4 :: .ref a3 :: .int a2 :: .int a1 :: .ref a0 :: st) (0, 0) (K, I, R, L, sz, ex) Q = (wsum st ≤ 8 ∧ X z 209 0 [some (.ref a0), some (.int a1), some (.int a2), some (.ref a3), some (.ref a4), some (.ref a5), none, none, none, none, none] [] (0, 0) (K, I, R, L, sz, ex) (aftr (X z) mT 211 98 ls st (0, 0) Q)) := by
  rw [x211_98]
  refine (inv_s (As := [.ref a0, .int a1, .int a2, .ref a3, .ref a4, .ref a5]) (rm := mi211) (ry := mi209) rfl rfl (by decide) rfl rfl (Nat.le_of_ble_eq_true rfl) rfl (by decide)).trans ?_
  exact Eq.trans (congrArg _ (and_t (Nat.zero_le _))) (congrArg _ (and_t (Nat.zero_le _)))
theorem v211_123 {z : P0} {ls : Lcs} {st : List Value} {c n : Nat} {K : Nat → Nat × Nat} {I : Nat → Nat → Int32} {R : Nat → Nat → Option Nat} {L : Nat → Nat → Int64} {sz : Nat} {ex : Bool} {Q : Res → Mem → Prop}  {a0 : Nat} {a1 : Int32} {a2 : Int32} {a3 : Nat} {a4 : Nat} {a5 : Nat} : X z 211 123 ls (.ref a5 :: .ref a4 :: .ref a3 :: .int a2 :: .int a1 :: .ref a0 :: st) (0, 0) (K, I, R, L, sz, ex) Q = (wsum st ≤ 8 ∧ X z 209 0 [some (.ref a0), some (.int a1), some (.int a2), some (.ref a3), some (.ref a4), some (.ref a5), none, none, none, none, none] [] (0, 0) (K, I, R, L, sz, ex) (aftr (X z) mT 211 123 ls st (0, 0) Q)) := by
  rw [x211_123]
  refine (inv_s (As := [.ref a0, .int a1, .int a2, .ref a3, .ref a4, .ref a5]) (rm := mi211) (ry := mi209) rfl rfl (by decide) rfl rfl (Nat.le_of_ble_eq_true rfl) rfl (by decide)).trans ?_
  exact Eq.trans (congrArg _ (and_t (Nat.zero_le _))) (congrArg _ (and_t (Nat.zero_le _)))
theorem v211_143 {z : P0} {ls : Lcs} {st : List Value} {c n : Nat} {K : Nat → Nat × Nat} {I : Nat → Nat → Int32} {R : Nat → Nat → Option Nat} {L : Nat → Nat → Int64} {sz : Nat} {ex : Bool} {Q : Res → Mem → Prop}  {a0 : Nat} {a1 : Int32} {a2 : Nat} : X z 211 143 ls (.ref a2 :: .int a1 :: .ref a0 :: st) (0, 0) (K, I, R, L, sz, ex) Q = (wsum st ≤ 8 ∧ X z 210 0 [some (.ref a0), some (.int a1), some (.ref a2), none, none] [] (0, 0) (K, I, R, L, sz, ex) (aftr (X z) mT 211 143 ls st (0, 0) Q)) := by
  rw [x211_143]
  refine (inv_s (As := [.ref a0, .int a1, .ref a2]) (rm := mi211) (ry := mi210) rfl rfl (by decide) rfl rfl (Nat.le_of_ble_eq_true rfl) rfl (by decide)).trans ?_
  exact Eq.trans (congrArg _ (and_t (Nat.zero_le _))) (congrArg _ (and_t (Nat.zero_le _)))
theorem v211_163 {z : P0} {ls : Lcs} {st : List Value} {c n : Nat} {K : Nat → Nat × Nat} {I : Nat → Nat → Int32} {R : Nat → Nat → Option Nat} {L : Nat → Nat → Int64} {sz : Nat} {ex : Bool} {Q : Res → Mem → Prop}  {a0 : Int32} : X z 211 163 ls (.int a0 :: st) (0, 0) (K, I, R, L, sz, ex) Q = (wsum st ≤ 8 ∧ X z 206 0 [some (.int a0), none, none] [] (0, 0) (K, I, R, L, sz, ex) (aftr (X z) mT 211 163 ls st (0, 0) Q)) := by
  rw [x211_163]
  refine (inv_s (As := [.int a0]) (rm := mi211) (ry := mi206) rfl rfl (by decide) rfl rfl (Nat.le_of_ble_eq_true rfl) rfl (by decide)).trans ?_
  exact Eq.trans (congrArg _ (and_t (Nat.zero_le _))) (congrArg _ (and_t (Nat.zero_le _)))
theorem v211_174 {z : P0} {ls : Lcs} {st : List Value} {c n : Nat} {K : Nat → Nat × Nat} {I : Nat → Nat → Int32} {R : Nat → Nat → Option Nat} {L : Nat → Nat → Int64} {sz : Nat} {ex : Bool} {Q : Res → Mem → Prop}  {a0 : Nat} {a1 : Int32} : X z 211 174 ls (.int a1 :: .ref a0 :: st) (0, 0) (K, I, R, L, sz, ex) Q = (wsum st ≤ 8 ∧ X z 202 0 [some (.ref a0), some (.int a1)] [] (0, 0) (K, I, R, L, sz, ex) (aftr (X z) mT 211 174 ls st (0, 0) Q)) := by
  rw [x211_174]
  refine (inv_s (As := [.ref a0, .int a1]) (rm := mi211) (ry := mi202) rfl rfl (by decide) rfl rfl (Nat.le_of_ble_eq_true rfl) rfl (by decide)).trans ?_
  exact Eq.trans (congrArg _ (and_t (Nat.zero_le _))) (congrArg _ (and_t (Nat.zero_le _)))
theorem v211_184 {z : P0} {ls : Lcs} {st : List Value} {c n : Nat} {K : Nat → Nat × Nat} {I : Nat → Nat → Int32} {R : Nat → Nat → Option Nat} {L : Nat → Nat → Int64} {sz : Nat} {ex : Bool} {Q : Res → Mem → Prop}  {a0 : Nat} : X z 211 184 ls (.ref a0 :: st) (0, 0) (K, I, R, L, sz, ex) Q = (wsum st ≤ 8 ∧ X z 203 0 [some (.ref a0)] [] (0, 0) (K, I, R, L, sz, ex) (aftr (X z) mT 211 184 ls st (0, 0) Q)) := by
  rw [x211_184]
  refine (inv_s (As := [.ref a0]) (rm := mi211) (ry := mi203) rfl rfl (by decide) rfl rfl (Nat.le_of_ble_eq_true rfl) rfl (by decide)).trans ?_
  exact Eq.trans (congrArg _ (and_t (Nat.zero_le _))) (congrArg _ (and_t (Nat.zero_le _)))
theorem v212_3 {z : P0} {ls : Lcs} {st : List Value} {c n : Nat} {K : Nat → Nat × Nat} {I : Nat → Nat → Int32} {R : Nat → Nat → Option Nat} {L : Nat → Nat → Int64} {sz : Nat} {ex : Bool} {Q : Res → Mem → Prop}  {a0 : Int32} {a1 : Int32} : X z 212 3 ls (.int a1 :: .int a0 :: st) (c, n) (K, I, R, L, sz, ex) Q = (wsum st ≤ 8 ∧ c + 0 ≤ 70 ∧ n + 0 ≤ 420 ∧ X z 193 0 [some (.int a0), some (.int a1)] [] (0, 0) (K, I, R, L, sz, ex) (aftr (X z) mT 212 3 ls st (c + 0, n + 0) Q)) := by
  rw [x212_3]
  exact inv_s (As := [.int a0, .int a1]) (rm := mi212) (ry := mi193) rfl rfl (by decide) rfl rfl (Nat.le_of_ble_eq_true rfl) rfl (by decide)
theorem v212_44 {z : P0} {ls : Lcs} {st : List Value} {c n : Nat} {K : Nat → Nat × Nat} {I : Nat → Nat → Int32} {R : Nat → Nat → Option Nat} {L : Nat → Nat → Int64} {sz : Nat} {ex : Bool} {Q : Res → Mem → Prop}  {a0 : Int32} {a1 : Int32} : X z 212 44 ls (.int a1 :: .int a0 :: st) (c, n) (K, I, R, L, sz, ex) Q = (wsum st ≤ 8 ∧ c + 0 ≤ 70 ∧ n + 0 ≤ 420 ∧ X z 193 0 [some (.int a0), some (.int a1)] [] (0, 0) (K, I, R, L, sz, ex) (aftr (X z) mT 212 44 ls st (c + 0, n + 0) Q)) := by
  rw [x212_44]
  exact inv_s (As := [.int a0, .int a1]) (rm := mi212) (ry := mi193) rfl rfl (by decide) rfl rfl (Nat.le_of_ble_eq_true rfl) rfl (by decide)
theorem v212_56 {z : P0} {ls : Lcs} {st : List Value} {c n : Nat} {K : Nat → Nat × Nat} {I : Nat → Nat → Int32} {R : Nat → Nat → Option Nat} {L : Nat → Nat → Int64} {sz : Nat} {ex : Bool} {Q : Res → Mem → Prop}  {a0 : Int32} {a1 : Int32} : X z 212 56 ls (.int a1 :: .int a0 :: st) (c, n) (K, I, R, L, sz, ex) Q = (wsum st ≤ 8 ∧ c + 0 ≤ 70 ∧ n + 0 ≤ 420 ∧ X z 193 0 [some (.int a0), some (.int a1)] [] (0, 0) (K, I, R, L, sz, ex) (aftr (X z) mT 212 56 ls st (c + 0, n + 0) Q)) := by
  rw [x212_56]
  exact inv_s (As := [.int a0, .int a1]) (rm := mi212) (ry := mi193) rfl rfl (by decide) rfl rfl (Nat.le_of_ble_eq_true rfl) rfl (by decide)
theorem v212_71 {z : P0} {ls : Lcs} {st : List Value} {c n : Nat} {K : Nat → Nat × Nat} {I : Nat → Nat → Int32} {R : Nat → Nat → Option Nat} {L : Nat → Nat → Int64} {sz : Nat} {ex : Bool} {Q : Res → Mem → Prop}  {a0 : Int32} {a1 : Int32} : X z 212 71 ls (.int a1 :: .int a0 :: st) (c, n) (K, I, R, L, sz, ex) Q = (wsum st ≤ 8 ∧ c + 0 ≤ 70 ∧ n + 0 ≤ 420 ∧ X z 193 0 [some (.int a0), some (.int a1)] [] (0, 0) (K, I, R, L, sz, ex) (aftr (X z) mT 212 71 ls st (c + 0, n + 0) Q)) := by
  rw [x212_71]
  exact inv_s (As := [.int a0, .int a1]) (rm := mi212) (ry := mi193) rfl rfl (by decide) rfl rfl (Nat.le_of_ble_eq_true rfl) rfl (by decide)
theorem v212_118 {z : P0} {ls : Lcs} {st : List Value} {c n : Nat} {K : Nat → Nat × Nat} {I : Nat → Nat → Int32} {R : Nat → Nat → Option Nat} {L : Nat → Nat → Int64} {sz : Nat} {ex : Bool} {Q : Res → Mem → Prop}  {a0 : Nat} {a1 : Int32} {a2 : Int32} {a3 : Int32} {a4 : Int32} : X z 212 118 ls (.int a4 :: .int a3 :: .int a2 :: .int a1 :: .ref a0 :: st) (c, n) (K, I, R, L, sz, ex) Q = (wsum st ≤ 8 ∧ c + 20 ≤ 70 ∧ n + 120 ≤ 420 ∧ X z 195 0 [some (.ref a0), some (.int a1), some (.int a2), some (.int a3), some (.int a4), none] [] (0, 0) (K, I, R, L, sz, ex) (aftr (X z) mT 212 118 ls st (c + 20, n + 120) Q)) := by
  rw [x212_118]
  exact inv_s (As := [.ref a0, .int a1, .int a2, .int a3, .int a4]) (rm := mi212) (ry := mi195) rfl rfl (by decide) rfl rfl (Nat.le_of_ble_eq_true rfl) rfl (by decide)
theorem v212_150 {z : P0} {ls : Lcs} {st : List Value} {c n : Nat} {K : Nat → Nat × Nat} {I : Nat → Nat → Int32} {R : Nat → Nat → Option Nat} {L : Nat → Nat → Int64} {sz : Nat} {ex : Bool} {Q : Res → Mem → Prop}  {a0 : Int32} {a1 : Int32} : X z 212 150 ls (.int a1 :: .int a0 :: st) (c, n) (K, I, R, L, sz, ex) Q = (wsum st ≤ 8 ∧ c + 0 ≤ 70 ∧ n + 0 ≤ 420 ∧ X z 193 0 [some (.int a0), some (.int a1)] [] (0, 0) (K, I, R, L, sz, ex) (aftr (X z) mT 212 150 ls st (c + 0, n + 0) Q)) := by
  rw [x212_150]
  exact inv_s (As := [.int a0, .int a1]) (rm := mi212) (ry := mi193) rfl rfl (by decide) rfl rfl (Nat.le_of_ble_eq_true rfl) rfl (by decide)
theorem v212_160 {z : P0} {ls : Lcs} {st : List Value} {c n : Nat} {K : Nat → Nat × Nat} {I : Nat → Nat → Int32} {R : Nat → Nat → Option Nat} {L : Nat → Nat → Int64} {sz : Nat} {ex : Bool} {Q : Res → Mem → Prop}  {a0 : Int32} {a1 : Int32} : X z 212 160 ls (.int a1 :: .int a0 :: st) (c, n) (K, I, R, L, sz, ex) Q = (wsum st ≤ 8 ∧ c + 0 ≤ 70 ∧ n + 0 ≤ 420 ∧ X z 193 0 [some (.int a0), some (.int a1)] [] (0, 0) (K, I, R, L, sz, ex) (aftr (X z) mT 212 160 ls st (c + 0, n + 0) Q)) := by
  rw [x212_160]
  exact inv_s (As := [.int a0, .int a1]) (rm := mi212) (ry := mi193) rfl rfl (by decide) rfl rfl (Nat.le_of_ble_eq_true rfl) rfl (by decide)
theorem v212_199 {z : P0} {ls : Lcs} {st : List Value} {c n : Nat} {K : Nat → Nat × Nat} {I : Nat → Nat → Int32} {R : Nat → Nat → Option Nat} {L : Nat → Nat → Int64} {sz : Nat} {ex : Bool} {Q : Res → Mem → Prop}  {a0 : Nat} {a1 : Int32} {a2 : Int32} {a3 : Int32} : X z 212 199 ls (.int a3 :: .int a2 :: .int a1 :: .ref a0 :: st) (c, n) (K, I, R, L, sz, ex) Q = (wsum st ≤ 8 ∧ c + 20 ≤ 70 ∧ n + 120 ≤ 420 ∧ X z 196 0 [some (.ref a0), some (.int a1), some (.int a2), some (.int a3), none] [] (0, 0) (K, I, R, L, sz, ex) (aftr (X z) mT 212 199 ls st (c + 20, n + 120) Q)) := by
  rw [x212_199]
  exact inv_s (As := [.ref a0, .int a1, .int a2, .int a3]) (rm := mi212) (ry := mi196) rfl rfl (by decide) rfl rfl (Nat.le_of_ble_eq_true rfl) rfl (by decide)
theorem v212_218 {z : P0} {ls : Lcs} {st : List Value} {c n : Nat} {K : Nat → Nat × Nat} {I : Nat → Nat → Int32} {R : Nat → Nat → Option Nat} {L : Nat → Nat → Int64} {sz : Nat} {ex : Bool} {Q : Res → Mem → Prop}  {a0 : Nat} {a1 : Int32} {a2 : Int32} {a3 : Nat} : X z 212 218 ls (.ref a3 :: .int a2 :: .int a1 :: .ref a0 :: st) (c, n) (K, I, R, L, sz, ex) Q = (wsum st ≤ 8 ∧ c + 60 ≤ 70 ∧ n + 360 ≤ 420 ∧ X z 197 0 [some (.ref a0), some (.int a1), some (.int a2), some (.ref a3), none, none, none, none, none, none, none] [] (0, 0) (K, I, R, L, sz, ex) (aftr (X z) mT 212 218 ls st (c + 60, n + 360) Q)) := by
  rw [x212_218]
  exact inv_s (As := [.ref a0, .int a1, .int a2, .ref a3]) (rm := mi212) (ry := mi197) rfl rfl (by decide) rfl rfl (Nat.le_of_ble_eq_true rfl) rfl (by decide)
theorem v212_257 {z : P0} {ls : Lcs} {st : List Value} {c n : Nat} {K : Nat → Nat × Nat} {I : Nat → Nat → Int32} {R : Nat → Nat → Option Nat} {L : Nat → Nat → Int64} {sz : Nat} {ex : Bool} {Q : Res → Mem → Prop} {x : Nat}  : X z 212 257 ls (.ref x :: st) (c, n) (K, I, R, L, sz, ex) Q = ((K x).1 = 110 ∧ wsum st ≤ 8 ∧ c + 1 ≤ 70 ∧ n + 6 ≤ 420 ∧ X z 60 0 [some (.ref x)] [] (0, 0) (K, I, R, L, sz, ex) (aftr (X z) mT 212 257 ls st (c + 1, n + 6) Q)) := by
  rw [x212_257]
  exact inv_v (As := []) (rm := mi212) (ry := mi60) rfl rfl (by decide) rfl rfl (Nat.le_of_ble_eq_true rfl) rfl rfl
theorem v212_266 {z : P0} {ls : Lcs} {st : List Value} {c n : Nat} {K : Nat → Nat × Nat} {I : Nat → Nat → Int32} {R : Nat → Nat → Option Nat} {L : Nat → Nat → Int64} {sz : Nat} {ex : Bool} {Q : Res → Mem → Prop} {x : Nat}  : X z 212 266 ls (.ref x :: st) (c, n) (K, I, R, L, sz, ex) Q = ((K x).1 = 110 ∧ wsum st ≤ 8 ∧ c + 0 ≤ 70 ∧ n + 0 ≤ 420 ∧ X z 68 0 [some (.ref x), none] [] (0, 0) (K, I, R, L, sz, ex) (aftr (X z) mT 212 266 ls st (c + 0, n + 0) Q)) := by
  rw [x212_266]
  exact inv_v (As := []) (rm := mi212) (ry := mi68) rfl rfl (by decide) rfl rfl (Nat.le_of_ble_eq_true rfl) rfl rfl
theorem v212_282 {z : P0} {ls : Lcs} {st : List Value} {c n : Nat} {K : Nat → Nat × Nat} {I : Nat → Nat → Int32} {R : Nat → Nat → Option Nat} {L : Nat → Nat → Int64} {sz : Nat} {ex : Bool} {Q : Res → Mem → Prop}  {a0 : Int32} {a1 : Int32} : X z 212 282 ls (.int a1 :: .int a0 :: st) (c, n) (K, I, R, L, sz, ex) Q = (wsum st ≤ 8 ∧ c + 0 ≤ 70 ∧ n + 0 ≤ 420 ∧ X z 193 0 [some (.int a0), some (.int a1)] [] (0, 0) (K, I, R, L, sz, ex) (aftr (X z) mT 212 282 ls st (c + 0, n + 0) Q)) := by
  rw [x212_282]
  exact inv_s (As := [.int a0, .int a1]) (rm := mi212) (ry := mi193) rfl rfl (by decide) rfl rfl (Nat.le_of_ble_eq_true rfl) rfl (by decide)
theorem v212_313 {z : P0} {ls : Lcs} {st : List Value} {c n : Nat} {K : Nat → Nat × Nat} {I : Nat → Nat → Int32} {R : Nat → Nat → Option Nat} {L : Nat → Nat → Int64} {sz : Nat} {ex : Bool} {Q : Res → Mem → Prop}  {a0 : Int32} {a1 : Int32} : X z 212 313 ls (.int a1 :: .int a0 :: st) (c, n) (K, I, R, L, sz, ex) Q = (wsum st ≤ 8 ∧ c + 0 ≤ 70 ∧ n + 0 ≤ 420 ∧ X z 193 0 [some (.int a0), some (.int a1)] [] (0, 0) (K, I, R, L, sz, ex) (aftr (X z) mT 212 313 ls st (c + 0, n + 0) Q)) := by
  rw [x212_313]
  exact inv_s (As := [.int a0, .int a1]) (rm := mi212) (ry := mi193) rfl rfl (by decide) rfl rfl (Nat.le_of_ble_eq_true rfl) rfl (by decide)
theorem v212_327 {z : P0} {ls : Lcs} {st : List Value} {c n : Nat} {K : Nat → Nat × Nat} {I : Nat → Nat → Int32} {R : Nat → Nat → Option Nat} {L : Nat → Nat → Int64} {sz : Nat} {ex : Bool} {Q : Res → Mem → Prop} {x : Nat} {a0 : Int32} {a1 : Int32} : X z 212 327 ls (.int a1 :: .int a0 :: .ref x :: st) (c, n) (K, I, R, L, sz, ex) Q = ((K x).1 = 110 ∧ wsum st ≤ 8 ∧ c + 1 ≤ 70 ∧ n + 6 ≤ 420 ∧ X z 62 0 [some (.ref x), some (.int a0), some (.int a1), none] [] (0, 0) (K, I, R, L, sz, ex) (aftr (X z) mT 212 327 ls st (c + 1, n + 6) Q)) := by
  rw [x212_327]
  exact inv_v (As := [.int a0, .int a1]) (rm := mi212) (ry := mi62) rfl rfl (by decide) rfl rfl (Nat.le_of_ble_eq_true rfl) rfl rfl
theorem v212_363 {z : P0} {ls : Lcs} {st : List Value} {c n : Nat} {K : Nat → Nat × Nat} {I : Nat → Nat → Int32} {R : Nat → Nat → Option Nat} {L : Nat → Nat → Int64} {sz : Nat} {ex : Bool} {Q : Res → Mem → Prop}  {a0 : Int32} {a1 : Int32} : X z 212 363 ls (.int a1 :: .int a0 :: st) (c, n) (K, I, R, L, sz, ex) Q = (wsum st ≤ 8 ∧ c + 0 ≤ 70 ∧ n + 0 ≤ 420 ∧ X z 193 0 [some (.int a0), some (.int a1)] [] (0, 0) (K, I, R, L, sz, ex) (aftr (X z) mT 212 363 ls st (c + 0, n + 0) Q)) := by
  rw [x212_363]
  exact inv_s (As := [.int a0, .int a1]) (rm := mi212) (ry := mi193) rfl rfl (by decide) rfl rfl (Nat.le_of_ble_eq_true rfl) rfl (by decide)
theorem v212_375 {z : P0} {ls : Lcs} {st : List Value} {c n : Nat} {K : Nat → Nat × Nat} {I : Nat → Nat → Int32} {R : Nat → Nat → Option Nat} {L : Nat → Nat → Int64} {sz : Nat} {ex : Bool} {Q : Res → Mem → Prop} {x : Nat} {a0 : Int32} {a1 : Int32} : X z 212 375 ls (.int a1 :: .int a0 :: .ref x :: st) (c, n) (K, I, R, L, sz, ex) Q = ((K x).1 = 110 ∧ wsum st ≤ 8 ∧ c + 1 ≤ 70 ∧ n + 6 ≤ 420 ∧ X z 61 0 [some (.ref x), some (.int a0), some (.int a1), none] [] (0, 0) (K, I, R, L, sz, ex) (aftr (X z) mT 212 375 ls st (c + 1, n + 6) Q)) := by
  rw [x212_375]
  exact inv_v (As := [.int a0, .int a1]) (rm := mi212) (ry := mi61) rfl rfl (by decide) rfl rfl (Nat.le_of_ble_eq_true rfl) rfl rfl
theorem v212_404 {z : P0} {ls : Lcs} {st : List Value} {c n : Nat} {K : Nat → Nat × Nat} {I : Nat → Nat → Int32} {R : Nat → Nat → Option Nat} {L : Nat → Nat → Int64} {sz : Nat} {ex : Bool} {Q : Res → Mem → Prop}  {a0 : Int32} {a1 : Int32} : X z 212 404 ls (.int a1 :: .int a0 :: st) (c, n) (K, I, R, L, sz, ex) Q = (wsum st ≤ 8 ∧ c + 0 ≤ 70 ∧ n + 0 ≤ 420 ∧ X z 193 0 [some (.int a0), some (.int a1)] [] (0, 0) (K, I, R, L, sz, ex) (aftr (X z) mT 212 404 ls st (c + 0, n + 0) Q)) := by
  rw [x212_404]
  exact inv_s (As := [.int a0, .int a1]) (rm := mi212) (ry := mi193) rfl rfl (by decide) rfl rfl (Nat.le_of_ble_eq_true rfl) rfl (by decide)
theorem v212_463 {z : P0} {ls : Lcs} {st : List Value} {c n : Nat} {K : Nat → Nat × Nat} {I : Nat → Nat → Int32} {R : Nat → Nat → Option Nat} {L : Nat → Nat → Int64} {sz : Nat} {ex : Bool} {Q : Res → Mem → Prop} {x : Nat} {a0 : Int32} {a1 : Int32} : X z 212 463 ls (.int a1 :: .int a0 :: .ref x :: st) (c, n) (K, I, R, L, sz, ex) Q = ((K x).1 = 110 ∧ wsum st ≤ 8 ∧ c + 1 ≤ 70 ∧ n + 6 ≤ 420 ∧ X z 63 0 [some (.ref x), some (.int a0), some (.int a1)] [] (0, 0) (K, I, R, L, sz, ex) (aftr (X z) mT 212 463 ls st (c + 1, n + 6) Q)) := by
  rw [x212_463]
  exact inv_v (As := [.int a0, .int a1]) (rm := mi212) (ry := mi63) rfl rfl (by decide) rfl rfl (Nat.le_of_ble_eq_true rfl) rfl rfl
theorem v212_488 {z : P0} {ls : Lcs} {st : List Value} {c n : Nat} {K : Nat → Nat × Nat} {I : Nat → Nat → Int32} {R : Nat → Nat → Option Nat} {L : Nat → Nat → Int64} {sz : Nat} {ex : Bool} {Q : Res → Mem → Prop}  {a0 : Int32} {a1 : Int32} : X z 212 488 ls (.int a1 :: .int a0 :: st) (c, n) (K, I, R, L, sz, ex) Q = (wsum st ≤ 8 ∧ c + 0 ≤ 70 ∧ n + 0 ≤ 420 ∧ X z 193 0 [some (.int a0), some (.int a1)] [] (0, 0) (K, I, R, L, sz, ex) (aftr (X z) mT 212 488 ls st (c + 0, n + 0) Q)) := by
  rw [x212_488]
  exact inv_s (As := [.int a0, .int a1]) (rm := mi212) (ry := mi193) rfl rfl (by decide) rfl rfl (Nat.le_of_ble_eq_true rfl) rfl (by decide)
theorem v212_505 {z : P0} {ls : Lcs} {st : List Value} {c n : Nat} {K : Nat → Nat × Nat} {I : Nat → Nat → Int32} {R : Nat → Nat → Option Nat} {L : Nat → Nat → Int64} {sz : Nat} {ex : Bool} {Q : Res → Mem → Prop} {x : Nat} {a0 : Int32} : X z 212 505 ls (.int a0 :: .ref x :: st) (c, n) (K, I, R, L, sz, ex) Q = ((K x).1 = 110 ∧ wsum st ≤ 8 ∧ c + 1 ≤ 70 ∧ n + 6 ≤ 420 ∧ X z 66 0 [some (.ref x), some (.int a0)] [] (0, 0) (K, I, R, L, sz, ex) (aftr (X z) mT 212 505 ls st (c + 1, n + 6) Q)) := by
  rw [x212_505]
  exact inv_v (As := [.int a0]) (rm := mi212) (ry := mi66) rfl rfl (by decide) rfl rfl (Nat.le_of_ble_eq_true rfl) rfl rfl
theorem v212_523 {z : P0} {ls : Lcs} {st : List Value} {c n : Nat} {K : Nat → Nat × Nat} {I : Nat → Nat → Int32} {R : Nat → Nat → Option Nat} {L : Nat → Nat → Int64} {sz : Nat} {ex : Bool} {Q : Res → Mem → Prop}  {a0 : Int32} {a1 : Int32} : X z 212 523 ls (.int a1 :: .int a0 :: st) (c, n) (K, I, R, L, sz, ex) Q = (wsum st ≤ 8 ∧ c + 0 ≤ 70 ∧ n + 0 ≤ 420 ∧ X z 193 0 [some (.int a0), some (.int a1)] [] (0, 0) (K, I, R, L, sz, ex) (aftr (X z) mT 212 523 ls st (c + 0, n + 0) Q)) := by
  rw [x212_523]
  exact inv_s (As := [.int a0, .int a1]) (rm := mi212) (ry := mi193) rfl rfl (by decide) rfl rfl (Nat.le_of_ble_eq_true rfl) rfl (by decide)
theorem v212_554 {z : P0} {ls : Lcs} {st : List Value} {c n : Nat} {K : Nat → Nat × Nat} {I : Nat → Nat → Int32} {R : Nat → Nat → Option Nat} {L : Nat → Nat → Int64} {sz : Nat} {ex : Bool} {Q : Res → Mem → Prop}  {a0 : Int32} {a1 : Int32} : X z 212 554 ls (.int a1 :: .int a0 :: st) (c, n) (K, I, R, L, sz, ex) Q = (wsum st ≤ 8 ∧ c + 0 ≤ 70 ∧ n + 0 ≤ 420 ∧ X z 193 0 [some (.int a0), some (.int a1)] [] (0, 0) (K, I, R, L, sz, ex) (aftr (X z) mT 212 554 ls st (c + 0, n + 0) Q)) := by
  rw [x212_554]
  exact inv_s (As := [.int a0, .int a1]) (rm := mi212) (ry := mi193) rfl rfl (by decide) rfl rfl (Nat.le_of_ble_eq_true rfl) rfl (by decide)
theorem v212_573 {z : P0} {ls : Lcs} {st : List Value} {c n : Nat} {K : Nat → Nat × Nat} {I : Nat → Nat → Int32} {R : Nat → Nat → Option Nat} {L : Nat → Nat → Int64} {sz : Nat} {ex : Bool} {Q : Res → Mem → Prop}  {a0 : Int32} {a1 : Int32} : X z 212 573 ls (.int a1 :: .int a0 :: st) (c, n) (K, I, R, L, sz, ex) Q = (wsum st ≤ 8 ∧ c + 0 ≤ 70 ∧ n + 0 ≤ 420 ∧ X z 193 0 [some (.int a0), some (.int a1)] [] (0, 0) (K, I, R, L, sz, ex) (aftr (X z) mT 212 573 ls st (c + 0, n + 0) Q)) := by
  rw [x212_573]
  exact inv_s (As := [.int a0, .int a1]) (rm := mi212) (ry := mi193) rfl rfl (by decide) rfl rfl (Nat.le_of_ble_eq_true rfl) rfl (by decide)
theorem v212_591 {z : P0} {ls : Lcs} {st : List Value} {c n : Nat} {K : Nat → Nat × Nat} {I : Nat → Nat → Int32} {R : Nat → Nat → Option Nat} {L : Nat → Nat → Int64} {sz : Nat} {ex : Bool} {Q : Res → Mem → Prop}  {a0 : Int32} {a1 : Int32} : X z 212 591 ls (.int a1 :: .int a0 :: st) (c, n) (K, I, R, L, sz, ex) Q = (wsum st ≤ 8 ∧ c + 0 ≤ 70 ∧ n + 0 ≤ 420 ∧ X z 193 0 [some (.int a0), some (.int a1)] [] (0, 0) (K, I, R, L, sz, ex) (aftr (X z) mT 212 591 ls st (c + 0, n + 0) Q)) := by
  rw [x212_591]
  exact inv_s (As := [.int a0, .int a1]) (rm := mi212) (ry := mi193) rfl rfl (by decide) rfl rfl (Nat.le_of_ble_eq_true rfl) rfl (by decide)
theorem v212_609 {z : P0} {ls : Lcs} {st : List Value} {c n : Nat} {K : Nat → Nat × Nat} {I : Nat → Nat → Int32} {R : Nat → Nat → Option Nat} {L : Nat → Nat → Int64} {sz : Nat} {ex : Bool} {Q : Res → Mem → Prop}  {a0 : Int32} {a1 : Int32} : X z 212 609 ls (.int a1 :: .int a0 :: st) (c, n) (K, I, R, L, sz, ex) Q = (wsum st ≤ 8 ∧ c + 0 ≤ 70 ∧ n + 0 ≤ 420 ∧ X z 193 0 [some (.int a0), some (.int a1)] [] (0, 0) (K, I, R, L, sz, ex) (aftr (X z) mT 212 609 ls st (c + 0, n + 0) Q)) := by
  rw [x212_609]
  exact inv_s (As := [.int a0, .int a1]) (rm := mi212) (ry := mi193) rfl rfl (by decide) rfl rfl (Nat.le_of_ble_eq_true rfl) rfl (by decide)
theorem v212_622 {z : P0} {ls : Lcs} {st : List Value} {c n : Nat} {K : Nat → Nat × Nat} {I : Nat → Nat → Int32} {R : Nat → Nat → Option Nat} {L : Nat → Nat → Int64} {sz : Nat} {ex : Bool} {Q : Res → Mem → Prop}  {a0 : Int32} {a1 : Int32} : X z 212 622 ls (.int a1 :: .int a0 :: st) (c, n) (K, I, R, L, sz, ex) Q = (wsum st ≤ 8 ∧ c + 0 ≤ 70 ∧ n + 0 ≤ 420 ∧ X z 193 0 [some (.int a0), some (.int a1)] [] (0, 0) (K, I, R, L, sz, ex) (aftr (X z) mT 212 622 ls st (c + 0, n + 0) Q)) := by
  rw [x212_622]
  exact inv_s (As := [.int a0, .int a1]) (rm := mi212) (ry := mi193) rfl rfl (by decide) rfl rfl (Nat.le_of_ble_eq_true rfl) rfl (by decide)
theorem v212_637 {z : P0} {ls : Lcs} {st : List Value} {c n : Nat} {K : Nat → Nat × Nat} {I : Nat → Nat → Int32} {R : Nat → Nat → Option Nat} {L : Nat → Nat → Int64} {sz : Nat} {ex : Bool} {Q : Res → Mem → Prop} {x : Nat} {a0 : Int32} {a1 : Int32} : X z 212 637 ls (.int a1 :: .int a0 :: .ref x :: st) (c, n) (K, I, R, L, sz, ex) Q = ((K x).1 = 110 ∧ wsum st ≤ 8 ∧ c + 1 ≤ 70 ∧ n + 6 ≤ 420 ∧ X z 64 0 [some (.ref x), some (.int a0), some (.int a1), none] [] (0, 0) (K, I, R, L, sz, ex) (aftr (X z) mT 212 637 ls st (c + 1, n + 6) Q)) := by
  rw [x212_637]
  exact inv_v (As := [.int a0, .int a1]) (rm := mi212) (ry := mi64) rfl rfl (by decide) rfl rfl (Nat.le_of_ble_eq_true rfl) rfl rfl
theorem v213_18 {z : P0} {ls : Lcs} {st : List Value} {c n : Nat} {K : Nat → Nat × Nat} {I : Nat → Nat → Int32} {R : Nat → Nat → Option Nat} {L : Nat → Nat → Int64} {sz : Nat} {ex : Bool} {Q : Res → Mem → Prop}  {a0 : Nat} {a1 : Nat} {a2 : Nat} {a3 : Nat} {a4 : Nat} {a5 : Nat} {a6 : Nat} : X z 213 18 ls (.ref a6 :: .ref a5 :: .ref a4 :: .ref a3 :: .ref a2 :: .ref a1 :: .ref a0 :: st) (c, n) (K, I, R, L, sz, ex) Q = (wsum st ≤ 8 ∧ c + 0 ≤ 3000 ∧ n + 0 ≤ 18000 ∧ X z 207 0 [some (.ref a0), some (.ref a1), some (.ref a2), some (.ref a3), some (.ref a4), some (.ref a5), some (.ref a6), none, none, none, none] [] (0, 0) (K, I, R, L, sz, ex) (aftr (X z) mT 213 18 ls st (c + 0, n + 0) Q)) := by
  rw [x213_18]
  exact inv_s (As := [.ref a0, .ref a1, .ref a2, .ref a3, .ref a4, .ref a5, .ref a6]) (rm := mi213) (ry := mi207) rfl rfl (by decide) rfl rfl (Nat.le_of_ble_eq_true rfl) rfl (by decide)
theorem v213_63 {z : P0} {ls : Lcs} {st : List Value} {c n : Nat} {K : Nat → Nat × Nat} {I : Nat → Nat → Int32} {R : Nat → Nat → Option Nat} {L : Nat → Nat → Int64} {sz : Nat} {ex : Bool} {Q : Res → Mem → Prop}  {a0 : Nat} {a1 : Nat} {a2 : Int32} {a3 : Nat} {a4 : Nat} {a5 : Nat} {a6 : Nat} {a7 : Nat} : X z 213 63 ls (.ref a7 :: .ref a6 :: .ref a5 :: .ref a4 :: .ref a3 :: .int a2 :: .ref a1 :: .ref a0 :: st) (c, n) (K, I, R, L, sz, ex) Q = (wsum st ≤ 8 ∧ c + 0 ≤ 3000 ∧ n + 0 ≤ 18000 ∧ X z 211 0 [some (.ref a0), some (.ref a1), some (.int a2), some (.ref a3), some (.ref a4), some (.ref a5), some (.ref a6), some (.ref a7), none, none] [] (0, 0) (K, I, R, L, sz, ex) (aftr (X z) mT 213 63 ls st (c + 0, n + 0) Q)) := by
  rw [x213_63]
  exact inv_s (As := [.ref a0, .ref a1, .int a2, .ref a3, .ref a4, .ref a5, .ref a6, .ref a7]) (rm := mi213) (ry := mi211) rfl rfl (by decide) rfl rfl (Nat.le_of_ble_eq_true rfl) rfl (by decide)
theorem v213_143 {z : P0} {ls : Lcs} {st : List Value} {c n : Nat} {K : Nat → Nat × Nat} {I : Nat → Nat → Int32} {R : Nat → Nat → Option Nat} {L : Nat → Nat → Int64} {sz : Nat} {ex : Bool} {Q : Res → Mem → Prop} {x : Nat} {a0 : Int32} {a1 : Int32} : X z 213 143 ls (.int a1 :: .int a0 :: .ref x :: st) (c, n) (K, I, R, L, sz, ex) Q = ((K x).1 = 110 ∧ wsum st ≤ 8 ∧ c + 1 ≤ 3000 ∧ n + 6 ≤ 18000 ∧ X z 75 0 [some (.ref x), some (.int a0), some (.int a1)] [] (0, 0) (K, I, R, L, sz, ex) (aftr (X z) mT 213 143 ls st (c + 1, n + 6) Q)) := by
  rw [x213_143]
  exact inv_v (As := [.int a0, .int a1]) (rm := mi213) (ry := mi75) rfl rfl (by decide) rfl rfl (Nat.le_of_ble_eq_true rfl) rfl rfl
theorem v213_173 {z : P0} {ls : Lcs} {st : List Value} {c n : Nat} {K : Nat → Nat × Nat} {I : Nat → Nat → Int32} {R : Nat → Nat → Option Nat} {L : Nat → Nat → Int64} {sz : Nat} {ex : Bool} {Q : Res → Mem → Prop} {x : Nat} {a0 : Int32} : X z 213 173 ls (.int a0 :: .ref x :: st) (c, n) (K, I, R, L, sz, ex) Q = ((K x).1 = 110 ∧ wsum st ≤ 8 ∧ c + 1 ≤ 3000 ∧ n + 6 ≤ 18000 ∧ X z 76 0 [some (.ref x), some (.int a0)] [] (0, 0) (K, I, R, L, sz, ex) (aftr (X z) mT 213 173 ls st (c + 1, n + 6) Q)) := by
  rw [x213_173]
  exact inv_v (As := [.int a0]) (rm := mi213) (ry := mi76) rfl rfl (by decide) rfl rfl (Nat.le_of_ble_eq_true rfl) rfl rfl
theorem v213_188 {z : P0} {ls : Lcs} {st : List Value} {c n : Nat} {K : Nat → Nat × Nat} {I : Nat → Nat → Int32} {R : Nat → Nat → Option Nat} {L : Nat → Nat → Int64} {sz : Nat} {ex : Bool} {Q : Res → Mem → Prop} {x : Nat} {a0 : Int32} {a1 : Int32} : X z 213 188 ls (.int a1 :: .int a0 :: .ref x :: st) (c, n) (K, I, R, L, sz, ex) Q = ((K x).1 = 110 ∧ wsum st ≤ 8 ∧ c + 1 ≤ 3000 ∧ n + 6 ≤ 18000 ∧ X z 74 0 [some (.ref x), some (.int a0), some (.int a1)] [] (0, 0) (K, I, R, L, sz, ex) (aftr (X z) mT 213 188 ls st (c + 1, n + 6) Q)) := by
  rw [x213_188]
  exact inv_v (As := [.int a0, .int a1]) (rm := mi213) (ry := mi74) rfl rfl (by decide) rfl rfl (Nat.le_of_ble_eq_true rfl) rfl rfl
theorem v213_196 {z : P0} {ls : Lcs} {st : List Value} {c n : Nat} {K : Nat → Nat × Nat} {I : Nat → Nat → Int32} {R : Nat → Nat → Option Nat} {L : Nat → Nat → Int64} {sz : Nat} {ex : Bool} {Q : Res → Mem → Prop}  {a0 : Int32} : X z 213 196 ls (.int a0 :: st) (c, n) (K, I, R, L, sz, ex) Q = (wsum st ≤ 8 ∧ c + 0 ≤ 3000 ∧ n + 0 ≤ 18000 ∧ X z 206 0 [some (.int a0), none, none] [] (0, 0) (K, I, R, L, sz, ex) (aftr (X z) mT 213 196 ls st (c + 0, n + 0) Q)) := by
  rw [x213_196]
  exact inv_s (As := [.int a0]) (rm := mi213) (ry := mi206) rfl rfl (by decide) rfl rfl (Nat.le_of_ble_eq_true rfl) rfl (by decide)
theorem v213_206 {z : P0} {ls : Lcs} {st : List Value} {c n : Nat} {K : Nat → Nat × Nat} {I : Nat → Nat → Int32} {R : Nat → Nat → Option Nat} {L : Nat → Nat → Int64} {sz : Nat} {ex : Bool} {Q : Res → Mem → Prop} {x : Nat} {a0 : Int32} {a1 : Int32} : X z 213 206 ls (.int a1 :: .int a0 :: .ref x :: st) (c, n) (K, I, R, L, sz, ex) Q = ((K x).1 = 110 ∧ wsum st ≤ 8 ∧ c + 1 ≤ 3000 ∧ n + 6 ≤ 18000 ∧ X z 74 0 [some (.ref x), some (.int a0), some (.int a1)] [] (0, 0) (K, I, R, L, sz, ex) (aftr (X z) mT 213 206 ls st (c + 1, n + 6) Q)) := by
  rw [x213_206]
  exact inv_v (As := [.int a0, .int a1]) (rm := mi213) (ry := mi74) rfl rfl (by decide) rfl rfl (Nat.le_of_ble_eq_true rfl) rfl rfl
theorem v213_220 {z : P0} {ls : Lcs} {st : List Value} {c n : Nat} {K : Nat → Nat × Nat} {I : Nat → Nat → Int32} {R : Nat → Nat → Option Nat} {L : Nat → Nat → Int64} {sz : Nat} {ex : Bool} {Q : Res → Mem → Prop} {x : Nat} {a0 : Int32} {a1 : Int32} : X z 213 220 ls (.int a1 :: .int a0 :: .ref x :: st) (c, n) (K, I, R, L, sz, ex) Q = ((K x).1 = 110 ∧ wsum st ≤ 8 ∧ c + 1 ≤ 3000 ∧ n + 6 ≤ 18000 ∧ X z 74 0 [some (.ref x), some (.int a0), some (.int a1)] [] (0, 0) (K, I, R, L, sz, ex) (aftr (X z) mT 213 220 ls st (c + 1, n + 6) Q)) := by
  rw [x213_220]
  exact inv_v (As := [.int a0, .int a1]) (rm := mi213) (ry := mi74) rfl rfl (by decide) rfl rfl (Nat.le_of_ble_eq_true rfl) rfl rfl
theorem v213_234 {z : P0} {ls : Lcs} {st : List Value} {c n : Nat} {K : Nat → Nat × Nat} {I : Nat → Nat → Int32} {R : Nat → Nat → Option Nat} {L : Nat → Nat → Int64} {sz : Nat} {ex : Bool} {Q : Res → Mem → Prop} {x : Nat} {a0 : Int32} {a1 : Int32} : X z 213 234 ls (.int a1 :: .int a0 :: .ref x :: st) (c, n) (K, I, R, L, sz, ex) Q = ((K x).1 = 110 ∧ wsum st ≤ 8 ∧ c + 1 ≤ 3000 ∧ n + 6 ≤ 18000 ∧ X z 74 0 [some (.ref x), some (.int a0), some (.int a1)] [] (0, 0) (K, I, R, L, sz, ex) (aftr (X z) mT 213 234 ls st (c + 1, n + 6) Q)) := by
  rw [x213_234]
  exact inv_v (As := [.int a0, .int a1]) (rm := mi213) (ry := mi74) rfl rfl (by decide) rfl rfl (Nat.le_of_ble_eq_true rfl) rfl rfl
theorem v213_250 {z : P0} {ls : Lcs} {st : List Value} {c n : Nat} {K : Nat → Nat × Nat} {I : Nat → Nat → Int32} {R : Nat → Nat → Option Nat} {L : Nat → Nat → Int64} {sz : Nat} {ex : Bool} {Q : Res → Mem → Prop} {x : Nat} {a0 : Int32} {a1 : Int32} : X z 213 250 ls (.int a1 :: .int a0 :: .ref x :: st) (c, n) (K, I, R, L, sz, ex) Q = ((K x).1 = 110 ∧ wsum st ≤ 8 ∧ c + 1 ≤ 3000 ∧ n + 6 ≤ 18000 ∧ X z 74 0 [some (.ref x), some (.int a0), some (.int a1)] [] (0, 0) (K, I, R, L, sz, ex) (aftr (X z) mT 213 250 ls st (c + 1, n + 6) Q)) := by
  rw [x213_250]
  exact inv_v (As := [.int a0, .int a1]) (rm := mi213) (ry := mi74) rfl rfl (by decide) rfl rfl (Nat.le_of_ble_eq_true rfl) rfl rfl
theorem v213_271 {z : P0} {ls : Lcs} {st : List Value} {c n : Nat} {K : Nat → Nat × Nat} {I : Nat → Nat → Int32} {R : Nat → Nat → Option Nat} {L : Nat → Nat → Int64} {sz : Nat} {ex : Bool} {Q : Res → Mem → Prop} {x : Nat} {a0 : Int32} {a1 : Int32} : X z 213 271 ls (.int a1 :: .int a0 :: .ref x :: st) (c, n) (K, I, R, L, sz, ex) Q = ((K x).1 = 110 ∧ wsum st ≤ 8 ∧ c + 1 ≤ 3000 ∧ n + 6 ≤ 18000 ∧ X z 74 0 [some (.ref x), some (.int a0), some (.int a1)] [] (0, 0) (K, I, R, L, sz, ex) (aftr (X z) mT 213 271 ls st (c + 1, n + 6) Q)) := by
  rw [x213_271]
  exact inv_v (As := [.int a0, .int a1]) (rm := mi213) (ry := mi74) rfl rfl (by decide) rfl rfl (Nat.le_of_ble_eq_true rfl) rfl rfl
theorem v213_319 {z : P0} {ls : Lcs} {st : List Value} {c n : Nat} {K : Nat → Nat × Nat} {I : Nat → Nat → Int32} {R : Nat → Nat → Option Nat} {L : Nat → Nat → Int64} {sz : Nat} {ex : Bool} {Q : Res → Mem → Prop} {x : Nat} {a0 : Int32} {a1 : Int32} : X z 213 319 ls (.int a1 :: .int a0 :: .ref x :: st) (c, n) (K, I, R, L, sz, ex) Q = ((K x).1 = 110 ∧ wsum st ≤ 8 ∧ c + 1 ≤ 3000 ∧ n + 6 ≤ 18000 ∧ X z 71 0 [some (.ref x), some (.int a0), some (.int a1)] [] (0, 0) (K, I, R, L, sz, ex) (aftr (X z) mT 213 319 ls st (c + 1, n + 6) Q)) := by
  rw [x213_319]
  exact inv_v (As := [.int a0, .int a1]) (rm := mi213) (ry := mi71) rfl rfl (by decide) rfl rfl (Nat.le_of_ble_eq_true rfl) rfl rfl
theorem v213_332 {z : P0} {ls : Lcs} {st : List Value} {c n : Nat} {K : Nat → Nat × Nat} {I : Nat → Nat → Int32} {R : Nat → Nat → Option Nat} {L : Nat → Nat → Int64} {sz : Nat} {ex : Bool} {Q : Res → Mem → Prop} {x : Nat} {a0 : Int32} {a1 : Int32} : X z 213 332 ls (.int a1 :: .int a0 :: .ref x :: st) (c, n) (K, I, R, L, sz, ex) Q = ((K x).1 = 110 ∧ wsum st ≤ 8 ∧ c + 1 ≤ 3000 ∧ n + 6 ≤ 18000 ∧ X z 71 0 [some (.ref x), some (.int a0), some (.int a1)] [] (0, 0) (K, I, R, L, sz, ex) (aftr (X z) mT 213 332 ls st (c + 1, n + 6) Q)) := by
  rw [x213_332]
  exact inv_v (As := [.int a0, .int a1]) (rm := mi213) (ry := mi71) rfl rfl (by decide) rfl rfl (Nat.le_of_ble_eq_true rfl) rfl rfl
theorem v213_352 {z : P0} {ls : Lcs} {st : List Value} {c n : Nat} {K : Nat → Nat × Nat} {I : Nat → Nat → Int32} {R : Nat → Nat → Option Nat} {L : Nat → Nat → Int64} {sz : Nat} {ex : Bool} {Q : Res → Mem → Prop} {x : Nat} {a0 : Int32} {a1 : Int32} : X z 213 352 ls (.int a1 :: .int a0 :: .ref x :: st) (c, n) (K, I, R, L, sz, ex) Q = ((K x).1 = 110 ∧ wsum st ≤ 8 ∧ c + 1 ≤ 3000 ∧ n + 6 ≤ 18000 ∧ X z 74 0 [some (.ref x), some (.int a0), some (.int a1)] [] (0, 0) (K, I, R, L, sz, ex) (aftr (X z) mT 213 352 ls st (c + 1, n + 6) Q)) := by
  rw [x213_352]
  exact inv_v (As := [.int a0, .int a1]) (rm := mi213) (ry := mi74) rfl rfl (by decide) rfl rfl (Nat.le_of_ble_eq_true rfl) rfl rfl
theorem v213_385 {z : P0} {ls : Lcs} {st : List Value} {c n : Nat} {K : Nat → Nat × Nat} {I : Nat → Nat → Int32} {R : Nat → Nat → Option Nat} {L : Nat → Nat → Int64} {sz : Nat} {ex : Bool} {Q : Res → Mem → Prop}  {a0 : Int32} : X z 213 385 ls (.int a0 :: st) (c, n) (K, I, R, L, sz, ex) Q = (wsum st ≤ 8 ∧ c + 0 ≤ 3000 ∧ n + 0 ≤ 18000 ∧ X z 206 0 [some (.int a0), none, none] [] (0, 0) (K, I, R, L, sz, ex) (aftr (X z) mT 213 385 ls st (c + 0, n + 0) Q)) := by
  rw [x213_385]
  exact inv_s (As := [.int a0]) (rm := mi213) (ry := mi206) rfl rfl (by decide) rfl rfl (Nat.le_of_ble_eq_true rfl) rfl (by decide)
theorem v213_439 {z : P0} {ls : Lcs} {st : List Value} {c n : Nat} {K : Nat → Nat × Nat} {I : Nat → Nat → Int32} {R : Nat → Nat → Option Nat} {L : Nat → Nat → Int64} {sz : Nat} {ex : Bool} {Q : Res → Mem → Prop}  {a0 : Nat} {a1 : Nat} {a2 : Nat} {a3 : Nat} {a4 : Nat} {a5 : Int32} : X z 213 439 ls (.int a5 :: .ref a4 :: .ref a3 :: .ref a2 :: .ref a1 :: .ref a0 :: st) (c, n) (K, I, R, L, sz, ex) Q = (wsum st ≤ 8 ∧ c + 0 ≤ 3000 ∧ n + 0 ≤ 18000 ∧ X z 205 0 [some (.ref a0), some (.ref a1), some (.ref a2), some (.ref a3), some (.ref a4), some (.int a5)] [] (0, 0) (K, I, R, L, sz, ex) (aftr (X z) mT 213 439 ls st (c + 0, n + 0) Q)) := by
  rw [x213_439]
  exact inv_s (As := [.ref a0, .ref a1, .ref a2, .ref a3, .ref a4, .int a5]) (rm := mi213) (ry := mi205) rfl rfl (by decide) rfl rfl (Nat.le_of_ble_eq_true rfl) rfl (by decide)
theorem v213_454 {z : P0} {ls : Lcs} {st : List Value} {c n : Nat} {K : Nat → Nat × Nat} {I : Nat → Nat → Int32} {R : Nat → Nat → Option Nat} {L : Nat → Nat → Int64} {sz : Nat} {ex : Bool} {Q : Res → Mem → Prop} {x : Nat} {a0 : Int32} {a1 : Int32} : X z 213 454 ls (.int a1 :: .int a0 :: .ref x :: st) (c, n) (K, I, R, L, sz, ex) Q = ((K x).1 = 110 ∧ wsum st ≤ 8 ∧ c + 1 ≤ 3000 ∧ n + 6 ≤ 18000 ∧ X z 71 0 [some (.ref x), some (.int a0), some (.int a1)] [] (0, 0) (K, I, R, L, sz, ex) (aftr (X z) mT 213 454 ls st (c + 1, n + 6) Q)) := by
  rw [x213_454]
  exact inv_v (As := [.int a0, .int a1]) (rm := mi213) (ry := mi71) rfl rfl (by decide) rfl rfl (Nat.le_of_ble_eq_true rfl) rfl rfl
theorem v213_466 {z : P0} {ls : Lcs} {st : List Value} {c n : Nat} {K : Nat → Nat × Nat} {I : Nat → Nat → Int32} {R : Nat → Nat → Option Nat} {L : Nat → Nat → Int64} {sz : Nat} {ex : Bool} {Q : Res → Mem → Prop} {x : Nat} {a0 : Int32} {a1 : Int32} : X z 213 466 ls (.int a1 :: .int a0 :: .ref x :: st) (c, n) (K, I, R, L, sz, ex) Q = ((K x).1 = 110 ∧ wsum st ≤ 8 ∧ c + 1 ≤ 3000 ∧ n + 6 ≤ 18000 ∧ X z 71 0 [some (.ref x), some (.int a0), some (.int a1)] [] (0, 0) (K, I, R, L, sz, ex) (aftr (X z) mT 213 466 ls st (c + 1, n + 6) Q)) := by
  rw [x213_466]
  exact inv_v (As := [.int a0, .int a1]) (rm := mi213) (ry := mi71) rfl rfl (by decide) rfl rfl (Nat.le_of_ble_eq_true rfl) rfl rfl
theorem v213_478 {z : P0} {ls : Lcs} {st : List Value} {c n : Nat} {K : Nat → Nat × Nat} {I : Nat → Nat → Int32} {R : Nat → Nat → Option Nat} {L : Nat → Nat → Int64} {sz : Nat} {ex : Bool} {Q : Res → Mem → Prop} {x : Nat} {a0 : Int32} {a1 : Int32} : X z 213 478 ls (.int a1 :: .int a0 :: .ref x :: st) (c, n) (K, I, R, L, sz, ex) Q = ((K x).1 = 110 ∧ wsum st ≤ 8 ∧ c + 1 ≤ 3000 ∧ n + 6 ≤ 18000 ∧ X z 71 0 [some (.ref x), some (.int a0), some (.int a1)] [] (0, 0) (K, I, R, L, sz, ex) (aftr (X z) mT 213 478 ls st (c + 1, n + 6) Q)) := by
  rw [x213_478]
  exact inv_v (As := [.int a0, .int a1]) (rm := mi213) (ry := mi71) rfl rfl (by decide) rfl rfl (Nat.le_of_ble_eq_true rfl) rfl rfl
theorem v213_494 {z : P0} {ls : Lcs} {st : List Value} {c n : Nat} {K : Nat → Nat × Nat} {I : Nat → Nat → Int32} {R : Nat → Nat → Option Nat} {L : Nat → Nat → Int64} {sz : Nat} {ex : Bool} {Q : Res → Mem → Prop} {x : Nat} {a0 : Int32} {a1 : Int32} : X z 213 494 ls (.int a1 :: .int a0 :: .ref x :: st) (c, n) (K, I, R, L, sz, ex) Q = ((K x).1 = 110 ∧ wsum st ≤ 8 ∧ c + 1 ≤ 3000 ∧ n + 6 ≤ 18000 ∧ X z 71 0 [some (.ref x), some (.int a0), some (.int a1)] [] (0, 0) (K, I, R, L, sz, ex) (aftr (X z) mT 213 494 ls st (c + 1, n + 6) Q)) := by
  rw [x213_494]
  exact inv_v (As := [.int a0, .int a1]) (rm := mi213) (ry := mi71) rfl rfl (by decide) rfl rfl (Nat.le_of_ble_eq_true rfl) rfl rfl
theorem v213_515 {z : P0} {ls : Lcs} {st : List Value} {c n : Nat} {K : Nat → Nat × Nat} {I : Nat → Nat → Int32} {R : Nat → Nat → Option Nat} {L : Nat → Nat → Int64} {sz : Nat} {ex : Bool} {Q : Res → Mem → Prop} {x : Nat} {a0 : Int32} : X z 213 515 ls (.int a0 :: .ref x :: st) (c, n) (K, I, R, L, sz, ex) Q = ((K x).1 = 110 ∧ wsum st ≤ 8 ∧ c + 1 ≤ 3000 ∧ n + 6 ≤ 18000 ∧ X z 77 0 [some (.ref x), some (.int a0)] [] (0, 0) (K, I, R, L, sz, ex) (aftr (X z) mT 213 515 ls st (c + 1, n + 6) Q)) := by
  rw [x213_515]
  exact inv_v (As := [.int a0]) (rm := mi213) (ry := mi77) rfl rfl (by decide) rfl rfl (Nat.le_of_ble_eq_true rfl) rfl rfl
theorem v213_527 {z : P0} {ls : Lcs} {st : List Value} {c n : Nat} {K : Nat → Nat × Nat} {I : Nat → Nat → Int32} {R : Nat → Nat → Option Nat} {L : Nat → Nat → Int64} {sz : Nat} {ex : Bool} {Q : Res → Mem → Prop} {x : Nat} {a0 : Int32} : X z 213 527 ls (.int a0 :: .ref x :: st) (c, n) (K, I, R, L, sz, ex) Q = ((K x).1 = 110 ∧ wsum st ≤ 8 ∧ c + 1 ≤ 3000 ∧ n + 6 ≤ 18000 ∧ X z 77 0 [some (.ref x), some (.int a0)] [] (0, 0) (K, I, R, L, sz, ex) (aftr (X z) mT 213 527 ls st (c + 1, n + 6) Q)) := by
  rw [x213_527]
  exact inv_v (As := [.int a0]) (rm := mi213) (ry := mi77) rfl rfl (by decide) rfl rfl (Nat.le_of_ble_eq_true rfl) rfl rfl
theorem v213_538 {z : P0} {ls : Lcs} {st : List Value} {c n : Nat} {K : Nat → Nat × Nat} {I : Nat → Nat → Int32} {R : Nat → Nat → Option Nat} {L : Nat → Nat → Int64} {sz : Nat} {ex : Bool} {Q : Res → Mem → Prop} {x : Nat} {a0 : Int32} : X z 213 538 ls (.int a0 :: .ref x :: st) (c, n) (K, I, R, L, sz, ex) Q = ((K x).1 = 110 ∧ wsum st ≤ 8 ∧ c + 1 ≤ 3000 ∧ n + 6 ≤ 18000 ∧ X z 77 0 [some (.ref x), some (.int a0)] [] (0, 0) (K, I, R, L, sz, ex) (aftr (X z) mT 213 538 ls st (c + 1, n + 6) Q)) := by
  rw [x213_538]
  exact inv_v (As := [.int a0]) (rm := mi213) (ry := mi77) rfl rfl (by decide) rfl rfl (Nat.le_of_ble_eq_true rfl) rfl rfl
theorem v213_549 {z : P0} {ls : Lcs} {st : List Value} {c n : Nat} {K : Nat → Nat × Nat} {I : Nat → Nat → Int32} {R : Nat → Nat → Option Nat} {L : Nat → Nat → Int64} {sz : Nat} {ex : Bool} {Q : Res → Mem → Prop} {x : Nat} {a0 : Int32} : X z 213 549 ls (.int a0 :: .ref x :: st) (c, n) (K, I, R, L, sz, ex) Q = ((K x).1 = 110 ∧ wsum st ≤ 8 ∧ c + 1 ≤ 3000 ∧ n + 6 ≤ 18000 ∧ X z 77 0 [some (.ref x), some (.int a0)] [] (0, 0) (K, I, R, L, sz, ex) (aftr (X z) mT 213 549 ls st (c + 1, n + 6) Q)) := by
  rw [x213_549]
  exact inv_v (As := [.int a0]) (rm := mi213) (ry := mi77) rfl rfl (by decide) rfl rfl (Nat.le_of_ble_eq_true rfl) rfl rfl
theorem v213_560 {z : P0} {ls : Lcs} {st : List Value} {c n : Nat} {K : Nat → Nat × Nat} {I : Nat → Nat → Int32} {R : Nat → Nat → Option Nat} {L : Nat → Nat → Int64} {sz : Nat} {ex : Bool} {Q : Res → Mem → Prop} {x : Nat} {a0 : Int32} : X z 213 560 ls (.int a0 :: .ref x :: st) (c, n) (K, I, R, L, sz, ex) Q = ((K x).1 = 110 ∧ wsum st ≤ 8 ∧ c + 1 ≤ 3000 ∧ n + 6 ≤ 18000 ∧ X z 77 0 [some (.ref x), some (.int a0)] [] (0, 0) (K, I, R, L, sz, ex) (aftr (X z) mT 213 560 ls st (c + 1, n + 6) Q)) := by
  rw [x213_560]
  exact inv_v (As := [.int a0]) (rm := mi213) (ry := mi77) rfl rfl (by decide) rfl rfl (Nat.le_of_ble_eq_true rfl) rfl rfl
theorem v213_576 {z : P0} {ls : Lcs} {st : List Value} {c n : Nat} {K : Nat → Nat × Nat} {I : Nat → Nat → Int32} {R : Nat → Nat → Option Nat} {L : Nat → Nat → Int64} {sz : Nat} {ex : Bool} {Q : Res → Mem → Prop} {x : Nat} {a0 : Int32} : X z 213 576 ls (.int a0 :: .ref x :: st) (c, n) (K, I, R, L, sz, ex) Q = ((K x).1 = 110 ∧ wsum st ≤ 8 ∧ c + 1 ≤ 3000 ∧ n + 6 ≤ 18000 ∧ X z 77 0 [some (.ref x), some (.int a0)] [] (0, 0) (K, I, R, L, sz, ex) (aftr (X z) mT 213 576 ls st (c + 1, n + 6) Q)) := by
  rw [x213_576]
  exact inv_v (As := [.int a0]) (rm := mi213) (ry := mi77) rfl rfl (by decide) rfl rfl (Nat.le_of_ble_eq_true rfl) rfl rfl
theorem v213_588 {z : P0} {ls : Lcs} {st : List Value} {c n : Nat} {K : Nat → Nat × Nat} {I : Nat → Nat → Int32} {R : Nat → Nat → Option Nat} {L : Nat → Nat → Int64} {sz : Nat} {ex : Bool} {Q : Res → Mem → Prop} {x : Nat} {a0 : Int32} : X z 213 588 ls (.int a0 :: .ref x :: st) (c, n) (K, I, R, L, sz, ex) Q = ((K x).1 = 110 ∧ wsum st ≤ 8 ∧ c + 1 ≤ 3000 ∧ n + 6 ≤ 18000 ∧ X z 77 0 [some (.ref x), some (.int a0)] [] (0, 0) (K, I, R, L, sz, ex) (aftr (X z) mT 213 588 ls st (c + 1, n + 6) Q)) := by
  rw [x213_588]
  exact inv_v (As := [.int a0]) (rm := mi213) (ry := mi77) rfl rfl (by decide) rfl rfl (Nat.le_of_ble_eq_true rfl) rfl rfl
theorem v213_600 {z : P0} {ls : Lcs} {st : List Value} {c n : Nat} {K : Nat → Nat × Nat} {I : Nat → Nat → Int32} {R : Nat → Nat → Option Nat} {L : Nat → Nat → Int64} {sz : Nat} {ex : Bool} {Q : Res → Mem → Prop} {x : Nat} {a0 : Int32} : X z 213 600 ls (.int a0 :: .ref x :: st) (c, n) (K, I, R, L, sz, ex) Q = ((K x).1 = 110 ∧ wsum st ≤ 8 ∧ c + 1 ≤ 3000 ∧ n + 6 ≤ 18000 ∧ X z 77 0 [some (.ref x), some (.int a0)] [] (0, 0) (K, I, R, L, sz, ex) (aftr (X z) mT 213 600 ls st (c + 1, n + 6) Q)) := by
  rw [x213_600]
  exact inv_v (As := [.int a0]) (rm := mi213) (ry := mi77) rfl rfl (by decide) rfl rfl (Nat.le_of_ble_eq_true rfl) rfl rfl
theorem v213_613 {z : P0} {ls : Lcs} {st : List Value} {c n : Nat} {K : Nat → Nat × Nat} {I : Nat → Nat → Int32} {R : Nat → Nat → Option Nat} {L : Nat → Nat → Int64} {sz : Nat} {ex : Bool} {Q : Res → Mem → Prop} {x : Nat} {a0 : Int32} : X z 213 613 ls (.int a0 :: .ref x :: st) (c, n) (K, I, R, L, sz, ex) Q = ((K x).1 = 110 ∧ wsum st ≤ 8 ∧ c + 1 ≤ 3000 ∧ n + 6 ≤ 18000 ∧ X z 77 0 [some (.ref x), some (.int a0)] [] (0, 0) (K, I, R, L, sz, ex) (aftr (X z) mT 213 613 ls st (c + 1, n + 6) Q)) := by
  rw [x213_613]
  exact inv_v (As := [.int a0]) (rm := mi213) (ry := mi77) rfl rfl (by decide) rfl rfl (Nat.le_of_ble_eq_true rfl) rfl rfl
theorem v213_735 {z : P0} {ls : Lcs} {st : List Value} {c n : Nat} {K : Nat → Nat × Nat} {I : Nat → Nat → Int32} {R : Nat → Nat → Option Nat} {L : Nat → Nat → Int64} {sz : Nat} {ex : Bool} {Q : Res → Mem → Prop} {x : Nat}  : X z 213 735 ls (.ref x :: st) (c, n) (K, I, R, L, sz, ex) Q = ((K x).1 = 110 ∧ wsum st ≤ 8 ∧ c + 1 ≤ 3000 ∧ n + 6 ≤ 18000 ∧ X z 65 0 [some (.ref x), none] [] (0, 0) (K, I, R, L, sz, ex) (aftr (X z) mT 213 735 ls st (c + 1, n + 6) Q)) := by
  rw [x213_735]
  exact inv_v (As := []) (rm := mi213) (ry := mi65) rfl rfl (by decide) rfl rfl (Nat.le_of_ble_eq_true rfl) rfl rfl
theorem v214_4 {z : P0} {ls : Lcs} {st : List Value} {c n : Nat} {K : Nat → Nat × Nat} {I : Nat → Nat → Int32} {R : Nat → Nat → Option Nat} {L : Nat → Nat → Int64} {sz : Nat} {ex : Bool} {Q : Res → Mem → Prop} {x : Nat}  : X z 214 4 ls (.ref x :: st) (c, n) (K, I, R, L, sz, ex) Q = ((K x).1 = 110 ∧ wsum st ≤ 8 ∧ c + 565 ≤ 600130 ∧ n + 6546 ≤ 7301080 ∧ X z 57 0 [some (.ref x), none, none] [] (0, 0) (K, I, R, L, sz, ex) (aftr (X z) mT 214 4 ls st (c + 565, n + 6546) Q)) := by
  rw [x214_4]
  exact inv_i (As := []) (rm := mi214) (ry := mi57) rfl rfl (by decide) rfl rfl (Nat.le_of_ble_eq_true rfl) rfl rfl (by decide)
theorem v214_119 {z : P0} {ls : Lcs} {st : List Value} {c n : Nat} {K : Nat → Nat × Nat} {I : Nat → Nat → Int32} {R : Nat → Nat → Option Nat} {L : Nat → Nat → Int64} {sz : Nat} {ex : Bool} {Q : Res → Mem → Prop}  {a0 : Nat} {a1 : Int32} : X z 214 119 ls (.int a1 :: .ref a0 :: st) (c, n) (K, I, R, L, sz, ex) Q = (wsum st ≤ 8 ∧ c + 0 ≤ 600130 ∧ n + 0 ≤ 7301080 ∧ X z 192 0 [some (.ref a0), some (.int a1)] [] (0, 0) (K, I, R, L, sz, ex) (aftr (X z) mT 214 119 ls st (c + 0, n + 0) Q)) := by
  rw [x214_119]
  exact inv_s (As := [.ref a0, .int a1]) (rm := mi214) (ry := mi192) rfl rfl (by decide) rfl rfl (Nat.le_of_ble_eq_true rfl) rfl (by decide)
theorem v214_131 {z : P0} {ls : Lcs} {st : List Value} {c n : Nat} {K : Nat → Nat × Nat} {I : Nat → Nat → Int32} {R : Nat → Nat → Option Nat} {L : Nat → Nat → Int64} {sz : Nat} {ex : Bool} {Q : Res → Mem → Prop}  {a0 : Nat} {a1 : Int32} : X z 214 131 ls (.int a1 :: .ref a0 :: st) (c, n) (K, I, R, L, sz, ex) Q = (wsum st ≤ 8 ∧ c + 0 ≤ 600130 ∧ n + 0 ≤ 7301080 ∧ X z 192 0 [some (.ref a0), some (.int a1)] [] (0, 0) (K, I, R, L, sz, ex) (aftr (X z) mT 214 131 ls st (c + 0, n + 0) Q)) := by
  rw [x214_131]
  exact inv_s (As := [.ref a0, .int a1]) (rm := mi214) (ry := mi192) rfl rfl (by decide) rfl rfl (Nat.le_of_ble_eq_true rfl) rfl (by decide)
theorem v214_169 {z : P0} {ls : Lcs} {st : List Value} {c n : Nat} {K : Nat → Nat × Nat} {I : Nat → Nat → Int32} {R : Nat → Nat → Option Nat} {L : Nat → Nat → Int64} {sz : Nat} {ex : Bool} {Q : Res → Mem → Prop}  {a0 : Nat} {a1 : Int32} {a2 : Int32} {a3 : Nat} {a4 : Nat} {a5 : Nat} {a6 : Nat} {a7 : Nat} {a8 : Nat} {a9 : Nat} {a10 : Nat} {a11 : Nat} {a12 : Nat} : X z 214 169 ls (.ref a12 :: .ref a11 :: .ref a10 :: .ref a9 :: .ref a8 :: .ref a7 :: .ref a6 :: .ref a5 :: .ref a4 :: .ref a3 :: .int a2 :: .int a1 :: .ref a0 :: st) (c, n) (K, I, R, L, sz, ex) Q = (wsum st ≤ 8 ∧ c + 70 ≤ 600130 ∧ n + 420 ≤ 7301080 ∧ X z 212 0 [some (.ref a0), some (.int a1), some (.int a2), some (.ref a3), some (.ref a4), some (.ref a5), some (.ref a6), some (.ref a7), some (.ref a8), some (.ref a9), some (.ref a10), some (.ref a11), some (.ref a12), none, none, none, none] [] (0, 0) (K, I, R, L, sz, ex) (aftr (X z) mT 214 169 ls st (c + 70, n + 420) Q)) := by
  rw [x214_169]
  exact inv_s (As := [.ref a0, .int a1, .int a2, .ref a3, .ref a4, .ref a5, .ref a6, .ref a7, .ref a8, .ref a9, .ref a10, .ref a11, .ref a12]) (rm := mi214) (ry := mi212) rfl rfl (by decide) rfl rfl (Nat.le_of_ble_eq_true rfl) rfl (by decide)
theorem v214_228 {z : P0} {ls : Lcs} {st : List Value} {c n : Nat} {K : Nat → Nat × Nat} {I : Nat → Nat → Int32} {R : Nat → Nat → Option Nat} {L : Nat → Nat → Int64} {sz : Nat} {ex : Bool} {Q : Res → Mem → Prop}  {a0 : Nat} {a1 : Int32} {a2 : Nat} {a3 : Nat} {a4 : Nat} {a5 : Nat} {a6 : Nat} {a7 : Nat} {a8 : Nat} {a9 : Nat} {a10 : Nat} {a11 : Nat} {a12 : Nat} : X z 214 228 ls (.ref a12 :: .ref a11 :: .ref a10 :: .ref a9 :: .ref a8 :: .ref a7 :: .ref a6 :: .ref a5 :: .ref a4 :: .ref a3 :: .ref a2 :: .int a1 :: .ref a0 :: st) (c, n) (K, I, R, L, sz, ex) Q = (wsum st ≤ 8 ∧ c + 3000 ≤ 600130 ∧ n + 18000 ≤ 7301080 ∧ X z 213 0 [some (.ref a0), some (.int a1), some (.ref a2), some (.ref a3), some (.ref a4), some (.ref a5), some (.ref a6), some (.ref a7), some (.ref a8), some (.ref a9), some (.ref a10), some (.ref a11), some (.ref a12), none, none, none, none, none, none, none, none, none, none] [] (0, 0) (K, I, R, L, sz, ex) (aftr (X z) mT 214 228 ls st (c + 3000, n + 18000) Q)) := by
  rw [x214_228]
  exact inv_s (As := [.ref a0, .int a1, .ref a2, .ref a3, .ref a4, .ref a5, .ref a6, .ref a7, .ref a8, .ref a9, .ref a10, .ref a11, .ref a12]) (rm := mi214) (ry := mi213) rfl rfl (by decide) rfl rfl (Nat.le_of_ble_eq_true rfl) rfl (by decide)
