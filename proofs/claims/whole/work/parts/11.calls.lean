/-! calls in the clean machine: it is monotone in what is asked at the end; a call is the callee's own run, then the rest -/
theorem aftr_mono2 {M : Nat → Option MI} {k k' : Cont} {Q Q' : Res → Mem → Prop} (hk : ∀ m pc ls st cu σ, k m pc ls st cu σ Q → k' m pc ls st cu σ Q') {m pc : Nat} {ls : Lcs} {rest : List Value} {cu : Nat × Nat} {r : Res} {σ : Mem} : aftr k M m pc ls rest cu Q r σ → aftr k' M m pc ls rest cu Q' r σ := by
  unfold aftr
  rcases r with (_ | v) | x
  · exact hk _ _ _ _ _ _
  · exact hk _ _ _ _ _ _
  · dsimp only
    cases M m with
    | none => exact id
    | some r =>
      dsimp only
      cases hnd (mi_hh r) (mi_hx r) pc x with
      | none => exact id
      | some h => exact fun f q => hk _ _ _ _ _ _ (f q)
theorem callX_mono2 {M : Nat → Option MI} {k k' : Cont} {Q Q' : Res → Mem → Prop} (hk : ∀ m pc ls st cu σ, k m pc ls st cu σ Q → k' m pc ls st cu σ Q') (hc : ∀ m pc ls st cu σ Q, k m pc ls st cu σ Q → k' m pc ls st cu σ Q) {y m pc : Nat} {As rest : List Value} {ls : Lcs} {cu : Nat × Nat} {σ : Mem} : callX k M y As rest m pc ls cu σ Q → callX k' M y As rest m pc ls cu σ Q' := by
  unfold callX
  cases M y with
  | none => exact id
  | some ry =>
    cases M m with
    | none => exact id
    | some rm =>
      rintro ⟨h1, h2, h3, h4, h5, Q1, h6, h7⟩
      exact ⟨h1, h2, h3, h4, h5, Q1, hc _ _ _ _ _ _ _ h6, fun r τ hq => aftr_mono2 hk (h7 r τ hq)⟩
set_option maxHeartbeats 4000000 in
theorem XI_mono2 {M : Nat → Option MI} {z : P0} {k k' : Cont} {Q Q' : Res → Mem → Prop} (hQ : ∀ r σ, Q r σ → Q' r σ) (hk : ∀ m pc ls st cu σ, k m pc ls st cu σ Q → k' m pc ls st cu σ Q') (hc : ∀ m pc ls st cu σ Q, k m pc ls st cu σ Q → k' m pc ls st cu σ Q) {e : AIn} {m pc : Nat} {ls : Lcs} {st : List Value} {cu : Nat × Nat} {σ : Mem} : XI M z k e m pc ls st cu σ Q → XI M z k' e m pc ls st cu σ Q' := by
  obtain ⟨ins, len, a, b, c, ts, w, q⟩ := e
  obtain ⟨K, I, R, L, sz, ex⟩ := σ
  have hk1 : ∀ {m pc ls st cu σ}, k m pc ls st cu σ Q → k' m pc ls st cu σ Q' := fun h => hk _ _ _ _ _ _ h
  have hQ1 : ∀ {r σ}, Q r σ → Q' r σ := fun h => hQ _ _ h
  cases ins <;> dsimp only [XI] <;> first
    | exact id
    | exact hk1
    | exact getL_mono (ldA_mono fun _ => hk1)
    | exact getL_mono (ldI_mono fun _ => hk1)
    | exact getL_mono (ldJ_mono fun _ => hk1)
    | exact getL_mono (ldD_mono fun _ => hk1)
    | exact getL_mono (ldI_mono fun _ => stL_mono fun _ => hk1)
    | exact And.imp_right hk1
    | exact ite_mono hk1 (ite_mono hk1 hk1)
    | exact ite_mono (And.imp_right (And.imp_right (And.imp_right hQ1))) (And.imp_right (And.imp_right hk1))
    | (refine ite_mono ?_ (ite_mono ?_ (And.imp_right (callX_mono2 hk hc)))
       · split
         · rintro ⟨h1, h2, h3, h4, h5, h6, h7, h8, h9⟩; exact ⟨h1, h2, h3, h4, h5, h6, h7, h8, hk1 h9⟩
         · exact id
       · split
         · exact And.imp_right hk1
         · exact id)
    | (split <;> first
        | exact id
        | exact hk1
        | exact hQ1
        | exact And.imp_right hQ1
        | exact stL_mono fun _ => hk1
        | exact stL2_mono fun _ => hk1
        | exact And.imp_right hk1
        | exact And.imp_right (And.imp_right hk1)
        | exact And.imp_right (And.imp_right (And.imp_right hk1))
        | exact And.imp_right (And.imp_right (And.imp_right (And.imp_right hk1)))
        | exact And.imp (fun f h => hk1 (f h)) (fun f h => hk1 (f h))
        | exact fun h => h.elim (fun x => Or.inl ⟨x.1, hk1 x.2⟩) (fun x => Or.inr ⟨x.1, x.2.1, by obtain ⟨t, h1, h2⟩ := x.2.2; exact ⟨t, h1, hk1 h2⟩⟩)
        | (rintro ⟨t, h1, h2⟩; exact ⟨t, h1, hk1 h2⟩)
        | exact And.imp_right (callX_mono2 hk hc)
        | exact ite_mono (fun h => ⟨h.1, h.2.1, hk1 h.2.2⟩) (And.imp_right (callX_mono2 hk hc)))
theorem X_mono {z : P0} {m pc : Nat} {ls : Lcs} {st : List Value} {cu : Nat × Nat} {σ : Mem} {Q Q' : Res → Mem → Prop} (h : X z m pc ls st cu σ Q) (hQ : ∀ r σ, Q r σ → Q' r σ) : X z m pc ls st cu σ Q' := by
  refine h (fun m pc ls st cu σ Q => ∀ Q', (∀ r σ, Q r σ → Q' r σ) → X z m pc ls st cu σ Q') (fun m pc ls st cu σ Q h Q' hQ => ?_) Q' hQ
  refine XX_in ?_
  unfold XS at h ⊢
  cases hm : mT m with
  | none => rw [hm] at h; exact h.elim
  | some r =>
    rw [hm] at h
    dsimp only at h ⊢
    cases hl : lk (mi_tb r) pc with
    | none => rw [hl] at h; exact h.elim
    | some e =>
      rw [hl] at h
      exact XI_mono2 hQ (fun _ _ _ _ _ _ h => h Q' hQ) (fun _ _ _ _ _ _ _ h => h _ fun _ _ h => h) h
theorem callX_eq {z : P0} {y m pc : Nat} {ry rm : MI} (h1 : mT m = some rm) (h2 : mT y = some ry) (ht : mi_ht ry < mi_ht rm) {As rest : List Value} (he : (ent1 As).length ≤ mi_ml ry) {ls : Lcs} {cu : Nat × Nat} {σ : Mem} {Q : Res → Mem → Prop} :
    callX (X z) mT y As rest m pc ls cu σ Q = (wsum rest ≤ 8 ∧ cu.1 + mi_mc ry ≤ mi_mc rm ∧ cu.2 + mi_ms ry ≤ mi_ms rm ∧ X z y 0 (ent (mi_ml ry) As) [] (0, 0) σ (aftr (X z) mT m pc ls rest (cu.1 + mi_mc ry, cu.2 + mi_ms ry) Q)) := by
  unfold callX
  rw [h1, h2]
  dsimp only
  refine propext ⟨?_, ?_⟩
  · rintro ⟨-, a1, a2, a3, -, Q', a4, a5⟩
    exact ⟨a1, a2, a3, X_mono a4 a5⟩
  · rintro ⟨a1, a2, a3, a4⟩
    exact ⟨ht, a1, a2, a3, he, _, a4, fun _ _ h => h⟩
section CV
variable {z : P0} {y m pc n a c i T : Nat} {ts : List Nat} {w : Int32} {q : Int64} {ry rm : MI} {x : Nat} {As st rest : List Value} {E ls : Lcs} {cu : Nat × Nat} {K : Nat → Nat × Nat} {I : Nat → Nat → Int32} {R : Nat → Nat → Option Nat} {L : Nat → Nat → Int64} {sz : Nat} {ex : Bool} {Q : Res → Mem → Prop}
theorem inv_v (h1 : mT m = some rm) (h2 : mT y = some ry) (ht : mi_ht ry < mi_ht rm) (hst : st = As.reverse ++ .ref x :: rest) (hal : As.length = a) (he : (ent1 (.ref x :: As)).length ≤ mi_ml ry) (hE : ent (mi_ml ry) (.ref x :: As) = E) (hT : tagOf (mi_cn ry) = T) :
    XI mT z (X z) (.invokevirtual i, n, a, y, c, ts, w, q) m pc ls st cu (K, I, R, L, sz, ex) Q = ((K x).1 = T ∧ wsum rest ≤ 8 ∧ cu.1 + mi_mc ry ≤ mi_mc rm ∧ cu.2 + mi_ms ry ≤ mi_ms rm ∧ X z y 0 E [] (0, 0) (K, I, R, L, sz, ex) (aftr (X z) mT m pc ls rest (cu.1 + mi_mc ry, cu.2 + mi_ms ry) Q)) := by
  subst hE; subst hT; subst hst
  dsimp only [XI]
  have e1 : (As.reverse ++ Value.ref x :: rest).drop a = .ref x :: rest := by rw [← hal, ← List.length_reverse, List.drop_left]
  have e2 : ((As.reverse ++ Value.ref x :: rest).take a).reverse = As := by rw [← hal, ← List.length_reverse, List.take_left, List.reverse_reverse]
  rw [e1, e2]
  dsimp only
  rw [h2, callX_eq h1 h2 ht he]
theorem inv_i (h1 : mT m = some rm) (h2 : mT y = some ry) (ht : mi_ht ry < mi_ht rm) (hst : st = As.reverse ++ .ref x :: rest) (hal : As.length = a) (he : (ent1 (.ref x :: As)).length ≤ mi_ml ry) (hE : ent (mi_ml ry) (.ref x :: As) = E) (hT : tagOf (mi_cn ry) = T) (hy : y ≠ 9003) :
    XI mT z (X z) (.invokespecial i, n, a, y, c, ts, w, q) m pc ls st cu (K, I, R, L, sz, ex) Q = ((K x).1 = T ∧ wsum rest ≤ 8 ∧ cu.1 + mi_mc ry ≤ mi_mc rm ∧ cu.2 + mi_ms ry ≤ mi_ms rm ∧ X z y 0 E [] (0, 0) (K, I, R, L, sz, ex) (aftr (X z) mT m pc ls rest (cu.1 + mi_mc ry, cu.2 + mi_ms ry) Q)) := by
  subst hE; subst hT; subst hst
  dsimp only [XI]
  have e1 : (As.reverse ++ Value.ref x :: rest).drop a = .ref x :: rest := by rw [← hal, ← List.length_reverse, List.drop_left]
  have e2 : ((As.reverse ++ Value.ref x :: rest).take a).reverse = As := by rw [← hal, ← List.length_reverse, List.take_left, List.reverse_reverse]
  rw [e1, e2]
  dsimp only
  rw [if_neg hy, h2, callX_eq h1 h2 ht he]
theorem inv_s (h1 : mT m = some rm) (h2 : mT y = some ry) (ht : mi_ht ry < mi_ht rm) (hst : st = As.reverse ++ rest) (hal : As.length = a) (he : (ent1 As).length ≤ mi_ml ry) (hE : ent (mi_ml ry) As = E) (hy : y ≠ 9001) (hy2 : y ≠ 9002) :
    XI mT z (X z) (.invokestatic i, n, a, y, c, ts, w, q) m pc ls st cu (K, I, R, L, sz, ex) Q = (wsum rest ≤ 8 ∧ cu.1 + mi_mc ry ≤ mi_mc rm ∧ cu.2 + mi_ms ry ≤ mi_ms rm ∧ X z y 0 E [] (0, 0) (K, I, R, L, sz, ex) (aftr (X z) mT m pc ls rest (cu.1 + mi_mc ry, cu.2 + mi_ms ry) Q)) := by
  subst hE; subst hst
  dsimp only [XI]
  have e1 : (As.reverse ++ rest).drop a = rest := by rw [← hal, ← List.length_reverse, List.drop_left]
  have e2 : ((As.reverse ++ rest).take a).reverse = As := by rw [← hal, ← List.length_reverse, List.take_left, List.reverse_reverse]
  rw [if_neg hy, if_neg hy2, e1, e2, callX_eq h1 h2 ht he]
  refine propext ⟨fun h => h.2, fun h => ⟨by rw [← hal, List.length_append, List.length_reverse]; exact Nat.le_add_right _ _, h⟩⟩
end CV
theorem and_t {p : Prop} {a b : Nat} (h : a ≤ b) : (a ≤ b ∧ p) = p := propext ⟨fun h => h.2, fun x => ⟨h, x⟩⟩
theorem aftr_n {k : Cont} {M : Nat → Option MI} {m pc : Nat} {ls : Lcs} {rest : List Value} {cu : Nat × Nat} {Q : Res → Mem → Prop} {σ : Mem} : aftr k M m pc ls rest cu Q (.inl none) σ = k m (pc + 3) ls rest cu σ Q := rfl
theorem aftr_s {k : Cont} {M : Nat → Option MI} {m pc : Nat} {ls : Lcs} {rest : List Value} {cu : Nat × Nat} {Q : Res → Mem → Prop} {v : Value} {σ : Mem} : aftr k M m pc ls rest cu Q (.inl (some v)) σ = k m (pc + 3) ls (v :: rest) cu σ Q := rfl
theorem v1_16 {z : P0} {ls : Lcs} {st : List Value} {c n : Nat} {K : Nat → Nat × Nat} {I : Nat → Nat → Int32} {R : Nat → Nat → Option Nat} {L : Nat → Nat → Int64} {sz : Nat} {ex : Bool} {Q : Res → Mem → Prop} {x : Nat} {a0 : Int32} : X z 1 16 ls (.int a0 :: .ref x :: st) (0, 0) (K, I, R, L, sz, ex) Q = ((K x).1 = 100 ∧ wsum st ≤ 8 ∧ X z 3 0 [some (.ref x), some (.int a0), none] [] (0, 0) (K, I, R, L, sz, ex) (aftr (X z) mT 1 16 ls st (0, 0) Q)) := by
  rw [x1_16]
  refine (inv_v (As := [.int a0]) (rm := mi1) (ry := mi3) rfl rfl (by decide) rfl rfl (Nat.le_of_ble_eq_true rfl) rfl rfl).trans ?_
  refine congrArg _ ?_
  exact Eq.trans (congrArg _ (and_t (Nat.zero_le _))) (congrArg _ (and_t (Nat.zero_le _)))
theorem v1_39 {z : P0} {ls : Lcs} {st : List Value} {c n : Nat} {K : Nat → Nat × Nat} {I : Nat → Nat → Int32} {R : Nat → Nat → Option Nat} {L : Nat → Nat → Int64} {sz : Nat} {ex : Bool} {Q : Res → Mem → Prop}  {a0 : Int32} {a1 : Int32} : X z 1 39 ls (.int a1 :: .int a0 :: st) (0, 0) (K, I, R, L, sz, ex) Q = (wsum st ≤ 8 ∧ X z 4 0 [some (.int a0), some (.int a1)] [] (0, 0) (K, I, R, L, sz, ex) (aftr (X z) mT 1 39 ls st (0, 0) Q)) := by
  rw [x1_39]
  refine (inv_s (As := [.int a0, .int a1]) (rm := mi1) (ry := mi4) rfl rfl (by decide) rfl rfl (Nat.le_of_ble_eq_true rfl) rfl (by decide) (by decide)).trans ?_
  exact Eq.trans (congrArg _ (and_t (Nat.zero_le _))) (congrArg _ (and_t (Nat.zero_le _)))
theorem v2_25 {z : P0} {ls : Lcs} {st : List Value} {c n : Nat} {K : Nat → Nat × Nat} {I : Nat → Nat → Int32} {R : Nat → Nat → Option Nat} {L : Nat → Nat → Int64} {sz : Nat} {ex : Bool} {Q : Res → Mem → Prop} {x : Nat} {a0 : Int32} : X z 2 25 ls (.int a0 :: .ref x :: st) (0, 0) (K, I, R, L, sz, ex) Q = ((K x).1 = 100 ∧ wsum st ≤ 8 ∧ X z 3 0 [some (.ref x), some (.int a0), none] [] (0, 0) (K, I, R, L, sz, ex) (aftr (X z) mT 2 25 ls st (0, 0) Q)) := by
  rw [x2_25]
  refine (inv_v (As := [.int a0]) (rm := mi2) (ry := mi3) rfl rfl (by decide) rfl rfl (Nat.le_of_ble_eq_true rfl) rfl rfl).trans ?_
  refine congrArg _ ?_
  exact Eq.trans (congrArg _ (and_t (Nat.zero_le _))) (congrArg _ (and_t (Nat.zero_le _)))
theorem v2_60 {z : P0} {ls : Lcs} {st : List Value} {c n : Nat} {K : Nat → Nat × Nat} {I : Nat → Nat → Int32} {R : Nat → Nat → Option Nat} {L : Nat → Nat → Int64} {sz : Nat} {ex : Bool} {Q : Res → Mem → Prop}  {a0 : Int32} {a1 : Int32} : X z 2 60 ls (.int a1 :: .int a0 :: st) (0, 0) (K, I, R, L, sz, ex) Q = (wsum st ≤ 8 ∧ X z 4 0 [some (.int a0), some (.int a1)] [] (0, 0) (K, I, R, L, sz, ex) (aftr (X z) mT 2 60 ls st (0, 0) Q)) := by
  rw [x2_60]
  refine (inv_s (As := [.int a0, .int a1]) (rm := mi2) (ry := mi4) rfl rfl (by decide) rfl rfl (Nat.le_of_ble_eq_true rfl) rfl (by decide) (by decide)).trans ?_
  exact Eq.trans (congrArg _ (and_t (Nat.zero_le _))) (congrArg _ (and_t (Nat.zero_le _)))
theorem v3_22 {z : P0} {ls : Lcs} {st : List Value} {c n : Nat} {K : Nat → Nat × Nat} {I : Nat → Nat → Int32} {R : Nat → Nat → Option Nat} {L : Nat → Nat → Int64} {sz : Nat} {ex : Bool} {Q : Res → Mem → Prop}  {a0 : Int32} : X z 3 22 ls (.int a0 :: st) (0, 0) (K, I, R, L, sz, ex) Q = (wsum st ≤ 8 ∧ X z 88 0 [some (.int a0)] [] (0, 0) (K, I, R, L, sz, ex) (aftr (X z) mT 3 22 ls st (0, 0) Q)) := by
  rw [x3_22]
  refine (inv_s (As := [.int a0]) (rm := mi3) (ry := mi88) rfl rfl (by decide) rfl rfl (Nat.le_of_ble_eq_true rfl) rfl (by decide) (by decide)).trans ?_
  exact Eq.trans (congrArg _ (and_t (Nat.zero_le _))) (congrArg _ (and_t (Nat.zero_le _)))
theorem v4_45 {z : P0} {ls : Lcs} {st : List Value} {c n : Nat} {K : Nat → Nat × Nat} {I : Nat → Nat → Int32} {R : Nat → Nat → Option Nat} {L : Nat → Nat → Int64} {sz : Nat} {ex : Bool} {Q : Res → Mem → Prop}  {a0 : Int32} : X z 4 45 ls (.int a0 :: st) (0, 0) (K, I, R, L, sz, ex) Q = (wsum st ≤ 8 ∧ X z 7 0 [some (.int a0)] [] (0, 0) (K, I, R, L, sz, ex) (aftr (X z) mT 4 45 ls st (0, 0) Q)) := by
  rw [x4_45]
  refine (inv_s (As := [.int a0]) (rm := mi4) (ry := mi7) rfl rfl (by decide) rfl rfl (Nat.le_of_ble_eq_true rfl) rfl (by decide) (by decide)).trans ?_
  exact Eq.trans (congrArg _ (and_t (Nat.zero_le _))) (congrArg _ (and_t (Nat.zero_le _)))
theorem v4_59 {z : P0} {ls : Lcs} {st : List Value} {c n : Nat} {K : Nat → Nat × Nat} {I : Nat → Nat → Int32} {R : Nat → Nat → Option Nat} {L : Nat → Nat → Int64} {sz : Nat} {ex : Bool} {Q : Res → Mem → Prop}  {a0 : Int32} : X z 4 59 ls (.int a0 :: st) (0, 0) (K, I, R, L, sz, ex) Q = (wsum st ≤ 8 ∧ X z 7 0 [some (.int a0)] [] (0, 0) (K, I, R, L, sz, ex) (aftr (X z) mT 4 59 ls st (0, 0) Q)) := by
  rw [x4_59]
  refine (inv_s (As := [.int a0]) (rm := mi4) (ry := mi7) rfl rfl (by decide) rfl rfl (Nat.le_of_ble_eq_true rfl) rfl (by decide) (by decide)).trans ?_
  exact Eq.trans (congrArg _ (and_t (Nat.zero_le _))) (congrArg _ (and_t (Nat.zero_le _)))
theorem v4_100 {z : P0} {ls : Lcs} {st : List Value} {c n : Nat} {K : Nat → Nat × Nat} {I : Nat → Nat → Int32} {R : Nat → Nat → Option Nat} {L : Nat → Nat → Int64} {sz : Nat} {ex : Bool} {Q : Res → Mem → Prop}  {a0 : Int32} : X z 4 100 ls (.int a0 :: st) (0, 0) (K, I, R, L, sz, ex) Q = (wsum st ≤ 8 ∧ X z 5 0 [some (.int a0)] [] (0, 0) (K, I, R, L, sz, ex) (aftr (X z) mT 4 100 ls st (0, 0) Q)) := by
  rw [x4_100]
  refine (inv_s (As := [.int a0]) (rm := mi4) (ry := mi5) rfl rfl (by decide) rfl rfl (Nat.le_of_ble_eq_true rfl) rfl (by decide) (by decide)).trans ?_
  exact Eq.trans (congrArg _ (and_t (Nat.zero_le _))) (congrArg _ (and_t (Nat.zero_le _)))
theorem v4_105 {z : P0} {ls : Lcs} {st : List Value} {c n : Nat} {K : Nat → Nat × Nat} {I : Nat → Nat → Int32} {R : Nat → Nat → Option Nat} {L : Nat → Nat → Int64} {sz : Nat} {ex : Bool} {Q : Res → Mem → Prop}  {a0 : Int32} : X z 4 105 ls (.int a0 :: st) (0, 0) (K, I, R, L, sz, ex) Q = (wsum st ≤ 8 ∧ X z 6 0 [some (.int a0)] [] (0, 0) (K, I, R, L, sz, ex) (aftr (X z) mT 4 105 ls st (0, 0) Q)) := by
  rw [x4_105]
  refine (inv_s (As := [.int a0]) (rm := mi4) (ry := mi6) rfl rfl (by decide) rfl rfl (Nat.le_of_ble_eq_true rfl) rfl (by decide) (by decide)).trans ?_
  exact Eq.trans (congrArg _ (and_t (Nat.zero_le _))) (congrArg _ (and_t (Nat.zero_le _)))
theorem v4_120 {z : P0} {ls : Lcs} {st : List Value} {c n : Nat} {K : Nat → Nat × Nat} {I : Nat → Nat → Int32} {R : Nat → Nat → Option Nat} {L : Nat → Nat → Int64} {sz : Nat} {ex : Bool} {Q : Res → Mem → Prop}  {a0 : Int32} : X z 4 120 ls (.int a0 :: st) (0, 0) (K, I, R, L, sz, ex) Q = (wsum st ≤ 8 ∧ X z 6 0 [some (.int a0)] [] (0, 0) (K, I, R, L, sz, ex) (aftr (X z) mT 4 120 ls st (0, 0) Q)) := by
  rw [x4_120]
  refine (inv_s (As := [.int a0]) (rm := mi4) (ry := mi6) rfl rfl (by decide) rfl rfl (Nat.le_of_ble_eq_true rfl) rfl (by decide) (by decide)).trans ?_
  exact Eq.trans (congrArg _ (and_t (Nat.zero_le _))) (congrArg _ (and_t (Nat.zero_le _)))
theorem v5_17 {z : P0} {ls : Lcs} {st : List Value} {c n : Nat} {K : Nat → Nat × Nat} {I : Nat → Nat → Int32} {R : Nat → Nat → Option Nat} {L : Nat → Nat → Int64} {sz : Nat} {ex : Bool} {Q : Res → Mem → Prop}  {a0 : Int32} : X z 5 17 ls (.int a0 :: st) (0, 0) (K, I, R, L, sz, ex) Q = (wsum st ≤ 8 ∧ X z 8 0 [some (.int a0)] [] (0, 0) (K, I, R, L, sz, ex) (aftr (X z) mT 5 17 ls st (0, 0) Q)) := by
  rw [x5_17]
  refine (inv_s (As := [.int a0]) (rm := mi5) (ry := mi8) rfl rfl (by decide) rfl rfl (Nat.le_of_ble_eq_true rfl) rfl (by decide) (by decide)).trans ?_
  exact Eq.trans (congrArg _ (and_t (Nat.zero_le _))) (congrArg _ (and_t (Nat.zero_le _)))
theorem v6_9 {z : P0} {ls : Lcs} {st : List Value} {c n : Nat} {K : Nat → Nat × Nat} {I : Nat → Nat → Int32} {R : Nat → Nat → Option Nat} {L : Nat → Nat → Int64} {sz : Nat} {ex : Bool} {Q : Res → Mem → Prop}  {a0 : Int32} : X z 6 9 ls (.int a0 :: st) (0, 0) (K, I, R, L, sz, ex) Q = (wsum st ≤ 8 ∧ X z 8 0 [some (.int a0)] [] (0, 0) (K, I, R, L, sz, ex) (aftr (X z) mT 6 9 ls st (0, 0) Q)) := by
  rw [x6_9]
  refine (inv_s (As := [.int a0]) (rm := mi6) (ry := mi8) rfl rfl (by decide) rfl rfl (Nat.le_of_ble_eq_true rfl) rfl (by decide) (by decide)).trans ?_
  exact Eq.trans (congrArg _ (and_t (Nat.zero_le _))) (congrArg _ (and_t (Nat.zero_le _)))
theorem v8_1 {z : P0} {ls : Lcs} {st : List Value} {c n : Nat} {K : Nat → Nat × Nat} {I : Nat → Nat → Int32} {R : Nat → Nat → Option Nat} {L : Nat → Nat → Int64} {sz : Nat} {ex : Bool} {Q : Res → Mem → Prop}  {a0 : Int32} : X z 8 1 ls (.int a0 :: st) (0, 0) (K, I, R, L, sz, ex) Q = (wsum st ≤ 8 ∧ X z 88 0 [some (.int a0)] [] (0, 0) (K, I, R, L, sz, ex) (aftr (X z) mT 8 1 ls st (0, 0) Q)) := by
  rw [x8_1]
  refine (inv_s (As := [.int a0]) (rm := mi8) (ry := mi88) rfl rfl (by decide) rfl rfl (Nat.le_of_ble_eq_true rfl) rfl (by decide) (by decide)).trans ?_
  exact Eq.trans (congrArg _ (and_t (Nat.zero_le _))) (congrArg _ (and_t (Nat.zero_le _)))
theorem v10_107 {z : P0} {ls : Lcs} {st : List Value} {c n : Nat} {K : Nat → Nat × Nat} {I : Nat → Nat → Int32} {R : Nat → Nat → Option Nat} {L : Nat → Nat → Int64} {sz : Nat} {ex : Bool} {Q : Res → Mem → Prop} {x : Nat} {a0 : Int32} {a1 : Nat} {a2 : Nat} : X z 10 107 ls (.ref a2 :: .ref a1 :: .int a0 :: .ref x :: st) (0, 0) (K, I, R, L, sz, ex) Q = ((K x).1 = 101 ∧ wsum st ≤ 8 ∧ X z 11 0 [some (.ref x), some (.int a0), some (.ref a1), some (.ref a2)] [] (0, 0) (K, I, R, L, sz, ex) (aftr (X z) mT 10 107 ls st (0, 0) Q)) := by
  rw [x10_107]
  refine (inv_v (As := [.int a0, .ref a1, .ref a2]) (rm := mi10) (ry := mi11) rfl rfl (by decide) rfl rfl (Nat.le_of_ble_eq_true rfl) rfl rfl).trans ?_
  refine congrArg _ ?_
  exact Eq.trans (congrArg _ (and_t (Nat.zero_le _))) (congrArg _ (and_t (Nat.zero_le _)))
theorem v10_124 {z : P0} {ls : Lcs} {st : List Value} {c n : Nat} {K : Nat → Nat × Nat} {I : Nat → Nat → Int32} {R : Nat → Nat → Option Nat} {L : Nat → Nat → Int64} {sz : Nat} {ex : Bool} {Q : Res → Mem → Prop} {x : Nat} {a0 : Int32} : X z 10 124 ls (.int a0 :: .ref x :: st) (0, 0) (K, I, R, L, sz, ex) Q = ((K x).1 = 101 ∧ wsum st ≤ 8 ∧ X z 19 0 [some (.ref x), some (.int a0)] [] (0, 0) (K, I, R, L, sz, ex) (aftr (X z) mT 10 124 ls st (0, 0) Q)) := by
  rw [x10_124]
  refine (inv_v (As := [.int a0]) (rm := mi10) (ry := mi19) rfl rfl (by decide) rfl rfl (Nat.le_of_ble_eq_true rfl) rfl rfl).trans ?_
  refine congrArg _ ?_
  exact Eq.trans (congrArg _ (and_t (Nat.zero_le _))) (congrArg _ (and_t (Nat.zero_le _)))
theorem v11_9 {z : P0} {ls : Lcs} {st : List Value} {c n : Nat} {K : Nat → Nat × Nat} {I : Nat → Nat → Int32} {R : Nat → Nat → Option Nat} {L : Nat → Nat → Int64} {sz : Nat} {ex : Bool} {Q : Res → Mem → Prop} {x : Nat} {a0 : Nat} {a1 : Nat} : X z 11 9 ls (.ref a1 :: .ref a0 :: .ref x :: st) (0, 0) (K, I, R, L, sz, ex) Q = ((K x).1 = 101 ∧ wsum st ≤ 8 ∧ X z 12 0 [some (.ref x), some (.ref a0), some (.ref a1), none, none] [] (0, 0) (K, I, R, L, sz, ex) (aftr (X z) mT 11 9 ls st (0, 0) Q)) := by
  rw [x11_9]
  refine (inv_v (As := [.ref a0, .ref a1]) (rm := mi11) (ry := mi12) rfl rfl (by decide) rfl rfl (Nat.le_of_ble_eq_true rfl) rfl rfl).trans ?_
  refine congrArg _ ?_
  exact Eq.trans (congrArg _ (and_t (Nat.zero_le _))) (congrArg _ (and_t (Nat.zero_le _)))
theorem v11_24 {z : P0} {ls : Lcs} {st : List Value} {c n : Nat} {K : Nat → Nat × Nat} {I : Nat → Nat → Int32} {R : Nat → Nat → Option Nat} {L : Nat → Nat → Int64} {sz : Nat} {ex : Bool} {Q : Res → Mem → Prop} {x : Nat} {a0 : Nat} {a1 : Nat} : X z 11 24 ls (.ref a1 :: .ref a0 :: .ref x :: st) (0, 0) (K, I, R, L, sz, ex) Q = ((K x).1 = 101 ∧ wsum st ≤ 8 ∧ X z 13 0 [some (.ref x), some (.ref a0), some (.ref a1), none, none] [] (0, 0) (K, I, R, L, sz, ex) (aftr (X z) mT 11 24 ls st (0, 0) Q)) := by
  rw [x11_24]
  refine (inv_v (As := [.ref a0, .ref a1]) (rm := mi11) (ry := mi13) rfl rfl (by decide) rfl rfl (Nat.le_of_ble_eq_true rfl) rfl rfl).trans ?_
  refine congrArg _ ?_
  exact Eq.trans (congrArg _ (and_t (Nat.zero_le _))) (congrArg _ (and_t (Nat.zero_le _)))
theorem v11_39 {z : P0} {ls : Lcs} {st : List Value} {c n : Nat} {K : Nat → Nat × Nat} {I : Nat → Nat → Int32} {R : Nat → Nat → Option Nat} {L : Nat → Nat → Int64} {sz : Nat} {ex : Bool} {Q : Res → Mem → Prop} {x : Nat} {a0 : Nat} {a1 : Nat} : X z 11 39 ls (.ref a1 :: .ref a0 :: .ref x :: st) (0, 0) (K, I, R, L, sz, ex) Q = ((K x).1 = 101 ∧ wsum st ≤ 8 ∧ X z 15 0 [some (.ref x), some (.ref a0), some (.ref a1), none, none, none] [] (0, 0) (K, I, R, L, sz, ex) (aftr (X z) mT 11 39 ls st (0, 0) Q)) := by
  rw [x11_39]
  refine (inv_v (As := [.ref a0, .ref a1]) (rm := mi11) (ry := mi15) rfl rfl (by decide) rfl rfl (Nat.le_of_ble_eq_true rfl) rfl rfl).trans ?_
  refine congrArg _ ?_
  exact Eq.trans (congrArg _ (and_t (Nat.zero_le _))) (congrArg _ (and_t (Nat.zero_le _)))
theorem v11_53 {z : P0} {ls : Lcs} {st : List Value} {c n : Nat} {K : Nat → Nat × Nat} {I : Nat → Nat → Int32} {R : Nat → Nat → Option Nat} {L : Nat → Nat → Int64} {sz : Nat} {ex : Bool} {Q : Res → Mem → Prop} {x : Nat} {a0 : Int32} : X z 11 53 ls (.int a0 :: .ref x :: st) (0, 0) (K, I, R, L, sz, ex) Q = ((K x).1 = 101 ∧ wsum st ≤ 8 ∧ X z 19 0 [some (.ref x), some (.int a0)] [] (0, 0) (K, I, R, L, sz, ex) (aftr (X z) mT 11 53 ls st (0, 0) Q)) := by
  rw [x11_53]
  refine (inv_v (As := [.int a0]) (rm := mi11) (ry := mi19) rfl rfl (by decide) rfl rfl (Nat.le_of_ble_eq_true rfl) rfl rfl).trans ?_
  refine congrArg _ ?_
  exact Eq.trans (congrArg _ (and_t (Nat.zero_le _))) (congrArg _ (and_t (Nat.zero_le _)))
theorem v12_45 {z : P0} {ls : Lcs} {st : List Value} {c n : Nat} {K : Nat → Nat × Nat} {I : Nat → Nat → Int32} {R : Nat → Nat → Option Nat} {L : Nat → Nat → Int64} {sz : Nat} {ex : Bool} {Q : Res → Mem → Prop} {x : Nat} {a0 : Int32} : X z 12 45 ls (.int a0 :: .ref x :: st) (0, 0) (K, I, R, L, sz, ex) Q = ((K x).1 = 101 ∧ wsum st ≤ 8 ∧ X z 19 0 [some (.ref x), some (.int a0)] [] (0, 0) (K, I, R, L, sz, ex) (aftr (X z) mT 12 45 ls st (0, 0) Q)) := by
  rw [x12_45]
  refine (inv_v (As := [.int a0]) (rm := mi12) (ry := mi19) rfl rfl (by decide) rfl rfl (Nat.le_of_ble_eq_true rfl) rfl rfl).trans ?_
  refine congrArg _ ?_
  exact Eq.trans (congrArg _ (and_t (Nat.zero_le _))) (congrArg _ (and_t (Nat.zero_le _)))
theorem v12_59 {z : P0} {ls : Lcs} {st : List Value} {c n : Nat} {K : Nat → Nat × Nat} {I : Nat → Nat → Int32} {R : Nat → Nat → Option Nat} {L : Nat → Nat → Int64} {sz : Nat} {ex : Bool} {Q : Res → Mem → Prop} {x : Nat} {a0 : Nat} {a1 : Int32} : X z 12 59 ls (.int a1 :: .ref a0 :: .ref x :: st) (0, 0) (K, I, R, L, sz, ex) Q = ((K x).1 = 101 ∧ wsum st ≤ 8 ∧ X z 17 0 [some (.ref x), some (.ref a0), some (.int a1), none] [] (0, 0) (K, I, R, L, sz, ex) (aftr (X z) mT 12 59 ls st (0, 0) Q)) := by
  rw [x12_59]
  refine (inv_v (As := [.ref a0, .int a1]) (rm := mi12) (ry := mi17) rfl rfl (by decide) rfl rfl (Nat.le_of_ble_eq_true rfl) rfl rfl).trans ?_
  refine congrArg _ ?_
  exact Eq.trans (congrArg _ (and_t (Nat.zero_le _))) (congrArg _ (and_t (Nat.zero_le _)))
theorem v13_49 {z : P0} {ls : Lcs} {st : List Value} {c n : Nat} {K : Nat → Nat × Nat} {I : Nat → Nat → Int32} {R : Nat → Nat → Option Nat} {L : Nat → Nat → Int64} {sz : Nat} {ex : Bool} {Q : Res → Mem → Prop} {x : Nat} {a0 : Nat} : X z 13 49 ls (.ref a0 :: .ref x :: st) (0, 0) (K, I, R, L, sz, ex) Q = ((K x).1 = 101 ∧ wsum st ≤ 8 ∧ X z 18 0 [some (.ref x), some (.ref a0), none] [] (0, 0) (K, I, R, L, sz, ex) (aftr (X z) mT 13 49 ls st (0, 0) Q)) := by
  rw [x13_49]
  refine (inv_v (As := [.ref a0]) (rm := mi13) (ry := mi18) rfl rfl (by decide) rfl rfl (Nat.le_of_ble_eq_true rfl) rfl rfl).trans ?_
  refine congrArg _ ?_
  exact Eq.trans (congrArg _ (and_t (Nat.zero_le _))) (congrArg _ (and_t (Nat.zero_le _)))
theorem v13_61 {z : P0} {ls : Lcs} {st : List Value} {c n : Nat} {K : Nat → Nat × Nat} {I : Nat → Nat → Int32} {R : Nat → Nat → Option Nat} {L : Nat → Nat → Int64} {sz : Nat} {ex : Bool} {Q : Res → Mem → Prop}  {a0 : Int32} : X z 13 61 ls (.int a0 :: st) (0, 0) (K, I, R, L, sz, ex) Q = (wsum st ≤ 8 ∧ X z 14 0 [some (.int a0)] [] (0, 0) (K, I, R, L, sz, ex) (aftr (X z) mT 13 61 ls st (0, 0) Q)) := by
  rw [x13_61]
  refine (inv_s (As := [.int a0]) (rm := mi13) (ry := mi14) rfl rfl (by decide) rfl rfl (Nat.le_of_ble_eq_true rfl) rfl (by decide) (by decide)).trans ?_
  exact Eq.trans (congrArg _ (and_t (Nat.zero_le _))) (congrArg _ (and_t (Nat.zero_le _)))
theorem v13_64 {z : P0} {ls : Lcs} {st : List Value} {c n : Nat} {K : Nat → Nat × Nat} {I : Nat → Nat → Int32} {R : Nat → Nat → Option Nat} {L : Nat → Nat → Int64} {sz : Nat} {ex : Bool} {Q : Res → Mem → Prop} {x : Nat} {a0 : Int32} : X z 13 64 ls (.int a0 :: .ref x :: st) (0, 0) (K, I, R, L, sz, ex) Q = ((K x).1 = 101 ∧ wsum st ≤ 8 ∧ X z 19 0 [some (.ref x), some (.int a0)] [] (0, 0) (K, I, R, L, sz, ex) (aftr (X z) mT 13 64 ls st (0, 0) Q)) := by
  rw [x13_64]
  refine (inv_v (As := [.int a0]) (rm := mi13) (ry := mi19) rfl rfl (by decide) rfl rfl (Nat.le_of_ble_eq_true rfl) rfl rfl).trans ?_
  refine congrArg _ ?_
  exact Eq.trans (congrArg _ (and_t (Nat.zero_le _))) (congrArg _ (and_t (Nat.zero_le _)))
theorem v13_78 {z : P0} {ls : Lcs} {st : List Value} {c n : Nat} {K : Nat → Nat × Nat} {I : Nat → Nat → Int32} {R : Nat → Nat → Option Nat} {L : Nat → Nat → Int64} {sz : Nat} {ex : Bool} {Q : Res → Mem → Prop} {x : Nat} {a0 : Int32} : X z 13 78 ls (.int a0 :: .ref x :: st) (0, 0) (K, I, R, L, sz, ex) Q = ((K x).1 = 101 ∧ wsum st ≤ 8 ∧ X z 19 0 [some (.ref x), some (.int a0)] [] (0, 0) (K, I, R, L, sz, ex) (aftr (X z) mT 13 78 ls st (0, 0) Q)) := by
  rw [x13_78]
  refine (inv_v (As := [.int a0]) (rm := mi13) (ry := mi19) rfl rfl (by decide) rfl rfl (Nat.le_of_ble_eq_true rfl) rfl rfl).trans ?_
  refine congrArg _ ?_
  exact Eq.trans (congrArg _ (and_t (Nat.zero_le _))) (congrArg _ (and_t (Nat.zero_le _)))
theorem v15_3 {z : P0} {ls : Lcs} {st : List Value} {c n : Nat} {K : Nat → Nat × Nat} {I : Nat → Nat → Int32} {R : Nat → Nat → Option Nat} {L : Nat → Nat → Int64} {sz : Nat} {ex : Bool} {Q : Res → Mem → Prop} {x : Nat} {a0 : Nat} {a1 : Nat} : X z 15 3 ls (.ref a1 :: .ref a0 :: .ref x :: st) (0, 0) (K, I, R, L, sz, ex) Q = ((K x).1 = 101 ∧ wsum st ≤ 8 ∧ X z 16 0 [some (.ref x), some (.ref a0), some (.ref a1), none, none, none, none] [] (0, 0) (K, I, R, L, sz, ex) (aftr (X z) mT 15 3 ls st (0, 0) Q)) := by
  rw [x15_3]
  refine (inv_v (As := [.ref a0, .ref a1]) (rm := mi15) (ry := mi16) rfl rfl (by decide) rfl rfl (Nat.le_of_ble_eq_true rfl) rfl rfl).trans ?_
  refine congrArg _ ?_
  exact Eq.trans (congrArg _ (and_t (Nat.zero_le _))) (congrArg _ (and_t (Nat.zero_le _)))
theorem v15_51 {z : P0} {ls : Lcs} {st : List Value} {c n : Nat} {K : Nat → Nat × Nat} {I : Nat → Nat → Int32} {R : Nat → Nat → Option Nat} {L : Nat → Nat → Int64} {sz : Nat} {ex : Bool} {Q : Res → Mem → Prop} {x : Nat} {a0 : Int32} : X z 15 51 ls (.int a0 :: .ref x :: st) (0, 0) (K, I, R, L, sz, ex) Q = ((K x).1 = 101 ∧ wsum st ≤ 8 ∧ X z 19 0 [some (.ref x), some (.int a0)] [] (0, 0) (K, I, R, L, sz, ex) (aftr (X z) mT 15 51 ls st (0, 0) Q)) := by
  rw [x15_51]
  refine (inv_v (As := [.int a0]) (rm := mi15) (ry := mi19) rfl rfl (by decide) rfl rfl (Nat.le_of_ble_eq_true rfl) rfl rfl).trans ?_
  refine congrArg _ ?_
  exact Eq.trans (congrArg _ (and_t (Nat.zero_le _))) (congrArg _ (and_t (Nat.zero_le _)))
theorem v15_57 {z : P0} {ls : Lcs} {st : List Value} {c n : Nat} {K : Nat → Nat × Nat} {I : Nat → Nat → Int32} {R : Nat → Nat → Option Nat} {L : Nat → Nat → Int64} {sz : Nat} {ex : Bool} {Q : Res → Mem → Prop} {x : Nat}  : X z 15 57 ls (.ref x :: st) (0, 0) (K, I, R, L, sz, ex) Q = ((K x).1 = 109 ∧ wsum st ≤ 8 ∧ X z 56 0 [some (.ref x), none, none] [] (0, 0) (K, I, R, L, sz, ex) (aftr (X z) mT 15 57 ls st (0, 0) Q)) := by
  rw [x15_57]
  refine (inv_v (As := []) (rm := mi15) (ry := mi56) rfl rfl (by decide) rfl rfl (Nat.le_of_ble_eq_true rfl) rfl rfl).trans ?_
  refine congrArg _ ?_
  exact Eq.trans (congrArg _ (and_t (Nat.zero_le _))) (congrArg _ (and_t (Nat.zero_le _)))
theorem v15_60 {z : P0} {ls : Lcs} {st : List Value} {c n : Nat} {K : Nat → Nat × Nat} {I : Nat → Nat → Int32} {R : Nat → Nat → Option Nat} {L : Nat → Nat → Int64} {sz : Nat} {ex : Bool} {Q : Res → Mem → Prop} {x : Nat} {a0 : Nat} : X z 15 60 ls (.ref a0 :: .ref x :: st) (0, 0) (K, I, R, L, sz, ex) Q = ((K x).1 = 101 ∧ wsum st ≤ 8 ∧ X z 18 0 [some (.ref x), some (.ref a0), none] [] (0, 0) (K, I, R, L, sz, ex) (aftr (X z) mT 15 60 ls st (0, 0) Q)) := by
  rw [x15_60]
  refine (inv_v (As := [.ref a0]) (rm := mi15) (ry := mi18) rfl rfl (by decide) rfl rfl (Nat.le_of_ble_eq_true rfl) rfl rfl).trans ?_
  refine congrArg _ ?_
  exact Eq.trans (congrArg _ (and_t (Nat.zero_le _))) (congrArg _ (and_t (Nat.zero_le _)))
theorem v15_66 {z : P0} {ls : Lcs} {st : List Value} {c n : Nat} {K : Nat → Nat × Nat} {I : Nat → Nat → Int32} {R : Nat → Nat → Option Nat} {L : Nat → Nat → Int64} {sz : Nat} {ex : Bool} {Q : Res → Mem → Prop} {x : Nat} {a0 : Int32} : X z 15 66 ls (.int a0 :: .ref x :: st) (0, 0) (K, I, R, L, sz, ex) Q = ((K x).1 = 101 ∧ wsum st ≤ 8 ∧ X z 19 0 [some (.ref x), some (.int a0)] [] (0, 0) (K, I, R, L, sz, ex) (aftr (X z) mT 15 66 ls st (0, 0) Q)) := by
  rw [x15_66]
  refine (inv_v (As := [.int a0]) (rm := mi15) (ry := mi19) rfl rfl (by decide) rfl rfl (Nat.le_of_ble_eq_true rfl) rfl rfl).trans ?_
  refine congrArg _ ?_
  exact Eq.trans (congrArg _ (and_t (Nat.zero_le _))) (congrArg _ (and_t (Nat.zero_le _)))
theorem v15_80 {z : P0} {ls : Lcs} {st : List Value} {c n : Nat} {K : Nat → Nat × Nat} {I : Nat → Nat → Int32} {R : Nat → Nat → Option Nat} {L : Nat → Nat → Int64} {sz : Nat} {ex : Bool} {Q : Res → Mem → Prop} {x : Nat} {a0 : Nat} {a1 : Int32} : X z 15 80 ls (.int a1 :: .ref a0 :: .ref x :: st) (0, 0) (K, I, R, L, sz, ex) Q = ((K x).1 = 101 ∧ wsum st ≤ 8 ∧ X z 17 0 [some (.ref x), some (.ref a0), some (.int a1), none] [] (0, 0) (K, I, R, L, sz, ex) (aftr (X z) mT 15 80 ls st (0, 0) Q)) := by
  rw [x15_80]
  refine (inv_v (As := [.ref a0, .int a1]) (rm := mi15) (ry := mi17) rfl rfl (by decide) rfl rfl (Nat.le_of_ble_eq_true rfl) rfl rfl).trans ?_
  refine congrArg _ ?_
  exact Eq.trans (congrArg _ (and_t (Nat.zero_le _))) (congrArg _ (and_t (Nat.zero_le _)))
theorem v18_4 {z : P0} {ls : Lcs} {st : List Value} {c n : Nat} {K : Nat → Nat × Nat} {I : Nat → Nat → Int32} {R : Nat → Nat → Option Nat} {L : Nat → Nat → Int64} {sz : Nat} {ex : Bool} {Q : Res → Mem → Prop} {x : Nat}  : X z 18 4 ls (.ref x :: st) (0, 0) (K, I, R, L, sz, ex) Q = ((K x).1 = 52 ∧ wsum st ≤ 8 ∧ X z 185 0 [some (.ref x)] [] (0, 0) (K, I, R, L, sz, ex) (aftr (X z) mT 18 4 ls st (0, 0) Q)) := by
  rw [x18_4]
  refine (inv_v (As := []) (rm := mi18) (ry := mi185) rfl rfl (by decide) rfl rfl (Nat.le_of_ble_eq_true rfl) rfl rfl).trans ?_
  refine congrArg _ ?_
  exact Eq.trans (congrArg _ (and_t (Nat.zero_le _))) (congrArg _ (and_t (Nat.zero_le _)))
theorem v18_30 {z : P0} {ls : Lcs} {st : List Value} {c n : Nat} {K : Nat → Nat × Nat} {I : Nat → Nat → Int32} {R : Nat → Nat → Option Nat} {L : Nat → Nat → Int64} {sz : Nat} {ex : Bool} {Q : Res → Mem → Prop} {x : Nat} {a0 : Int32} : X z 18 30 ls (.int a0 :: .ref x :: st) (0, 0) (K, I, R, L, sz, ex) Q = ((K x).1 = 52 ∧ wsum st ≤ 8 ∧ X z 186 0 [some (.ref x), some (.int a0)] [] (0, 0) (K, I, R, L, sz, ex) (aftr (X z) mT 18 30 ls st (0, 0) Q)) := by
  rw [x18_30]
  refine (inv_v (As := [.int a0]) (rm := mi18) (ry := mi186) rfl rfl (by decide) rfl rfl (Nat.le_of_ble_eq_true rfl) rfl rfl).trans ?_
  refine congrArg _ ?_
  exact Eq.trans (congrArg _ (and_t (Nat.zero_le _))) (congrArg _ (and_t (Nat.zero_le _)))
theorem v23_30 {z : P0} {ls : Lcs} {st : List Value} {c n : Nat} {K : Nat → Nat × Nat} {I : Nat → Nat → Int32} {R : Nat → Nat → Option Nat} {L : Nat → Nat → Int64} {sz : Nat} {ex : Bool} {Q : Res → Mem → Prop} {x : Nat}  : X z 23 30 ls (.ref x :: st) (c, n) (K, I, R, L, sz, ex) Q = ((K x).1 = 108 ∧ wsum st ≤ 8 ∧ c + 65 ≤ 397 ∧ n + 528 ≤ 3234 ∧ X z 47 0 [some (.ref x), none] [] (0, 0) (K, I, R, L, sz, ex) (aftr (X z) mT 23 30 ls st (c + 65, n + 528) Q)) := by
  rw [x23_30]
  exact inv_i (As := []) (rm := mi23) (ry := mi47) rfl rfl (by decide) rfl rfl (Nat.le_of_ble_eq_true rfl) rfl rfl (by decide)
theorem v24_10 {z : P0} {ls : Lcs} {st : List Value} {c n : Nat} {K : Nat → Nat × Nat} {I : Nat → Nat → Int32} {R : Nat → Nat → Option Nat} {L : Nat → Nat → Int64} {sz : Nat} {ex : Bool} {Q : Res → Mem → Prop} {x : Nat}  : X z 24 10 ls (.ref x :: st) (0, 0) (K, I, R, L, sz, ex) Q = ((K x).1 = 103 ∧ wsum st ≤ 8 ∧ X z 26 0 [some (.ref x), none, none] [] (0, 0) (K, I, R, L, sz, ex) (aftr (X z) mT 24 10 ls st (0, 0) Q)) := by
  rw [x24_10]
  refine (inv_v (As := []) (rm := mi24) (ry := mi26) rfl rfl (by decide) rfl rfl (Nat.le_of_ble_eq_true rfl) rfl rfl).trans ?_
  refine congrArg _ ?_
  exact Eq.trans (congrArg _ (and_t (Nat.zero_le _))) (congrArg _ (and_t (Nat.zero_le _)))
theorem v24_23 {z : P0} {ls : Lcs} {st : List Value} {c n : Nat} {K : Nat → Nat × Nat} {I : Nat → Nat → Int32} {R : Nat → Nat → Option Nat} {L : Nat → Nat → Int64} {sz : Nat} {ex : Bool} {Q : Res → Mem → Prop} {x : Nat} {a0 : Nat} : X z 24 23 ls (.ref a0 :: .ref x :: st) (0, 0) (K, I, R, L, sz, ex) Q = ((K x).1 = 108 ∧ wsum st ≤ 8 ∧ X z 48 0 [some (.ref x), some (.ref a0), none] [] (0, 0) (K, I, R, L, sz, ex) (aftr (X z) mT 24 23 ls st (0, 0) Q)) := by
  rw [x24_23]
  refine (inv_v (As := [.ref a0]) (rm := mi24) (ry := mi48) rfl rfl (by decide) rfl rfl (Nat.le_of_ble_eq_true rfl) rfl rfl).trans ?_
  refine congrArg _ ?_
  exact Eq.trans (congrArg _ (and_t (Nat.zero_le _))) (congrArg _ (and_t (Nat.zero_le _)))
theorem v25_27 {z : P0} {ls : Lcs} {st : List Value} {c n : Nat} {K : Nat → Nat × Nat} {I : Nat → Nat → Int32} {R : Nat → Nat → Option Nat} {L : Nat → Nat → Int64} {sz : Nat} {ex : Bool} {Q : Res → Mem → Prop} {x : Nat} {a0 : Nat} : X z 25 27 ls (.ref a0 :: .ref x :: st) (0, 0) (K, I, R, L, sz, ex) Q = ((K x).1 = 108 ∧ wsum st ≤ 8 ∧ X z 48 0 [some (.ref x), some (.ref a0), none] [] (0, 0) (K, I, R, L, sz, ex) (aftr (X z) mT 25 27 ls st (0, 0) Q)) := by
  rw [x25_27]
  refine (inv_v (As := [.ref a0]) (rm := mi25) (ry := mi48) rfl rfl (by decide) rfl rfl (Nat.le_of_ble_eq_true rfl) rfl rfl).trans ?_
  refine congrArg _ ?_
  exact Eq.trans (congrArg _ (and_t (Nat.zero_le _))) (congrArg _ (and_t (Nat.zero_le _)))
theorem v28_4 {z : P0} {ls : Lcs} {st : List Value} {c n : Nat} {K : Nat → Nat × Nat} {I : Nat → Nat → Int32} {R : Nat → Nat → Option Nat} {L : Nat → Nat → Int64} {sz : Nat} {ex : Bool} {Q : Res → Mem → Prop}  {a0 : Int32} {a1 : Int32} : X z 28 4 ls (.int a1 :: .int a0 :: st) (0, 0) (K, I, R, L, sz, ex) Q = (wsum st ≤ 8 ∧ X z 184 0 [some (.int a0), some (.int a1)] [] (0, 0) (K, I, R, L, sz, ex) (aftr (X z) mT 28 4 ls st (0, 0) Q)) := by
  rw [x28_4]
  refine (inv_s (As := [.int a0, .int a1]) (rm := mi28) (ry := mi184) rfl rfl (by decide) rfl rfl (Nat.le_of_ble_eq_true rfl) rfl (by decide) (by decide)).trans ?_
  exact Eq.trans (congrArg _ (and_t (Nat.zero_le _))) (congrArg _ (and_t (Nat.zero_le _)))
theorem v30_35 {z : P0} {ls : Lcs} {st : List Value} {c n : Nat} {K : Nat → Nat × Nat} {I : Nat → Nat → Int32} {R : Nat → Nat → Option Nat} {L : Nat → Nat → Int64} {sz : Nat} {ex : Bool} {Q : Res → Mem → Prop} {x : Nat}  : X z 30 35 ls (.ref x :: st) (0, 0) (K, I, R, L, sz, ex) Q = ((K x).1 = 104 ∧ wsum st ≤ 8 ∧ X z 29 0 [some (.ref x), none, none] [] (0, 0) (K, I, R, L, sz, ex) (aftr (X z) mT 30 35 ls st (0, 0) Q)) := by
  rw [x30_35]
  refine (inv_v (As := []) (rm := mi30) (ry := mi29) rfl rfl (by decide) rfl rfl (Nat.le_of_ble_eq_true rfl) rfl rfl).trans ?_
  refine congrArg _ ?_
  exact Eq.trans (congrArg _ (and_t (Nat.zero_le _))) (congrArg _ (and_t (Nat.zero_le _)))
theorem v34_49 {z : P0} {ls : Lcs} {st : List Value} {c n : Nat} {K : Nat → Nat × Nat} {I : Nat → Nat → Int32} {R : Nat → Nat → Option Nat} {L : Nat → Nat → Int64} {sz : Nat} {ex : Bool} {Q : Res → Mem → Prop} {x : Nat} {a0 : Int32} {a1 : Int32} {a2 : Int32} : X z 34 49 ls (.int a2 :: .int a1 :: .int a0 :: .ref x :: st) (0, 0) (K, I, R, L, sz, ex) Q = ((K x).1 = 105 ∧ wsum st ≤ 8 ∧ X z 35 0 [some (.ref x), some (.int a0), some (.int a1), some (.int a2), none] [] (0, 0) (K, I, R, L, sz, ex) (aftr (X z) mT 34 49 ls st (0, 0) Q)) := by
  rw [x34_49]
  refine (inv_v (As := [.int a0, .int a1, .int a2]) (rm := mi34) (ry := mi35) rfl rfl (by decide) rfl rfl (Nat.le_of_ble_eq_true rfl) rfl rfl).trans ?_
  refine congrArg _ ?_
  exact Eq.trans (congrArg _ (and_t (Nat.zero_le _))) (congrArg _ (and_t (Nat.zero_le _)))
theorem v36_72 {z : P0} {ls : Lcs} {st : List Value} {c n : Nat} {K : Nat → Nat × Nat} {I : Nat → Nat → Int32} {R : Nat → Nat → Option Nat} {L : Nat → Nat → Int64} {sz : Nat} {ex : Bool} {Q : Res → Mem → Prop} {x : Nat}  : X z 36 72 ls (.ref x :: st) (c, n) (K, I, R, L, sz, ex) Q = ((K x).1 = 102 ∧ wsum st ≤ 8 ∧ c + 1 ≤ 45 ∧ n + 6 ≤ 382 ∧ X z 20 0 [some (.ref x)] [] (0, 0) (K, I, R, L, sz, ex) (aftr (X z) mT 36 72 ls st (c + 1, n + 6) Q)) := by
  rw [x36_72]
  exact inv_i (As := []) (rm := mi36) (ry := mi20) rfl rfl (by decide) rfl rfl (Nat.le_of_ble_eq_true rfl) rfl rfl (by decide)
theorem v38_18 {z : P0} {ls : Lcs} {st : List Value} {c n : Nat} {K : Nat → Nat × Nat} {I : Nat → Nat → Int32} {R : Nat → Nat → Option Nat} {L : Nat → Nat → Int64} {sz : Nat} {ex : Bool} {Q : Res → Mem → Prop} {x : Nat} {a0 : Nat} {a1 : Nat} : X z 38 18 ls (.ref a1 :: .ref a0 :: .ref x :: st) (0, 0) (K, I, R, L, sz, ex) Q = ((K x).1 = 106 ∧ wsum st ≤ 8 ∧ X z 40 0 [some (.ref x), some (.ref a0), some (.ref a1), none, none, none] [] (0, 0) (K, I, R, L, sz, ex) (aftr (X z) mT 38 18 ls st (0, 0) Q)) := by
  rw [x38_18]
  refine (inv_v (As := [.ref a0, .ref a1]) (rm := mi38) (ry := mi40) rfl rfl (by decide) rfl rfl (Nat.le_of_ble_eq_true rfl) rfl rfl).trans ?_
  refine congrArg _ ?_
  exact Eq.trans (congrArg _ (and_t (Nat.zero_le _))) (congrArg _ (and_t (Nat.zero_le _)))
theorem v38_46 {z : P0} {ls : Lcs} {st : List Value} {c n : Nat} {K : Nat → Nat × Nat} {I : Nat → Nat → Int32} {R : Nat → Nat → Option Nat} {L : Nat → Nat → Int64} {sz : Nat} {ex : Bool} {Q : Res → Mem → Prop} {x : Nat} {a0 : Nat} {a1 : Nat} : X z 38 46 ls (.ref a1 :: .ref a0 :: .ref x :: st) (0, 0) (K, I, R, L, sz, ex) Q = ((K x).1 = 101 ∧ wsum st ≤ 8 ∧ X z 10 0 [some (.ref x), some (.ref a0), some (.ref a1), none, none, none, none] [] (0, 0) (K, I, R, L, sz, ex) (aftr (X z) mT 38 46 ls st (0, 0) Q)) := by
  rw [x38_46]
  refine (inv_v (As := [.ref a0, .ref a1]) (rm := mi38) (ry := mi10) rfl rfl (by decide) rfl rfl (Nat.le_of_ble_eq_true rfl) rfl rfl).trans ?_
  refine congrArg _ ?_
  exact Eq.trans (congrArg _ (and_t (Nat.zero_le _))) (congrArg _ (and_t (Nat.zero_le _)))
theorem v38_67 {z : P0} {ls : Lcs} {st : List Value} {c n : Nat} {K : Nat → Nat × Nat} {I : Nat → Nat → Int32} {R : Nat → Nat → Option Nat} {L : Nat → Nat → Int64} {sz : Nat} {ex : Bool} {Q : Res → Mem → Prop} {x : Nat} {a0 : Nat} {a1 : Int32} : X z 38 67 ls (.int a1 :: .ref a0 :: .ref x :: st) (0, 0) (K, I, R, L, sz, ex) Q = ((K x).1 = 105 ∧ wsum st ≤ 8 ∧ X z 33 0 [some (.ref x), some (.ref a0), some (.int a1), none, none, none] [] (0, 0) (K, I, R, L, sz, ex) (aftr (X z) mT 38 67 ls st (0, 0) Q)) := by
  rw [x38_67]
  refine (inv_v (As := [.ref a0, .int a1]) (rm := mi38) (ry := mi33) rfl rfl (by decide) rfl rfl (Nat.le_of_ble_eq_true rfl) rfl rfl).trans ?_
  refine congrArg _ ?_
  exact Eq.trans (congrArg _ (and_t (Nat.zero_le _))) (congrArg _ (and_t (Nat.zero_le _)))
theorem v38_80 {z : P0} {ls : Lcs} {st : List Value} {c n : Nat} {K : Nat → Nat × Nat} {I : Nat → Nat → Int32} {R : Nat → Nat → Option Nat} {L : Nat → Nat → Int64} {sz : Nat} {ex : Bool} {Q : Res → Mem → Prop} {x : Nat} {a0 : Int32} {a1 : Int32} : X z 38 80 ls (.int a1 :: .int a0 :: .ref x :: st) (0, 0) (K, I, R, L, sz, ex) Q = ((K x).1 = 105 ∧ wsum st ≤ 8 ∧ X z 34 0 [some (.ref x), some (.int a0), some (.int a1), none, none, none] [] (0, 0) (K, I, R, L, sz, ex) (aftr (X z) mT 38 80 ls st (0, 0) Q)) := by
  rw [x38_80]
  refine (inv_v (As := [.int a0, .int a1]) (rm := mi38) (ry := mi34) rfl rfl (by decide) rfl rfl (Nat.le_of_ble_eq_true rfl) rfl rfl).trans ?_
  refine congrArg _ ?_
  exact Eq.trans (congrArg _ (and_t (Nat.zero_le _))) (congrArg _ (and_t (Nat.zero_le _)))
theorem v38_125 {z : P0} {ls : Lcs} {st : List Value} {c n : Nat} {K : Nat → Nat × Nat} {I : Nat → Nat → Int32} {R : Nat → Nat → Option Nat} {L : Nat → Nat → Int64} {sz : Nat} {ex : Bool} {Q : Res → Mem → Prop} {x : Nat} {a0 : Nat} {a1 : Int32} : X z 38 125 ls (.int a1 :: .ref a0 :: .ref x :: st) (0, 0) (K, I, R, L, sz, ex) Q = ((K x).1 = 106 ∧ wsum st ≤ 8 ∧ X z 42 0 [some (.ref x), some (.ref a0), some (.int a1), none] [] (0, 0) (K, I, R, L, sz, ex) (aftr (X z) mT 38 125 ls st (0, 0) Q)) := by
  rw [x38_125]
  refine (inv_v (As := [.ref a0, .int a1]) (rm := mi38) (ry := mi42) rfl rfl (by decide) rfl rfl (Nat.le_of_ble_eq_true rfl) rfl rfl).trans ?_
  refine congrArg _ ?_
  exact Eq.trans (congrArg _ (and_t (Nat.zero_le _))) (congrArg _ (and_t (Nat.zero_le _)))
theorem v39_34 {z : P0} {ls : Lcs} {st : List Value} {c n : Nat} {K : Nat → Nat × Nat} {I : Nat → Nat → Int32} {R : Nat → Nat → Option Nat} {L : Nat → Nat → Int64} {sz : Nat} {ex : Bool} {Q : Res → Mem → Prop} {x : Nat} {a0 : Nat} {a1 : Nat} : X z 39 34 ls (.ref a1 :: .ref a0 :: .ref x :: st) (0, 0) (K, I, R, L, sz, ex) Q = ((K x).1 = 106 ∧ wsum st ≤ 8 ∧ X z 40 0 [some (.ref x), some (.ref a0), some (.ref a1), none, none, none] [] (0, 0) (K, I, R, L, sz, ex) (aftr (X z) mT 39 34 ls st (0, 0) Q)) := by
  rw [x39_34]
  refine (inv_v (As := [.ref a0, .ref a1]) (rm := mi39) (ry := mi40) rfl rfl (by decide) rfl rfl (Nat.le_of_ble_eq_true rfl) rfl rfl).trans ?_
  refine congrArg _ ?_
  exact Eq.trans (congrArg _ (and_t (Nat.zero_le _))) (congrArg _ (and_t (Nat.zero_le _)))
theorem v39_55 {z : P0} {ls : Lcs} {st : List Value} {c n : Nat} {K : Nat → Nat × Nat} {I : Nat → Nat → Int32} {R : Nat → Nat → Option Nat} {L : Nat → Nat → Int64} {sz : Nat} {ex : Bool} {Q : Res → Mem → Prop} {x : Nat} {a0 : Nat} {a1 : Nat} : X z 39 55 ls (.ref a1 :: .ref a0 :: .ref x :: st) (0, 0) (K, I, R, L, sz, ex) Q = ((K x).1 = 106 ∧ wsum st ≤ 8 ∧ X z 43 0 [some (.ref x), some (.ref a0), some (.ref a1), none] [] (0, 0) (K, I, R, L, sz, ex) (aftr (X z) mT 39 55 ls st (0, 0) Q)) := by
  rw [x39_55]
  refine (inv_v (As := [.ref a0, .ref a1]) (rm := mi39) (ry := mi43) rfl rfl (by decide) rfl rfl (Nat.le_of_ble_eq_true rfl) rfl rfl).trans ?_
  refine congrArg _ ?_
  exact Eq.trans (congrArg _ (and_t (Nat.zero_le _))) (congrArg _ (and_t (Nat.zero_le _)))
theorem v40_38 {z : P0} {ls : Lcs} {st : List Value} {c n : Nat} {K : Nat → Nat × Nat} {I : Nat → Nat → Int32} {R : Nat → Nat → Option Nat} {L : Nat → Nat → Int64} {sz : Nat} {ex : Bool} {Q : Res → Mem → Prop} {x : Nat} {a0 : Int32} {a1 : Nat} {a2 : Int32} : X z 40 38 ls (.int a2 :: .ref a1 :: .int a0 :: .ref x :: st) (0, 0) (K, I, R, L, sz, ex) Q = ((K x).1 = 108 ∧ wsum st ≤ 8 ∧ X z 49 0 [some (.ref x), some (.int a0), some (.ref a1), some (.int a2)] [] (0, 0) (K, I, R, L, sz, ex) (aftr (X z) mT 40 38 ls st (0, 0) Q)) := by
  rw [x40_38]
  refine (inv_v (As := [.int a0, .ref a1, .int a2]) (rm := mi40) (ry := mi49) rfl rfl (by decide) rfl rfl (Nat.le_of_ble_eq_true rfl) rfl rfl).trans ?_
  refine congrArg _ ?_
  exact Eq.trans (congrArg _ (and_t (Nat.zero_le _))) (congrArg _ (and_t (Nat.zero_le _)))
theorem v40_67 {z : P0} {ls : Lcs} {st : List Value} {c n : Nat} {K : Nat → Nat × Nat} {I : Nat → Nat → Int32} {R : Nat → Nat → Option Nat} {L : Nat → Nat → Int64} {sz : Nat} {ex : Bool} {Q : Res → Mem → Prop} {x : Nat} {a0 : Int32} {a1 : Int32} : X z 40 67 ls (.int a1 :: .int a0 :: .ref x :: st) (0, 0) (K, I, R, L, sz, ex) Q = ((K x).1 = 106 ∧ wsum st ≤ 8 ∧ X z 41 0 [some (.ref x), some (.int a0), some (.int a1), none] [] (0, 0) (K, I, R, L, sz, ex) (aftr (X z) mT 40 67 ls st (0, 0) Q)) := by
  rw [x40_67]
  refine (inv_v (As := [.int a0, .int a1]) (rm := mi40) (ry := mi41) rfl rfl (by decide) rfl rfl (Nat.le_of_ble_eq_true rfl) rfl rfl).trans ?_
  refine congrArg _ ?_
  exact Eq.trans (congrArg _ (and_t (Nat.zero_le _))) (congrArg _ (and_t (Nat.zero_le _)))
theorem v40_88 {z : P0} {ls : Lcs} {st : List Value} {c n : Nat} {K : Nat → Nat × Nat} {I : Nat → Nat → Int32} {R : Nat → Nat → Option Nat} {L : Nat → Nat → Int64} {sz : Nat} {ex : Bool} {Q : Res → Mem → Prop} {x : Nat} {a0 : Int32} : X z 40 88 ls (.int a0 :: .ref x :: st) (0, 0) (K, I, R, L, sz, ex) Q = ((K x).1 = 102 ∧ wsum st ≤ 8 ∧ X z 21 0 [some (.ref x), some (.int a0)] [] (0, 0) (K, I, R, L, sz, ex) (aftr (X z) mT 40 88 ls st (0, 0) Q)) := by
  rw [x40_88]
  refine (inv_v (As := [.int a0]) (rm := mi40) (ry := mi21) rfl rfl (by decide) rfl rfl (Nat.le_of_ble_eq_true rfl) rfl rfl).trans ?_
  refine congrArg _ ?_
  exact Eq.trans (congrArg _ (and_t (Nat.zero_le _))) (congrArg _ (and_t (Nat.zero_le _)))
theorem v43_6 {z : P0} {ls : Lcs} {st : List Value} {c n : Nat} {K : Nat → Nat × Nat} {I : Nat → Nat → Int32} {R : Nat → Nat → Option Nat} {L : Nat → Nat → Int64} {sz : Nat} {ex : Bool} {Q : Res → Mem → Prop} {x : Nat} {a0 : Nat} {a1 : Nat} : X z 43 6 ls (.ref a1 :: .ref a0 :: .ref x :: st) (0, 0) (K, I, R, L, sz, ex) Q = ((K x).1 = 101 ∧ wsum st ≤ 8 ∧ X z 10 0 [some (.ref x), some (.ref a0), some (.ref a1), none, none, none, none] [] (0, 0) (K, I, R, L, sz, ex) (aftr (X z) mT 43 6 ls st (0, 0) Q)) := by
  rw [x43_6]
  refine (inv_v (As := [.ref a0, .ref a1]) (rm := mi43) (ry := mi10) rfl rfl (by decide) rfl rfl (Nat.le_of_ble_eq_true rfl) rfl rfl).trans ?_
  refine congrArg _ ?_
  exact Eq.trans (congrArg _ (and_t (Nat.zero_le _))) (congrArg _ (and_t (Nat.zero_le _)))
theorem v43_27 {z : P0} {ls : Lcs} {st : List Value} {c n : Nat} {K : Nat → Nat × Nat} {I : Nat → Nat → Int32} {R : Nat → Nat → Option Nat} {L : Nat → Nat → Int64} {sz : Nat} {ex : Bool} {Q : Res → Mem → Prop} {x : Nat} {a0 : Nat} {a1 : Int32} : X z 43 27 ls (.int a1 :: .ref a0 :: .ref x :: st) (0, 0) (K, I, R, L, sz, ex) Q = ((K x).1 = 105 ∧ wsum st ≤ 8 ∧ X z 33 0 [some (.ref x), some (.ref a0), some (.int a1), none, none, none] [] (0, 0) (K, I, R, L, sz, ex) (aftr (X z) mT 43 27 ls st (0, 0) Q)) := by
  rw [x43_27]
  refine (inv_v (As := [.ref a0, .int a1]) (rm := mi43) (ry := mi33) rfl rfl (by decide) rfl rfl (Nat.le_of_ble_eq_true rfl) rfl rfl).trans ?_
  refine congrArg _ ?_
  exact Eq.trans (congrArg _ (and_t (Nat.zero_le _))) (congrArg _ (and_t (Nat.zero_le _)))
theorem v43_49 {z : P0} {ls : Lcs} {st : List Value} {c n : Nat} {K : Nat → Nat × Nat} {I : Nat → Nat → Int32} {R : Nat → Nat → Option Nat} {L : Nat → Nat → Int64} {sz : Nat} {ex : Bool} {Q : Res → Mem → Prop} {x : Nat} {a0 : Int32} {a1 : Int32} : X z 43 49 ls (.int a1 :: .int a0 :: .ref x :: st) (0, 0) (K, I, R, L, sz, ex) Q = ((K x).1 = 105 ∧ wsum st ≤ 8 ∧ X z 34 0 [some (.ref x), some (.int a0), some (.int a1), none, none, none] [] (0, 0) (K, I, R, L, sz, ex) (aftr (X z) mT 43 49 ls st (0, 0) Q)) := by
  rw [x43_49]
  refine (inv_v (As := [.int a0, .int a1]) (rm := mi43) (ry := mi34) rfl rfl (by decide) rfl rfl (Nat.le_of_ble_eq_true rfl) rfl rfl).trans ?_
  refine congrArg _ ?_
  exact Eq.trans (congrArg _ (and_t (Nat.zero_le _))) (congrArg _ (and_t (Nat.zero_le _)))
theorem v45_7 {z : P0} {ls : Lcs} {st : List Value} {c n : Nat} {K : Nat → Nat × Nat} {I : Nat → Nat → Int32} {R : Nat → Nat → Option Nat} {L : Nat → Nat → Int64} {sz : Nat} {ex : Bool} {Q : Res → Mem → Prop}  {a0 : Int32} {a1 : Int32} : X z 45 7 ls (.int a1 :: .int a0 :: st) (0, 0) (K, I, R, L, sz, ex) Q = (wsum st ≤ 8 ∧ X z 184 0 [some (.int a0), some (.int a1)] [] (0, 0) (K, I, R, L, sz, ex) (aftr (X z) mT 45 7 ls st (0, 0) Q)) := by
  rw [x45_7]
  refine (inv_s (As := [.int a0, .int a1]) (rm := mi45) (ry := mi184) rfl rfl (by decide) rfl rfl (Nat.le_of_ble_eq_true rfl) rfl (by decide) (by decide)).trans ?_
  exact Eq.trans (congrArg _ (and_t (Nat.zero_le _))) (congrArg _ (and_t (Nat.zero_le _)))
theorem v47_27 {z : P0} {ls : Lcs} {st : List Value} {c n : Nat} {K : Nat → Nat × Nat} {I : Nat → Nat → Int32} {R : Nat → Nat → Option Nat} {L : Nat → Nat → Int64} {sz : Nat} {ex : Bool} {Q : Res → Mem → Prop} {x : Nat}  : X z 47 27 ls (.ref x :: st) (c, n) (K, I, R, L, sz, ex) Q = ((K x).1 = 104 ∧ wsum st ≤ 8 ∧ c + 1 ≤ 65 ∧ n + 60 ≤ 528 ∧ X z 27 0 [some (.ref x)] [] (0, 0) (K, I, R, L, sz, ex) (aftr (X z) mT 47 27 ls st (c + 1, n + 60) Q)) := by
  rw [x47_27]
  exact inv_i (As := []) (rm := mi47) (ry := mi27) rfl rfl (by decide) rfl rfl (Nat.le_of_ble_eq_true rfl) rfl rfl (by decide)
theorem v47_58 {z : P0} {ls : Lcs} {st : List Value} {c n : Nat} {K : Nat → Nat × Nat} {I : Nat → Nat → Int32} {R : Nat → Nat → Option Nat} {L : Nat → Nat → Int64} {sz : Nat} {ex : Bool} {Q : Res → Mem → Prop} {x : Nat}  : X z 47 58 ls (.ref x :: st) (c, n) (K, I, R, L, sz, ex) Q = ((K x).1 = 107 ∧ wsum st ≤ 8 ∧ c + 1 ≤ 65 ∧ n + 8 ≤ 528 ∧ X z 44 0 [some (.ref x)] [] (0, 0) (K, I, R, L, sz, ex) (aftr (X z) mT 47 58 ls st (c + 1, n + 8) Q)) := by
  rw [x47_58]
  exact inv_i (As := []) (rm := mi47) (ry := mi44) rfl rfl (by decide) rfl rfl (Nat.le_of_ble_eq_true rfl) rfl rfl (by decide)
theorem v47_85 {z : P0} {ls : Lcs} {st : List Value} {c n : Nat} {K : Nat → Nat × Nat} {I : Nat → Nat → Int32} {R : Nat → Nat → Option Nat} {L : Nat → Nat → Int64} {sz : Nat} {ex : Bool} {Q : Res → Mem → Prop} {x : Nat}  : X z 47 85 ls (.ref x :: st) (c, n) (K, I, R, L, sz, ex) Q = ((K x).1 = 109 ∧ wsum st ≤ 8 ∧ c + 1 ≤ 65 ∧ n + 8 ≤ 528 ∧ X z 52 0 [some (.ref x)] [] (0, 0) (K, I, R, L, sz, ex) (aftr (X z) mT 47 85 ls st (c + 1, n + 8) Q)) := by
  rw [x47_85]
  exact inv_i (As := []) (rm := mi47) (ry := mi52) rfl rfl (by decide) rfl rfl (Nat.le_of_ble_eq_true rfl) rfl rfl (by decide)
theorem v48_22 {z : P0} {ls : Lcs} {st : List Value} {c n : Nat} {K : Nat → Nat × Nat} {I : Nat → Nat → Int32} {R : Nat → Nat → Option Nat} {L : Nat → Nat → Int64} {sz : Nat} {ex : Bool} {Q : Res → Mem → Prop} {x : Nat} {a0 : Nat} : X z 48 22 ls (.ref a0 :: .ref x :: st) (0, 0) (K, I, R, L, sz, ex) Q = ((K x).1 = 107 ∧ wsum st ≤ 8 ∧ X z 46 0 [some (.ref x), some (.ref a0)] [] (0, 0) (K, I, R, L, sz, ex) (aftr (X z) mT 48 22 ls st (0, 0) Q)) := by
  rw [x48_22]
  refine (inv_v (As := [.ref a0]) (rm := mi48) (ry := mi46) rfl rfl (by decide) rfl rfl (Nat.le_of_ble_eq_true rfl) rfl rfl).trans ?_
  refine congrArg _ ?_
  exact Eq.trans (congrArg _ (and_t (Nat.zero_le _))) (congrArg _ (and_t (Nat.zero_le _)))
theorem v48_61 {z : P0} {ls : Lcs} {st : List Value} {c n : Nat} {K : Nat → Nat × Nat} {I : Nat → Nat → Int32} {R : Nat → Nat → Option Nat} {L : Nat → Nat → Int64} {sz : Nat} {ex : Bool} {Q : Res → Mem → Prop} {x : Nat} {a0 : Nat} : X z 48 61 ls (.ref a0 :: .ref x :: st) (0, 0) (K, I, R, L, sz, ex) Q = ((K x).1 = 109 ∧ wsum st ≤ 8 ∧ X z 54 0 [some (.ref x), some (.ref a0)] [] (0, 0) (K, I, R, L, sz, ex) (aftr (X z) mT 48 61 ls st (0, 0) Q)) := by
  rw [x48_61]
  refine (inv_v (As := [.ref a0]) (rm := mi48) (ry := mi54) rfl rfl (by decide) rfl rfl (Nat.le_of_ble_eq_true rfl) rfl rfl).trans ?_
  refine congrArg _ ?_
  exact Eq.trans (congrArg _ (and_t (Nat.zero_le _))) (congrArg _ (and_t (Nat.zero_le _)))
theorem v48_96 {z : P0} {ls : Lcs} {st : List Value} {c n : Nat} {K : Nat → Nat × Nat} {I : Nat → Nat → Int32} {R : Nat → Nat → Option Nat} {L : Nat → Nat → Int64} {sz : Nat} {ex : Bool} {Q : Res → Mem → Prop} {x : Nat} {a0 : Nat} {a1 : Int32} : X z 48 96 ls (.int a1 :: .ref a0 :: .ref x :: st) (0, 0) (K, I, R, L, sz, ex) Q = ((K x).1 = 104 ∧ wsum st ≤ 8 ∧ X z 28 0 [some (.ref x), some (.ref a0), some (.int a1)] [] (0, 0) (K, I, R, L, sz, ex) (aftr (X z) mT 48 96 ls st (0, 0) Q)) := by
  rw [x48_96]
  refine (inv_v (As := [.ref a0, .int a1]) (rm := mi48) (ry := mi28) rfl rfl (by decide) rfl rfl (Nat.le_of_ble_eq_true rfl) rfl rfl).trans ?_
  refine congrArg _ ?_
  exact Eq.trans (congrArg _ (and_t (Nat.zero_le _))) (congrArg _ (and_t (Nat.zero_le _)))
theorem v49_41 {z : P0} {ls : Lcs} {st : List Value} {c n : Nat} {K : Nat → Nat × Nat} {I : Nat → Nat → Int32} {R : Nat → Nat → Option Nat} {L : Nat → Nat → Int64} {sz : Nat} {ex : Bool} {Q : Res → Mem → Prop} {x : Nat}  : X z 49 41 ls (.ref x :: st) (0, 0) (K, I, R, L, sz, ex) Q = ((K x).1 = 104 ∧ wsum st ≤ 8 ∧ X z 31 0 [some (.ref x), none] [] (0, 0) (K, I, R, L, sz, ex) (aftr (X z) mT 49 41 ls st (0, 0) Q)) := by
  rw [x49_41]
  refine (inv_v (As := []) (rm := mi49) (ry := mi31) rfl rfl (by decide) rfl rfl (Nat.le_of_ble_eq_true rfl) rfl rfl).trans ?_
  refine congrArg _ ?_
  exact Eq.trans (congrArg _ (and_t (Nat.zero_le _))) (congrArg _ (and_t (Nat.zero_le _)))
theorem v53_49 {z : P0} {ls : Lcs} {st : List Value} {c n : Nat} {K : Nat → Nat × Nat} {I : Nat → Nat → Int32} {R : Nat → Nat → Option Nat} {L : Nat → Nat → Int64} {sz : Nat} {ex : Bool} {Q : Res → Mem → Prop}  {a0 : Int32} {a1 : Int32} : X z 53 49 ls (.int a1 :: .int a0 :: st) (0, 0) (K, I, R, L, sz, ex) Q = (wsum st ≤ 8 ∧ X z 184 0 [some (.int a0), some (.int a1)] [] (0, 0) (K, I, R, L, sz, ex) (aftr (X z) mT 53 49 ls st (0, 0) Q)) := by
  rw [x53_49]
  refine (inv_s (As := [.int a0, .int a1]) (rm := mi53) (ry := mi184) rfl rfl (by decide) rfl rfl (Nat.le_of_ble_eq_true rfl) rfl (by decide) (by decide)).trans ?_
  exact Eq.trans (congrArg _ (and_t (Nat.zero_le _))) (congrArg _ (and_t (Nat.zero_le _)))
theorem v57_9 {z : P0} {ls : Lcs} {st : List Value} {c n : Nat} {K : Nat → Nat × Nat} {I : Nat → Nat → Int32} {R : Nat → Nat → Option Nat} {L : Nat → Nat → Int64} {sz : Nat} {ex : Bool} {Q : Res → Mem → Prop} {x : Nat}  : X z 57 9 ls (.ref x :: st) (c, n) (K, I, R, L, sz, ex) Q = ((K x).1 = 108 ∧ wsum st ≤ 8 ∧ c + 65 ≤ 565 ∧ n + 528 ≤ 6546 ∧ X z 47 0 [some (.ref x), none] [] (0, 0) (K, I, R, L, sz, ex) (aftr (X z) mT 57 9 ls st (c + 65, n + 528) Q)) := by
  rw [x57_9]
  exact inv_i (As := []) (rm := mi57) (ry := mi47) rfl rfl (by decide) rfl rfl (Nat.le_of_ble_eq_true rfl) rfl rfl (by decide)
theorem v57_20 {z : P0} {ls : Lcs} {st : List Value} {c n : Nat} {K : Nat → Nat × Nat} {I : Nat → Nat → Int32} {R : Nat → Nat → Option Nat} {L : Nat → Nat → Int64} {sz : Nat} {ex : Bool} {Q : Res → Mem → Prop} {x : Nat}  : X z 57 20 ls (.ref x :: st) (c, n) (K, I, R, L, sz, ex) Q = ((K x).1 = 103 ∧ wsum st ≤ 8 ∧ c + 397 ≤ 565 ∧ n + 3234 ≤ 6546 ∧ X z 23 0 [some (.ref x), none] [] (0, 0) (K, I, R, L, sz, ex) (aftr (X z) mT 57 20 ls st (c + 397, n + 3234) Q)) := by
  rw [x57_20]
  exact inv_i (As := []) (rm := mi57) (ry := mi23) rfl rfl (by decide) rfl rfl (Nat.le_of_ble_eq_true rfl) rfl rfl (by decide)
theorem v57_31 {z : P0} {ls : Lcs} {st : List Value} {c n : Nat} {K : Nat → Nat × Nat} {I : Nat → Nat → Int32} {R : Nat → Nat → Option Nat} {L : Nat → Nat → Int64} {sz : Nat} {ex : Bool} {Q : Res → Mem → Prop} {x : Nat}  : X z 57 31 ls (.ref x :: st) (c, n) (K, I, R, L, sz, ex) Q = ((K x).1 = 100 ∧ wsum st ≤ 8 ∧ c + 1 ≤ 565 ∧ n + 60 ≤ 6546 ∧ X z 0 0 [some (.ref x)] [] (0, 0) (K, I, R, L, sz, ex) (aftr (X z) mT 57 31 ls st (c + 1, n + 60) Q)) := by
  rw [x57_31]
  exact inv_i (As := []) (rm := mi57) (ry := mi0) rfl rfl (by decide) rfl rfl (Nat.le_of_ble_eq_true rfl) rfl rfl (by decide)
theorem v57_41 {z : P0} {ls : Lcs} {st : List Value} {c n : Nat} {K : Nat → Nat × Nat} {I : Nat → Nat → Int32} {R : Nat → Nat → Option Nat} {L : Nat → Nat → Int64} {sz : Nat} {ex : Bool} {Q : Res → Mem → Prop} {x : Nat}  : X z 57 41 ls (.ref x :: st) (c, n) (K, I, R, L, sz, ex) Q = ((K x).1 = 101 ∧ wsum st ≤ 8 ∧ c + 2 ≤ 565 ∧ n + 1666 ≤ 6546 ∧ X z 9 0 [some (.ref x)] [] (0, 0) (K, I, R, L, sz, ex) (aftr (X z) mT 57 41 ls st (c + 2, n + 1666) Q)) := by
  rw [x57_41]
  exact inv_i (As := []) (rm := mi57) (ry := mi9) rfl rfl (by decide) rfl rfl (Nat.le_of_ble_eq_true rfl) rfl rfl (by decide)
theorem v57_49 {z : P0} {ls : Lcs} {st : List Value} {c n : Nat} {K : Nat → Nat × Nat} {I : Nat → Nat → Int32} {R : Nat → Nat → Option Nat} {L : Nat → Nat → Int64} {sz : Nat} {ex : Bool} {Q : Res → Mem → Prop} {x : Nat}  : X z 57 49 ls (.ref x :: st) (c, n) (K, I, R, L, sz, ex) Q = ((K x).1 = 105 ∧ wsum st ≤ 8 ∧ c + 2 ≤ 565 ∧ n + 242 ≤ 6546 ∧ X z 32 0 [some (.ref x)] [] (0, 0) (K, I, R, L, sz, ex) (aftr (X z) mT 57 49 ls st (c + 2, n + 242) Q)) := by
  rw [x57_49]
  exact inv_i (As := []) (rm := mi57) (ry := mi32) rfl rfl (by decide) rfl rfl (Nat.le_of_ble_eq_true rfl) rfl rfl (by decide)
theorem v57_60 {z : P0} {ls : Lcs} {st : List Value} {c n : Nat} {K : Nat → Nat × Nat} {I : Nat → Nat → Int32} {R : Nat → Nat → Option Nat} {L : Nat → Nat → Int64} {sz : Nat} {ex : Bool} {Q : Res → Mem → Prop} {x : Nat} {a0 : Nat} {a1 : Nat} : X z 57 60 ls (.ref a1 :: .ref a0 :: .ref x :: st) (c, n) (K, I, R, L, sz, ex) Q = ((K x).1 = 106 ∧ wsum st ≤ 8 ∧ c + 45 ≤ 565 ∧ n + 382 ≤ 6546 ∧ X z 36 0 [some (.ref x), some (.ref a0), some (.ref a1), none] [] (0, 0) (K, I, R, L, sz, ex) (aftr (X z) mT 57 60 ls st (c + 45, n + 382) Q)) := by
  rw [x57_60]
  exact inv_i (As := [.ref a0, .ref a1]) (rm := mi57) (ry := mi36) rfl rfl (by decide) rfl rfl (Nat.le_of_ble_eq_true rfl) rfl rfl (by decide)
theorem v57_73 {z : P0} {ls : Lcs} {st : List Value} {c n : Nat} {K : Nat → Nat × Nat} {I : Nat → Nat → Int32} {R : Nat → Nat → Option Nat} {L : Nat → Nat → Int64} {sz : Nat} {ex : Bool} {Q : Res → Mem → Prop} {x : Nat} {a0 : Nat} {a1 : Nat} : X z 57 73 ls (.ref a1 :: .ref a0 :: .ref x :: st) (c, n) (K, I, R, L, sz, ex) Q = ((K x).1 = 106 ∧ wsum st ≤ 8 ∧ c + 45 ≤ 565 ∧ n + 382 ≤ 6546 ∧ X z 36 0 [some (.ref x), some (.ref a0), some (.ref a1), none] [] (0, 0) (K, I, R, L, sz, ex) (aftr (X z) mT 57 73 ls st (c + 45, n + 382) Q)) := by
  rw [x57_73]
  exact inv_i (As := [.ref a0, .ref a1]) (rm := mi57) (ry := mi36) rfl rfl (by decide) rfl rfl (Nat.le_of_ble_eq_true rfl) rfl rfl (by decide)
theorem v58_1 {z : P0} {ls : Lcs} {st : List Value} {c n : Nat} {K : Nat → Nat × Nat} {I : Nat → Nat → Int32} {R : Nat → Nat → Option Nat} {L : Nat → Nat → Int64} {sz : Nat} {ex : Bool} {Q : Res → Mem → Prop}  {a0 : Int32} : X z 58 1 ls (.int a0 :: st) (0, 0) (K, I, R, L, sz, ex) Q = (wsum st ≤ 8 ∧ X z 85 0 [some (.int a0)] [] (0, 0) (K, I, R, L, sz, ex) (aftr (X z) mT 58 1 ls st (0, 0) Q)) := by
  rw [x58_1]
  refine (inv_s (As := [.int a0]) (rm := mi58) (ry := mi85) rfl rfl (by decide) rfl rfl (Nat.le_of_ble_eq_true rfl) rfl (by decide) (by decide)).trans ?_
  exact Eq.trans (congrArg _ (and_t (Nat.zero_le _))) (congrArg _ (and_t (Nat.zero_le _)))
theorem v58_31 {z : P0} {ls : Lcs} {st : List Value} {c n : Nat} {K : Nat → Nat × Nat} {I : Nat → Nat → Int32} {R : Nat → Nat → Option Nat} {L : Nat → Nat → Int64} {sz : Nat} {ex : Bool} {Q : Res → Mem → Prop} {x : Nat} {a0 : Int32} : X z 58 31 ls (.int a0 :: .ref x :: st) (0, 0) (K, I, R, L, sz, ex) Q = ((K x).1 = 100 ∧ wsum st ≤ 8 ∧ X z 2 0 [some (.ref x), some (.int a0), none, none] [] (0, 0) (K, I, R, L, sz, ex) (aftr (X z) mT 58 31 ls st (0, 0) Q)) := by
  rw [x58_31]
  refine (inv_v (As := [.int a0]) (rm := mi58) (ry := mi2) rfl rfl (by decide) rfl rfl (Nat.le_of_ble_eq_true rfl) rfl rfl).trans ?_
  refine congrArg _ ?_
  exact Eq.trans (congrArg _ (and_t (Nat.zero_le _))) (congrArg _ (and_t (Nat.zero_le _)))
theorem v58_77 {z : P0} {ls : Lcs} {st : List Value} {c n : Nat} {K : Nat → Nat × Nat} {I : Nat → Nat → Int32} {R : Nat → Nat → Option Nat} {L : Nat → Nat → Int64} {sz : Nat} {ex : Bool} {Q : Res → Mem → Prop} {x : Nat} {a0 : Nat} : X z 58 77 ls (.ref a0 :: .ref x :: st) (0, 0) (K, I, R, L, sz, ex) Q = ((K x).1 = 103 ∧ wsum st ≤ 8 ∧ X z 24 0 [some (.ref x), some (.ref a0)] [] (0, 0) (K, I, R, L, sz, ex) (aftr (X z) mT 58 77 ls st (0, 0) Q)) := by
  rw [x58_77]
  refine (inv_v (As := [.ref a0]) (rm := mi58) (ry := mi24) rfl rfl (by decide) rfl rfl (Nat.le_of_ble_eq_true rfl) rfl rfl).trans ?_
  refine congrArg _ ?_
  exact Eq.trans (congrArg _ (and_t (Nat.zero_le _))) (congrArg _ (and_t (Nat.zero_le _)))
theorem v58_103 {z : P0} {ls : Lcs} {st : List Value} {c n : Nat} {K : Nat → Nat × Nat} {I : Nat → Nat → Int32} {R : Nat → Nat → Option Nat} {L : Nat → Nat → Int64} {sz : Nat} {ex : Bool} {Q : Res → Mem → Prop} {x : Nat} {a0 : Nat} {a1 : Int32} {a2 : Int32} : X z 58 103 ls (.int a2 :: .int a1 :: .ref a0 :: .ref x :: st) (0, 0) (K, I, R, L, sz, ex) Q = ((K x).1 = 107 ∧ wsum st ≤ 8 ∧ X z 45 0 [some (.ref x), some (.ref a0), some (.int a1), some (.int a2)] [] (0, 0) (K, I, R, L, sz, ex) (aftr (X z) mT 58 103 ls st (0, 0) Q)) := by
  rw [x58_103]
  refine (inv_v (As := [.ref a0, .int a1, .int a2]) (rm := mi58) (ry := mi45) rfl rfl (by decide) rfl rfl (Nat.le_of_ble_eq_true rfl) rfl rfl).trans ?_
  refine congrArg _ ?_
  exact Eq.trans (congrArg _ (and_t (Nat.zero_le _))) (congrArg _ (and_t (Nat.zero_le _)))
theorem v59_5 {z : P0} {ls : Lcs} {st : List Value} {c n : Nat} {K : Nat → Nat × Nat} {I : Nat → Nat → Int32} {R : Nat → Nat → Option Nat} {L : Nat → Nat → Int64} {sz : Nat} {ex : Bool} {Q : Res → Mem → Prop} {x : Nat} {a0 : Int32} : X z 59 5 ls (.int a0 :: .ref x :: st) (0, 0) (K, I, R, L, sz, ex) Q = ((K x).1 = 100 ∧ wsum st ≤ 8 ∧ X z 2 0 [some (.ref x), some (.int a0), none, none] [] (0, 0) (K, I, R, L, sz, ex) (aftr (X z) mT 59 5 ls st (0, 0) Q)) := by
  rw [x59_5]
  refine (inv_v (As := [.int a0]) (rm := mi59) (ry := mi2) rfl rfl (by decide) rfl rfl (Nat.le_of_ble_eq_true rfl) rfl rfl).trans ?_
  refine congrArg _ ?_
  exact Eq.trans (congrArg _ (and_t (Nat.zero_le _))) (congrArg _ (and_t (Nat.zero_le _)))
theorem v59_51 {z : P0} {ls : Lcs} {st : List Value} {c n : Nat} {K : Nat → Nat × Nat} {I : Nat → Nat → Int32} {R : Nat → Nat → Option Nat} {L : Nat → Nat → Int64} {sz : Nat} {ex : Bool} {Q : Res → Mem → Prop} {x : Nat} {a0 : Nat} : X z 59 51 ls (.ref a0 :: .ref x :: st) (0, 0) (K, I, R, L, sz, ex) Q = ((K x).1 = 103 ∧ wsum st ≤ 8 ∧ X z 24 0 [some (.ref x), some (.ref a0)] [] (0, 0) (K, I, R, L, sz, ex) (aftr (X z) mT 59 51 ls st (0, 0) Q)) := by
  rw [x59_51]
  refine (inv_v (As := [.ref a0]) (rm := mi59) (ry := mi24) rfl rfl (by decide) rfl rfl (Nat.le_of_ble_eq_true rfl) rfl rfl).trans ?_
  refine congrArg _ ?_
  exact Eq.trans (congrArg _ (and_t (Nat.zero_le _))) (congrArg _ (and_t (Nat.zero_le _)))
theorem v59_75 {z : P0} {ls : Lcs} {st : List Value} {c n : Nat} {K : Nat → Nat × Nat} {I : Nat → Nat → Int32} {R : Nat → Nat → Option Nat} {L : Nat → Nat → Int64} {sz : Nat} {ex : Bool} {Q : Res → Mem → Prop} {x : Nat} {a0 : Nat} : X z 59 75 ls (.ref a0 :: .ref x :: st) (0, 0) (K, I, R, L, sz, ex) Q = ((K x).1 = 109 ∧ wsum st ≤ 8 ∧ X z 53 0 [some (.ref x), some (.ref a0), none] [] (0, 0) (K, I, R, L, sz, ex) (aftr (X z) mT 59 75 ls st (0, 0) Q)) := by
  rw [x59_75]
  refine (inv_v (As := [.ref a0]) (rm := mi59) (ry := mi53) rfl rfl (by decide) rfl rfl (Nat.le_of_ble_eq_true rfl) rfl rfl).trans ?_
  refine congrArg _ ?_
  exact Eq.trans (congrArg _ (and_t (Nat.zero_le _))) (congrArg _ (and_t (Nat.zero_le _)))
theorem v60_5 {z : P0} {ls : Lcs} {st : List Value} {c n : Nat} {K : Nat → Nat × Nat} {I : Nat → Nat → Int32} {R : Nat → Nat → Option Nat} {L : Nat → Nat → Int64} {sz : Nat} {ex : Bool} {Q : Res → Mem → Prop} {x : Nat} {a0 : Int32} : X z 60 5 ls (.int a0 :: .ref x :: st) (0, 0) (K, I, R, L, sz, ex) Q = ((K x).1 = 100 ∧ wsum st ≤ 8 ∧ X z 2 0 [some (.ref x), some (.int a0), none, none] [] (0, 0) (K, I, R, L, sz, ex) (aftr (X z) mT 60 5 ls st (0, 0) Q)) := by
  rw [x60_5]
  refine (inv_v (As := [.int a0]) (rm := mi60) (ry := mi2) rfl rfl (by decide) rfl rfl (Nat.le_of_ble_eq_true rfl) rfl rfl).trans ?_
  refine congrArg _ ?_
  exact Eq.trans (congrArg _ (and_t (Nat.zero_le _))) (congrArg _ (and_t (Nat.zero_le _)))
theorem v60_29 {z : P0} {ls : Lcs} {st : List Value} {c n : Nat} {K : Nat → Nat × Nat} {I : Nat → Nat → Int32} {R : Nat → Nat → Option Nat} {L : Nat → Nat → Int64} {sz : Nat} {ex : Bool} {Q : Res → Mem → Prop} {x : Nat} {a0 : Nat} : X z 60 29 ls (.ref a0 :: .ref x :: st) (0, 0) (K, I, R, L, sz, ex) Q = ((K x).1 = 103 ∧ wsum st ≤ 8 ∧ X z 24 0 [some (.ref x), some (.ref a0)] [] (0, 0) (K, I, R, L, sz, ex) (aftr (X z) mT 60 29 ls st (0, 0) Q)) := by
  rw [x60_29]
  refine (inv_v (As := [.ref a0]) (rm := mi60) (ry := mi24) rfl rfl (by decide) rfl rfl (Nat.le_of_ble_eq_true rfl) rfl rfl).trans ?_
  refine congrArg _ ?_
  exact Eq.trans (congrArg _ (and_t (Nat.zero_le _))) (congrArg _ (and_t (Nat.zero_le _)))
theorem v60_53 {z : P0} {ls : Lcs} {st : List Value} {c n : Nat} {K : Nat → Nat × Nat} {I : Nat → Nat → Int32} {R : Nat → Nat → Option Nat} {L : Nat → Nat → Int64} {sz : Nat} {ex : Bool} {Q : Res → Mem → Prop} {x : Nat} {a0 : Nat} {a1 : Int32} : X z 60 53 ls (.int a1 :: .ref a0 :: .ref x :: st) (0, 0) (K, I, R, L, sz, ex) Q = ((K x).1 = 104 ∧ wsum st ≤ 8 ∧ X z 28 0 [some (.ref x), some (.ref a0), some (.int a1)] [] (0, 0) (K, I, R, L, sz, ex) (aftr (X z) mT 60 53 ls st (0, 0) Q)) := by
  rw [x60_53]
  refine (inv_v (As := [.ref a0, .int a1]) (rm := mi60) (ry := mi28) rfl rfl (by decide) rfl rfl (Nat.le_of_ble_eq_true rfl) rfl rfl).trans ?_
  refine congrArg _ ?_
  exact Eq.trans (congrArg _ (and_t (Nat.zero_le _))) (congrArg _ (and_t (Nat.zero_le _)))
theorem v60_71 {z : P0} {ls : Lcs} {st : List Value} {c n : Nat} {K : Nat → Nat × Nat} {I : Nat → Nat → Int32} {R : Nat → Nat → Option Nat} {L : Nat → Nat → Int64} {sz : Nat} {ex : Bool} {Q : Res → Mem → Prop} {x : Nat}  : X z 60 71 ls (.ref x :: st) (0, 0) (K, I, R, L, sz, ex) Q = ((K x).1 = 104 ∧ wsum st ≤ 8 ∧ X z 29 0 [some (.ref x), none, none] [] (0, 0) (K, I, R, L, sz, ex) (aftr (X z) mT 60 71 ls st (0, 0) Q)) := by
  rw [x60_71]
  refine (inv_v (As := []) (rm := mi60) (ry := mi29) rfl rfl (by decide) rfl rfl (Nat.le_of_ble_eq_true rfl) rfl rfl).trans ?_
  refine congrArg _ ?_
  exact Eq.trans (congrArg _ (and_t (Nat.zero_le _))) (congrArg _ (and_t (Nat.zero_le _)))
theorem v61_2 {z : P0} {ls : Lcs} {st : List Value} {c n : Nat} {K : Nat → Nat × Nat} {I : Nat → Nat → Int32} {R : Nat → Nat → Option Nat} {L : Nat → Nat → Int64} {sz : Nat} {ex : Bool} {Q : Res → Mem → Prop} {x : Nat} {a0 : Int32} : X z 61 2 ls (.int a0 :: .ref x :: st) (0, 0) (K, I, R, L, sz, ex) Q = ((K x).1 = 110 ∧ wsum st ≤ 8 ∧ X z 89 0 [some (.ref x), some (.int a0)] [] (0, 0) (K, I, R, L, sz, ex) (aftr (X z) mT 61 2 ls st (0, 0) Q)) := by
  rw [x61_2]
  refine (inv_v (As := [.int a0]) (rm := mi61) (ry := mi89) rfl rfl (by decide) rfl rfl (Nat.le_of_ble_eq_true rfl) rfl rfl).trans ?_
  refine congrArg _ ?_
  exact Eq.trans (congrArg _ (and_t (Nat.zero_le _))) (congrArg _ (and_t (Nat.zero_le _)))
theorem v61_19 {z : P0} {ls : Lcs} {st : List Value} {c n : Nat} {K : Nat → Nat × Nat} {I : Nat → Nat → Int32} {R : Nat → Nat → Option Nat} {L : Nat → Nat → Int64} {sz : Nat} {ex : Bool} {Q : Res → Mem → Prop}  {a0 : Int32} : X z 61 19 ls (.int a0 :: st) (0, 0) (K, I, R, L, sz, ex) Q = (wsum st ≤ 8 ∧ X z 85 0 [some (.int a0)] [] (0, 0) (K, I, R, L, sz, ex) (aftr (X z) mT 61 19 ls st (0, 0) Q)) := by
  rw [x61_19]
  refine (inv_s (As := [.int a0]) (rm := mi61) (ry := mi85) rfl rfl (by decide) rfl rfl (Nat.le_of_ble_eq_true rfl) rfl (by decide) (by decide)).trans ?_
  exact Eq.trans (congrArg _ (and_t (Nat.zero_le _))) (congrArg _ (and_t (Nat.zero_le _)))
theorem v61_43 {z : P0} {ls : Lcs} {st : List Value} {c n : Nat} {K : Nat → Nat × Nat} {I : Nat → Nat → Int32} {R : Nat → Nat → Option Nat} {L : Nat → Nat → Int64} {sz : Nat} {ex : Bool} {Q : Res → Mem → Prop} {x : Nat} {a0 : Nat} : X z 61 43 ls (.ref a0 :: .ref x :: st) (0, 0) (K, I, R, L, sz, ex) Q = ((K x).1 = 103 ∧ wsum st ≤ 8 ∧ X z 24 0 [some (.ref x), some (.ref a0)] [] (0, 0) (K, I, R, L, sz, ex) (aftr (X z) mT 61 43 ls st (0, 0) Q)) := by
  rw [x61_43]
  refine (inv_v (As := [.ref a0]) (rm := mi61) (ry := mi24) rfl rfl (by decide) rfl rfl (Nat.le_of_ble_eq_true rfl) rfl rfl).trans ?_
  refine congrArg _ ?_
  exact Eq.trans (congrArg _ (and_t (Nat.zero_le _))) (congrArg _ (and_t (Nat.zero_le _)))
theorem v62_2 {z : P0} {ls : Lcs} {st : List Value} {c n : Nat} {K : Nat → Nat × Nat} {I : Nat → Nat → Int32} {R : Nat → Nat → Option Nat} {L : Nat → Nat → Int64} {sz : Nat} {ex : Bool} {Q : Res → Mem → Prop} {x : Nat} {a0 : Int32} : X z 62 2 ls (.int a0 :: .ref x :: st) (0, 0) (K, I, R, L, sz, ex) Q = ((K x).1 = 110 ∧ wsum st ≤ 8 ∧ X z 89 0 [some (.ref x), some (.int a0)] [] (0, 0) (K, I, R, L, sz, ex) (aftr (X z) mT 62 2 ls st (0, 0) Q)) := by
  rw [x62_2]
  refine (inv_v (As := [.int a0]) (rm := mi62) (ry := mi89) rfl rfl (by decide) rfl rfl (Nat.le_of_ble_eq_true rfl) rfl rfl).trans ?_
  refine congrArg _ ?_
  exact Eq.trans (congrArg _ (and_t (Nat.zero_le _))) (congrArg _ (and_t (Nat.zero_le _)))
theorem v62_25 {z : P0} {ls : Lcs} {st : List Value} {c n : Nat} {K : Nat → Nat × Nat} {I : Nat → Nat → Int32} {R : Nat → Nat → Option Nat} {L : Nat → Nat → Int64} {sz : Nat} {ex : Bool} {Q : Res → Mem → Prop} {x : Nat} {a0 : Int32} : X z 62 25 ls (.int a0 :: .ref x :: st) (0, 0) (K, I, R, L, sz, ex) Q = ((K x).1 = 110 ∧ wsum st ≤ 8 ∧ X z 90 0 [some (.ref x), some (.int a0)] [] (0, 0) (K, I, R, L, sz, ex) (aftr (X z) mT 62 25 ls st (0, 0) Q)) := by
  rw [x62_25]
  refine (inv_v (As := [.int a0]) (rm := mi62) (ry := mi90) rfl rfl (by decide) rfl rfl (Nat.le_of_ble_eq_true rfl) rfl rfl).trans ?_
  refine congrArg _ ?_
  exact Eq.trans (congrArg _ (and_t (Nat.zero_le _))) (congrArg _ (and_t (Nat.zero_le _)))
theorem v62_49 {z : P0} {ls : Lcs} {st : List Value} {c n : Nat} {K : Nat → Nat × Nat} {I : Nat → Nat → Int32} {R : Nat → Nat → Option Nat} {L : Nat → Nat → Int64} {sz : Nat} {ex : Bool} {Q : Res → Mem → Prop} {x : Nat} {a0 : Nat} : X z 62 49 ls (.ref a0 :: .ref x :: st) (0, 0) (K, I, R, L, sz, ex) Q = ((K x).1 = 103 ∧ wsum st ≤ 8 ∧ X z 24 0 [some (.ref x), some (.ref a0)] [] (0, 0) (K, I, R, L, sz, ex) (aftr (X z) mT 62 49 ls st (0, 0) Q)) := by
  rw [x62_49]
  refine (inv_v (As := [.ref a0]) (rm := mi62) (ry := mi24) rfl rfl (by decide) rfl rfl (Nat.le_of_ble_eq_true rfl) rfl rfl).trans ?_
  refine congrArg _ ?_
  exact Eq.trans (congrArg _ (and_t (Nat.zero_le _))) (congrArg _ (and_t (Nat.zero_le _)))
theorem v63_2 {z : P0} {ls : Lcs} {st : List Value} {c n : Nat} {K : Nat → Nat × Nat} {I : Nat → Nat → Int32} {R : Nat → Nat → Option Nat} {L : Nat → Nat → Int64} {sz : Nat} {ex : Bool} {Q : Res → Mem → Prop} {x : Nat} {a0 : Int32} : X z 63 2 ls (.int a0 :: .ref x :: st) (0, 0) (K, I, R, L, sz, ex) Q = ((K x).1 = 110 ∧ wsum st ≤ 8 ∧ X z 89 0 [some (.ref x), some (.int a0)] [] (0, 0) (K, I, R, L, sz, ex) (aftr (X z) mT 63 2 ls st (0, 0) Q)) := by
  rw [x63_2]
  refine (inv_v (As := [.int a0]) (rm := mi63) (ry := mi89) rfl rfl (by decide) rfl rfl (Nat.le_of_ble_eq_true rfl) rfl rfl).trans ?_
  refine congrArg _ ?_
  exact Eq.trans (congrArg _ (and_t (Nat.zero_le _))) (congrArg _ (and_t (Nat.zero_le _)))
theorem v63_26 {z : P0} {ls : Lcs} {st : List Value} {c n : Nat} {K : Nat → Nat × Nat} {I : Nat → Nat → Int32} {R : Nat → Nat → Option Nat} {L : Nat → Nat → Int64} {sz : Nat} {ex : Bool} {Q : Res → Mem → Prop} {x : Nat} {a0 : Nat} : X z 63 26 ls (.ref a0 :: .ref x :: st) (0, 0) (K, I, R, L, sz, ex) Q = ((K x).1 = 103 ∧ wsum st ≤ 8 ∧ X z 24 0 [some (.ref x), some (.ref a0)] [] (0, 0) (K, I, R, L, sz, ex) (aftr (X z) mT 63 26 ls st (0, 0) Q)) := by
  rw [x63_26]
  refine (inv_v (As := [.ref a0]) (rm := mi63) (ry := mi24) rfl rfl (by decide) rfl rfl (Nat.le_of_ble_eq_true rfl) rfl rfl).trans ?_
  refine congrArg _ ?_
  exact Eq.trans (congrArg _ (and_t (Nat.zero_le _))) (congrArg _ (and_t (Nat.zero_le _)))
theorem v63_46 {z : P0} {ls : Lcs} {st : List Value} {c n : Nat} {K : Nat → Nat × Nat} {I : Nat → Nat → Int32} {R : Nat → Nat → Option Nat} {L : Nat → Nat → Int64} {sz : Nat} {ex : Bool} {Q : Res → Mem → Prop} {x : Nat}  : X z 63 46 ls (.ref x :: st) (0, 0) (K, I, R, L, sz, ex) Q = ((K x).1 = 108 ∧ wsum st ≤ 8 ∧ X z 50 0 [some (.ref x), none, none] [] (0, 0) (K, I, R, L, sz, ex) (aftr (X z) mT 63 46 ls st (0, 0) Q)) := by
  rw [x63_46]
  refine (inv_v (As := []) (rm := mi63) (ry := mi50) rfl rfl (by decide) rfl rfl (Nat.le_of_ble_eq_true rfl) rfl rfl).trans ?_
  refine congrArg _ ?_
  exact Eq.trans (congrArg _ (and_t (Nat.zero_le _))) (congrArg _ (and_t (Nat.zero_le _)))
theorem v64_1 {z : P0} {ls : Lcs} {st : List Value} {c n : Nat} {K : Nat → Nat × Nat} {I : Nat → Nat → Int32} {R : Nat → Nat → Option Nat} {L : Nat → Nat → Int64} {sz : Nat} {ex : Bool} {Q : Res → Mem → Prop}  {a0 : Int32} : X z 64 1 ls (.int a0 :: st) (0, 0) (K, I, R, L, sz, ex) Q = (wsum st ≤ 8 ∧ X z 86 0 [some (.int a0)] [] (0, 0) (K, I, R, L, sz, ex) (aftr (X z) mT 64 1 ls st (0, 0) Q)) := by
  rw [x64_1]
  refine (inv_s (As := [.int a0]) (rm := mi64) (ry := mi86) rfl rfl (by decide) rfl rfl (Nat.le_of_ble_eq_true rfl) rfl (by decide) (by decide)).trans ?_
  exact Eq.trans (congrArg _ (and_t (Nat.zero_le _))) (congrArg _ (and_t (Nat.zero_le _)))
theorem v64_19 {z : P0} {ls : Lcs} {st : List Value} {c n : Nat} {K : Nat → Nat × Nat} {I : Nat → Nat → Int32} {R : Nat → Nat → Option Nat} {L : Nat → Nat → Int64} {sz : Nat} {ex : Bool} {Q : Res → Mem → Prop}  {a0 : Int32} {a1 : Int32} : X z 64 19 ls (.int a1 :: .int a0 :: st) (0, 0) (K, I, R, L, sz, ex) Q = (wsum st ≤ 8 ∧ X z 87 0 [some (.int a0), some (.int a1)] [] (0, 0) (K, I, R, L, sz, ex) (aftr (X z) mT 64 19 ls st (0, 0) Q)) := by
  rw [x64_19]
  refine (inv_s (As := [.int a0, .int a1]) (rm := mi64) (ry := mi87) rfl rfl (by decide) rfl rfl (Nat.le_of_ble_eq_true rfl) rfl (by decide) (by decide)).trans ?_
  exact Eq.trans (congrArg _ (and_t (Nat.zero_le _))) (congrArg _ (and_t (Nat.zero_le _)))
theorem v64_43 {z : P0} {ls : Lcs} {st : List Value} {c n : Nat} {K : Nat → Nat × Nat} {I : Nat → Nat → Int32} {R : Nat → Nat → Option Nat} {L : Nat → Nat → Int64} {sz : Nat} {ex : Bool} {Q : Res → Mem → Prop} {x : Nat} {a0 : Nat} : X z 64 43 ls (.ref a0 :: .ref x :: st) (0, 0) (K, I, R, L, sz, ex) Q = ((K x).1 = 103 ∧ wsum st ≤ 8 ∧ X z 24 0 [some (.ref x), some (.ref a0)] [] (0, 0) (K, I, R, L, sz, ex) (aftr (X z) mT 64 43 ls st (0, 0) Q)) := by
  rw [x64_43]
  refine (inv_v (As := [.ref a0]) (rm := mi64) (ry := mi24) rfl rfl (by decide) rfl rfl (Nat.le_of_ble_eq_true rfl) rfl rfl).trans ?_
  refine congrArg _ ?_
  exact Eq.trans (congrArg _ (and_t (Nat.zero_le _))) (congrArg _ (and_t (Nat.zero_le _)))
theorem v65_38 {z : P0} {ls : Lcs} {st : List Value} {c n : Nat} {K : Nat → Nat × Nat} {I : Nat → Nat → Int32} {R : Nat → Nat → Option Nat} {L : Nat → Nat → Int64} {sz : Nat} {ex : Bool} {Q : Res → Mem → Prop} {x : Nat} {a0 : Nat} {a1 : Nat} : X z 65 38 ls (.ref a1 :: .ref a0 :: .ref x :: st) (0, 0) (K, I, R, L, sz, ex) Q = ((K x).1 = 106 ∧ wsum st ≤ 8 ∧ X z 38 0 [some (.ref x), some (.ref a0), some (.ref a1), none, none] [] (0, 0) (K, I, R, L, sz, ex) (aftr (X z) mT 65 38 ls st (0, 0) Q)) := by
  rw [x65_38]
  refine (inv_v (As := [.ref a0, .ref a1]) (rm := mi65) (ry := mi38) rfl rfl (by decide) rfl rfl (Nat.le_of_ble_eq_true rfl) rfl rfl).trans ?_
  refine congrArg _ ?_
  exact Eq.trans (congrArg _ (and_t (Nat.zero_le _))) (congrArg _ (and_t (Nat.zero_le _)))
theorem v65_69 {z : P0} {ls : Lcs} {st : List Value} {c n : Nat} {K : Nat → Nat × Nat} {I : Nat → Nat → Int32} {R : Nat → Nat → Option Nat} {L : Nat → Nat → Int64} {sz : Nat} {ex : Bool} {Q : Res → Mem → Prop} {x : Nat} {a0 : Nat} : X z 65 69 ls (.ref a0 :: .ref x :: st) (0, 0) (K, I, R, L, sz, ex) Q = ((K x).1 = 103 ∧ wsum st ≤ 8 ∧ X z 24 0 [some (.ref x), some (.ref a0)] [] (0, 0) (K, I, R, L, sz, ex) (aftr (X z) mT 65 69 ls st (0, 0) Q)) := by
  rw [x65_69]
  refine (inv_v (As := [.ref a0]) (rm := mi65) (ry := mi24) rfl rfl (by decide) rfl rfl (Nat.le_of_ble_eq_true rfl) rfl rfl).trans ?_
  refine congrArg _ ?_
  exact Eq.trans (congrArg _ (and_t (Nat.zero_le _))) (congrArg _ (and_t (Nat.zero_le _)))
theorem v66_54 {z : P0} {ls : Lcs} {st : List Value} {c n : Nat} {K : Nat → Nat × Nat} {I : Nat → Nat → Int32} {R : Nat → Nat → Option Nat} {L : Nat → Nat → Int64} {sz : Nat} {ex : Bool} {Q : Res → Mem → Prop} {x : Nat} {a0 : Nat} : X z 66 54 ls (.ref a0 :: .ref x :: st) (0, 0) (K, I, R, L, sz, ex) Q = ((K x).1 = 103 ∧ wsum st ≤ 8 ∧ X z 24 0 [some (.ref x), some (.ref a0)] [] (0, 0) (K, I, R, L, sz, ex) (aftr (X z) mT 66 54 ls st (0, 0) Q)) := by
  rw [x66_54]
  refine (inv_v (As := [.ref a0]) (rm := mi66) (ry := mi24) rfl rfl (by decide) rfl rfl (Nat.le_of_ble_eq_true rfl) rfl rfl).trans ?_
  refine congrArg _ ?_
  exact Eq.trans (congrArg _ (and_t (Nat.zero_le _))) (congrArg _ (and_t (Nat.zero_le _)))
theorem v69_24 {z : P0} {ls : Lcs} {st : List Value} {c n : Nat} {K : Nat → Nat × Nat} {I : Nat → Nat → Int32} {R : Nat → Nat → Option Nat} {L : Nat → Nat → Int64} {sz : Nat} {ex : Bool} {Q : Res → Mem → Prop} {x : Nat} {a0 : Int32} : X z 69 24 ls (.int a0 :: .ref x :: st) (0, 0) (K, I, R, L, sz, ex) Q = ((K x).1 = 100 ∧ wsum st ≤ 8 ∧ X z 1 0 [some (.ref x), some (.int a0), none, none] [] (0, 0) (K, I, R, L, sz, ex) (aftr (X z) mT 69 24 ls st (0, 0) Q)) := by
  rw [x69_24]
  refine (inv_v (As := [.int a0]) (rm := mi69) (ry := mi1) rfl rfl (by decide) rfl rfl (Nat.le_of_ble_eq_true rfl) rfl rfl).trans ?_
  refine congrArg _ ?_
  exact Eq.trans (congrArg _ (and_t (Nat.zero_le _))) (congrArg _ (and_t (Nat.zero_le _)))
theorem v70_28 {z : P0} {ls : Lcs} {st : List Value} {c n : Nat} {K : Nat → Nat × Nat} {I : Nat → Nat → Int32} {R : Nat → Nat → Option Nat} {L : Nat → Nat → Int64} {sz : Nat} {ex : Bool} {Q : Res → Mem → Prop} {x : Nat} {a0 : Nat} : X z 70 28 ls (.ref a0 :: .ref x :: st) (0, 0) (K, I, R, L, sz, ex) Q = ((K x).1 = 103 ∧ wsum st ≤ 8 ∧ X z 25 0 [some (.ref x), some (.ref a0)] [] (0, 0) (K, I, R, L, sz, ex) (aftr (X z) mT 70 28 ls st (0, 0) Q)) := by
  rw [x70_28]
  refine (inv_v (As := [.ref a0]) (rm := mi70) (ry := mi25) rfl rfl (by decide) rfl rfl (Nat.le_of_ble_eq_true rfl) rfl rfl).trans ?_
  refine congrArg _ ?_
  exact Eq.trans (congrArg _ (and_t (Nat.zero_le _))) (congrArg _ (and_t (Nat.zero_le _)))
theorem v71_2 {z : P0} {ls : Lcs} {st : List Value} {c n : Nat} {K : Nat → Nat × Nat} {I : Nat → Nat → Int32} {R : Nat → Nat → Option Nat} {L : Nat → Nat → Int64} {sz : Nat} {ex : Bool} {Q : Res → Mem → Prop} {x : Nat} {a0 : Int32} : X z 71 2 ls (.int a0 :: .ref x :: st) (0, 0) (K, I, R, L, sz, ex) Q = ((K x).1 = 110 ∧ wsum st ≤ 8 ∧ X z 89 0 [some (.ref x), some (.int a0)] [] (0, 0) (K, I, R, L, sz, ex) (aftr (X z) mT 71 2 ls st (0, 0) Q)) := by
  rw [x71_2]
  refine (inv_v (As := [.int a0]) (rm := mi71) (ry := mi89) rfl rfl (by decide) rfl rfl (Nat.le_of_ble_eq_true rfl) rfl rfl).trans ?_
  refine congrArg _ ?_
  exact Eq.trans (congrArg _ (and_t (Nat.zero_le _))) (congrArg _ (and_t (Nat.zero_le _)))
theorem v71_53 {z : P0} {ls : Lcs} {st : List Value} {c n : Nat} {K : Nat → Nat × Nat} {I : Nat → Nat → Int32} {R : Nat → Nat → Option Nat} {L : Nat → Nat → Int64} {sz : Nat} {ex : Bool} {Q : Res → Mem → Prop} {x : Nat} {a0 : Nat} {a1 : Nat} : X z 71 53 ls (.ref a1 :: .ref a0 :: .ref x :: st) (0, 0) (K, I, R, L, sz, ex) Q = ((K x).1 = 106 ∧ wsum st ≤ 8 ∧ X z 38 0 [some (.ref x), some (.ref a0), some (.ref a1), none, none] [] (0, 0) (K, I, R, L, sz, ex) (aftr (X z) mT 71 53 ls st (0, 0) Q)) := by
  rw [x71_53]
  refine (inv_v (As := [.ref a0, .ref a1]) (rm := mi71) (ry := mi38) rfl rfl (by decide) rfl rfl (Nat.le_of_ble_eq_true rfl) rfl rfl).trans ?_
  refine congrArg _ ?_
  exact Eq.trans (congrArg _ (and_t (Nat.zero_le _))) (congrArg _ (and_t (Nat.zero_le _)))
theorem v71_59 {z : P0} {ls : Lcs} {st : List Value} {c n : Nat} {K : Nat → Nat × Nat} {I : Nat → Nat → Int32} {R : Nat → Nat → Option Nat} {L : Nat → Nat → Int64} {sz : Nat} {ex : Bool} {Q : Res → Mem → Prop} {x : Nat} {a0 : Int32} {a1 : Int32} : X z 71 59 ls (.int a1 :: .int a0 :: .ref x :: st) (0, 0) (K, I, R, L, sz, ex) Q = ((K x).1 = 110 ∧ wsum st ≤ 8 ∧ X z 93 0 [some (.ref x), some (.int a0), some (.int a1), none] [] (0, 0) (K, I, R, L, sz, ex) (aftr (X z) mT 71 59 ls st (0, 0) Q)) := by
  rw [x71_59]
  refine (inv_v (As := [.int a0, .int a1]) (rm := mi71) (ry := mi93) rfl rfl (by decide) rfl rfl (Nat.le_of_ble_eq_true rfl) rfl rfl).trans ?_
  refine congrArg _ ?_
  exact Eq.trans (congrArg _ (and_t (Nat.zero_le _))) (congrArg _ (and_t (Nat.zero_le _)))
theorem v72_2 {z : P0} {ls : Lcs} {st : List Value} {c n : Nat} {K : Nat → Nat × Nat} {I : Nat → Nat → Int32} {R : Nat → Nat → Option Nat} {L : Nat → Nat → Int64} {sz : Nat} {ex : Bool} {Q : Res → Mem → Prop} {x : Nat} {a0 : Int32} : X z 72 2 ls (.int a0 :: .ref x :: st) (0, 0) (K, I, R, L, sz, ex) Q = ((K x).1 = 110 ∧ wsum st ≤ 8 ∧ X z 89 0 [some (.ref x), some (.int a0)] [] (0, 0) (K, I, R, L, sz, ex) (aftr (X z) mT 72 2 ls st (0, 0) Q)) := by
  rw [x72_2]
  refine (inv_v (As := [.int a0]) (rm := mi72) (ry := mi89) rfl rfl (by decide) rfl rfl (Nat.le_of_ble_eq_true rfl) rfl rfl).trans ?_
  refine congrArg _ ?_
  exact Eq.trans (congrArg _ (and_t (Nat.zero_le _))) (congrArg _ (and_t (Nat.zero_le _)))
theorem v73_2 {z : P0} {ls : Lcs} {st : List Value} {c n : Nat} {K : Nat → Nat × Nat} {I : Nat → Nat → Int32} {R : Nat → Nat → Option Nat} {L : Nat → Nat → Int64} {sz : Nat} {ex : Bool} {Q : Res → Mem → Prop} {x : Nat} {a0 : Int32} : X z 73 2 ls (.int a0 :: .ref x :: st) (0, 0) (K, I, R, L, sz, ex) Q = ((K x).1 = 110 ∧ wsum st ≤ 8 ∧ X z 90 0 [some (.ref x), some (.int a0)] [] (0, 0) (K, I, R, L, sz, ex) (aftr (X z) mT 73 2 ls st (0, 0) Q)) := by
  rw [x73_2]
  refine (inv_v (As := [.int a0]) (rm := mi73) (ry := mi90) rfl rfl (by decide) rfl rfl (Nat.le_of_ble_eq_true rfl) rfl rfl).trans ?_
  refine congrArg _ ?_
  exact Eq.trans (congrArg _ (and_t (Nat.zero_le _))) (congrArg _ (and_t (Nat.zero_le _)))
theorem v73_76 {z : P0} {ls : Lcs} {st : List Value} {c n : Nat} {K : Nat → Nat × Nat} {I : Nat → Nat → Int32} {R : Nat → Nat → Option Nat} {L : Nat → Nat → Int64} {sz : Nat} {ex : Bool} {Q : Res → Mem → Prop} {x : Nat} {a0 : Int32} : X z 73 76 ls (.int a0 :: .ref x :: st) (0, 0) (K, I, R, L, sz, ex) Q = ((K x).1 = 109 ∧ wsum st ≤ 8 ∧ X z 55 0 [some (.ref x), some (.int a0)] [] (0, 0) (K, I, R, L, sz, ex) (aftr (X z) mT 73 76 ls st (0, 0) Q)) := by
  rw [x73_76]
  refine (inv_v (As := [.int a0]) (rm := mi73) (ry := mi55) rfl rfl (by decide) rfl rfl (Nat.le_of_ble_eq_true rfl) rfl rfl).trans ?_
  refine congrArg _ ?_
  exact Eq.trans (congrArg _ (and_t (Nat.zero_le _))) (congrArg _ (and_t (Nat.zero_le _)))
theorem v73_85 {z : P0} {ls : Lcs} {st : List Value} {c n : Nat} {K : Nat → Nat × Nat} {I : Nat → Nat → Int32} {R : Nat → Nat → Option Nat} {L : Nat → Nat → Int64} {sz : Nat} {ex : Bool} {Q : Res → Mem → Prop} {x : Nat} {a0 : Int32} {a1 : Int32} : X z 73 85 ls (.int a1 :: .int a0 :: .ref x :: st) (0, 0) (K, I, R, L, sz, ex) Q = ((K x).1 = 110 ∧ wsum st ≤ 8 ∧ X z 94 0 [some (.ref x), some (.int a0), some (.int a1), none] [] (0, 0) (K, I, R, L, sz, ex) (aftr (X z) mT 73 85 ls st (0, 0) Q)) := by
  rw [x73_85]
  refine (inv_v (As := [.int a0, .int a1]) (rm := mi73) (ry := mi94) rfl rfl (by decide) rfl rfl (Nat.le_of_ble_eq_true rfl) rfl rfl).trans ?_
  refine congrArg _ ?_
  exact Eq.trans (congrArg _ (and_t (Nat.zero_le _))) (congrArg _ (and_t (Nat.zero_le _)))
theorem v74_15 {z : P0} {ls : Lcs} {st : List Value} {c n : Nat} {K : Nat → Nat × Nat} {I : Nat → Nat → Int32} {R : Nat → Nat → Option Nat} {L : Nat → Nat → Int64} {sz : Nat} {ex : Bool} {Q : Res → Mem → Prop} {x : Nat} {a0 : Nat} {a1 : Nat} : X z 74 15 ls (.ref a1 :: .ref a0 :: .ref x :: st) (0, 0) (K, I, R, L, sz, ex) Q = ((K x).1 = 106 ∧ wsum st ≤ 8 ∧ X z 38 0 [some (.ref x), some (.ref a0), some (.ref a1), none, none] [] (0, 0) (K, I, R, L, sz, ex) (aftr (X z) mT 74 15 ls st (0, 0) Q)) := by
  rw [x74_15]
  refine (inv_v (As := [.ref a0, .ref a1]) (rm := mi74) (ry := mi38) rfl rfl (by decide) rfl rfl (Nat.le_of_ble_eq_true rfl) rfl rfl).trans ?_
  refine congrArg _ ?_
  exact Eq.trans (congrArg _ (and_t (Nat.zero_le _))) (congrArg _ (and_t (Nat.zero_le _)))
theorem v74_23 {z : P0} {ls : Lcs} {st : List Value} {c n : Nat} {K : Nat → Nat × Nat} {I : Nat → Nat → Int32} {R : Nat → Nat → Option Nat} {L : Nat → Nat → Int64} {sz : Nat} {ex : Bool} {Q : Res → Mem → Prop} {x : Nat} {a0 : Int32} : X z 74 23 ls (.int a0 :: .ref x :: st) (0, 0) (K, I, R, L, sz, ex) Q = ((K x).1 = 106 ∧ wsum st ≤ 8 ∧ X z 37 0 [some (.ref x), some (.int a0)] [] (0, 0) (K, I, R, L, sz, ex) (aftr (X z) mT 74 23 ls st (0, 0) Q)) := by
  rw [x74_23]
  refine (inv_v (As := [.int a0]) (rm := mi74) (ry := mi37) rfl rfl (by decide) rfl rfl (Nat.le_of_ble_eq_true rfl) rfl rfl).trans ?_
  refine congrArg _ ?_
  exact Eq.trans (congrArg _ (and_t (Nat.zero_le _))) (congrArg _ (and_t (Nat.zero_le _)))
theorem v74_64 {z : P0} {ls : Lcs} {st : List Value} {c n : Nat} {K : Nat → Nat × Nat} {I : Nat → Nat → Int32} {R : Nat → Nat → Option Nat} {L : Nat → Nat → Int64} {sz : Nat} {ex : Bool} {Q : Res → Mem → Prop} {x : Nat} {a0 : Int32} {a1 : Int32} : X z 74 64 ls (.int a1 :: .int a0 :: .ref x :: st) (0, 0) (K, I, R, L, sz, ex) Q = ((K x).1 = 110 ∧ wsum st ≤ 8 ∧ X z 95 0 [some (.ref x), some (.int a0), some (.int a1), none] [] (0, 0) (K, I, R, L, sz, ex) (aftr (X z) mT 74 64 ls st (0, 0) Q)) := by
  rw [x74_64]
  refine (inv_v (As := [.int a0, .int a1]) (rm := mi74) (ry := mi95) rfl rfl (by decide) rfl rfl (Nat.le_of_ble_eq_true rfl) rfl rfl).trans ?_
  refine congrArg _ ?_
  exact Eq.trans (congrArg _ (and_t (Nat.zero_le _))) (congrArg _ (and_t (Nat.zero_le _)))
theorem v75_15 {z : P0} {ls : Lcs} {st : List Value} {c n : Nat} {K : Nat → Nat × Nat} {I : Nat → Nat → Int32} {R : Nat → Nat → Option Nat} {L : Nat → Nat → Int64} {sz : Nat} {ex : Bool} {Q : Res → Mem → Prop} {x : Nat} {a0 : Nat} {a1 : Nat} : X z 75 15 ls (.ref a1 :: .ref a0 :: .ref x :: st) (0, 0) (K, I, R, L, sz, ex) Q = ((K x).1 = 106 ∧ wsum st ≤ 8 ∧ X z 38 0 [some (.ref x), some (.ref a0), some (.ref a1), none, none] [] (0, 0) (K, I, R, L, sz, ex) (aftr (X z) mT 75 15 ls st (0, 0) Q)) := by
  rw [x75_15]
  refine (inv_v (As := [.ref a0, .ref a1]) (rm := mi75) (ry := mi38) rfl rfl (by decide) rfl rfl (Nat.le_of_ble_eq_true rfl) rfl rfl).trans ?_
  refine congrArg _ ?_
  exact Eq.trans (congrArg _ (and_t (Nat.zero_le _))) (congrArg _ (and_t (Nat.zero_le _)))
theorem v75_23 {z : P0} {ls : Lcs} {st : List Value} {c n : Nat} {K : Nat → Nat × Nat} {I : Nat → Nat → Int32} {R : Nat → Nat → Option Nat} {L : Nat → Nat → Int64} {sz : Nat} {ex : Bool} {Q : Res → Mem → Prop} {x : Nat} {a0 : Int32} : X z 75 23 ls (.int a0 :: .ref x :: st) (0, 0) (K, I, R, L, sz, ex) Q = ((K x).1 = 106 ∧ wsum st ≤ 8 ∧ X z 37 0 [some (.ref x), some (.int a0)] [] (0, 0) (K, I, R, L, sz, ex) (aftr (X z) mT 75 23 ls st (0, 0) Q)) := by
  rw [x75_23]
  refine (inv_v (As := [.int a0]) (rm := mi75) (ry := mi37) rfl rfl (by decide) rfl rfl (Nat.le_of_ble_eq_true rfl) rfl rfl).trans ?_
  refine congrArg _ ?_
  exact Eq.trans (congrArg _ (and_t (Nat.zero_le _))) (congrArg _ (and_t (Nat.zero_le _)))
theorem v75_80 {z : P0} {ls : Lcs} {st : List Value} {c n : Nat} {K : Nat → Nat × Nat} {I : Nat → Nat → Int32} {R : Nat → Nat → Option Nat} {L : Nat → Nat → Int64} {sz : Nat} {ex : Bool} {Q : Res → Mem → Prop} {x : Nat} {a0 : Nat} {a1 : Nat} : X z 75 80 ls (.ref a1 :: .ref a0 :: .ref x :: st) (0, 0) (K, I, R, L, sz, ex) Q = ((K x).1 = 101 ∧ wsum st ≤ 8 ∧ X z 10 0 [some (.ref x), some (.ref a0), some (.ref a1), none, none, none, none] [] (0, 0) (K, I, R, L, sz, ex) (aftr (X z) mT 75 80 ls st (0, 0) Q)) := by
  rw [x75_80]
  refine (inv_v (As := [.ref a0, .ref a1]) (rm := mi75) (ry := mi10) rfl rfl (by decide) rfl rfl (Nat.le_of_ble_eq_true rfl) rfl rfl).trans ?_
  refine congrArg _ ?_
  exact Eq.trans (congrArg _ (and_t (Nat.zero_le _))) (congrArg _ (and_t (Nat.zero_le _)))
theorem v76_15 {z : P0} {ls : Lcs} {st : List Value} {c n : Nat} {K : Nat → Nat × Nat} {I : Nat → Nat → Int32} {R : Nat → Nat → Option Nat} {L : Nat → Nat → Int64} {sz : Nat} {ex : Bool} {Q : Res → Mem → Prop} {x : Nat} {a0 : Nat} {a1 : Nat} : X z 76 15 ls (.ref a1 :: .ref a0 :: .ref x :: st) (0, 0) (K, I, R, L, sz, ex) Q = ((K x).1 = 106 ∧ wsum st ≤ 8 ∧ X z 38 0 [some (.ref x), some (.ref a0), some (.ref a1), none, none] [] (0, 0) (K, I, R, L, sz, ex) (aftr (X z) mT 76 15 ls st (0, 0) Q)) := by
  rw [x76_15]
  refine (inv_v (As := [.ref a0, .ref a1]) (rm := mi76) (ry := mi38) rfl rfl (by decide) rfl rfl (Nat.le_of_ble_eq_true rfl) rfl rfl).trans ?_
  refine congrArg _ ?_
  exact Eq.trans (congrArg _ (and_t (Nat.zero_le _))) (congrArg _ (and_t (Nat.zero_le _)))
theorem v76_23 {z : P0} {ls : Lcs} {st : List Value} {c n : Nat} {K : Nat → Nat × Nat} {I : Nat → Nat → Int32} {R : Nat → Nat → Option Nat} {L : Nat → Nat → Int64} {sz : Nat} {ex : Bool} {Q : Res → Mem → Prop} {x : Nat} {a0 : Int32} : X z 76 23 ls (.int a0 :: .ref x :: st) (0, 0) (K, I, R, L, sz, ex) Q = ((K x).1 = 106 ∧ wsum st ≤ 8 ∧ X z 37 0 [some (.ref x), some (.int a0)] [] (0, 0) (K, I, R, L, sz, ex) (aftr (X z) mT 76 23 ls st (0, 0) Q)) := by
  rw [x76_23]
  refine (inv_v (As := [.int a0]) (rm := mi76) (ry := mi37) rfl rfl (by decide) rfl rfl (Nat.le_of_ble_eq_true rfl) rfl rfl).trans ?_
  refine congrArg _ ?_
  exact Eq.trans (congrArg _ (and_t (Nat.zero_le _))) (congrArg _ (and_t (Nat.zero_le _)))
theorem v76_49 {z : P0} {ls : Lcs} {st : List Value} {c n : Nat} {K : Nat → Nat × Nat} {I : Nat → Nat → Int32} {R : Nat → Nat → Option Nat} {L : Nat → Nat → Int64} {sz : Nat} {ex : Bool} {Q : Res → Mem → Prop} {x : Nat}  : X z 76 49 ls (.ref x :: st) (0, 0) (K, I, R, L, sz, ex) Q = ((K x).1 = 102 ∧ wsum st ≤ 8 ∧ X z 22 0 [some (.ref x), none, none] [] (0, 0) (K, I, R, L, sz, ex) (aftr (X z) mT 76 49 ls st (0, 0) Q)) := by
  rw [x76_49]
  refine (inv_v (As := []) (rm := mi76) (ry := mi22) rfl rfl (by decide) rfl rfl (Nat.le_of_ble_eq_true rfl) rfl rfl).trans ?_
  refine congrArg _ ?_
  exact Eq.trans (congrArg _ (and_t (Nat.zero_le _))) (congrArg _ (and_t (Nat.zero_le _)))
theorem v77_36 {z : P0} {ls : Lcs} {st : List Value} {c n : Nat} {K : Nat → Nat × Nat} {I : Nat → Nat → Int32} {R : Nat → Nat → Option Nat} {L : Nat → Nat → Int64} {sz : Nat} {ex : Bool} {Q : Res → Mem → Prop} {x : Nat} {a0 : Nat} {a1 : Nat} : X z 77 36 ls (.ref a1 :: .ref a0 :: .ref x :: st) (0, 0) (K, I, R, L, sz, ex) Q = ((K x).1 = 106 ∧ wsum st ≤ 8 ∧ X z 38 0 [some (.ref x), some (.ref a0), some (.ref a1), none, none] [] (0, 0) (K, I, R, L, sz, ex) (aftr (X z) mT 77 36 ls st (0, 0) Q)) := by
  rw [x77_36]
  refine (inv_v (As := [.ref a0, .ref a1]) (rm := mi77) (ry := mi38) rfl rfl (by decide) rfl rfl (Nat.le_of_ble_eq_true rfl) rfl rfl).trans ?_
  refine congrArg _ ?_
  exact Eq.trans (congrArg _ (and_t (Nat.zero_le _))) (congrArg _ (and_t (Nat.zero_le _)))
theorem v77_41 {z : P0} {ls : Lcs} {st : List Value} {c n : Nat} {K : Nat → Nat × Nat} {I : Nat → Nat → Int32} {R : Nat → Nat → Option Nat} {L : Nat → Nat → Int64} {sz : Nat} {ex : Bool} {Q : Res → Mem → Prop} {x : Nat} {a0 : Int32} : X z 77 41 ls (.int a0 :: .ref x :: st) (0, 0) (K, I, R, L, sz, ex) Q = ((K x).1 = 110 ∧ wsum st ≤ 8 ∧ X z 96 0 [some (.ref x), some (.int a0)] [] (0, 0) (K, I, R, L, sz, ex) (aftr (X z) mT 77 41 ls st (0, 0) Q)) := by
  rw [x77_41]
  refine (inv_v (As := [.int a0]) (rm := mi77) (ry := mi96) rfl rfl (by decide) rfl rfl (Nat.le_of_ble_eq_true rfl) rfl rfl).trans ?_
  refine congrArg _ ?_
  exact Eq.trans (congrArg _ (and_t (Nat.zero_le _))) (congrArg _ (and_t (Nat.zero_le _)))
theorem v78_1 {z : P0} {ls : Lcs} {st : List Value} {c n : Nat} {K : Nat → Nat × Nat} {I : Nat → Nat → Int32} {R : Nat → Nat → Option Nat} {L : Nat → Nat → Int64} {sz : Nat} {ex : Bool} {Q : Res → Mem → Prop}  {a0 : Int32} : X z 78 1 ls (.int a0 :: st) (0, 0) (K, I, R, L, sz, ex) Q = (wsum st ≤ 8 ∧ X z 86 0 [some (.int a0)] [] (0, 0) (K, I, R, L, sz, ex) (aftr (X z) mT 78 1 ls st (0, 0) Q)) := by
  rw [x78_1]
  refine (inv_s (As := [.int a0]) (rm := mi78) (ry := mi86) rfl rfl (by decide) rfl rfl (Nat.le_of_ble_eq_true rfl) rfl (by decide) (by decide)).trans ?_
  exact Eq.trans (congrArg _ (and_t (Nat.zero_le _))) (congrArg _ (and_t (Nat.zero_le _)))
theorem v79_1 {z : P0} {ls : Lcs} {st : List Value} {c n : Nat} {K : Nat → Nat × Nat} {I : Nat → Nat → Int32} {R : Nat → Nat → Option Nat} {L : Nat → Nat → Int64} {sz : Nat} {ex : Bool} {Q : Res → Mem → Prop}  {a0 : Int32} : X z 79 1 ls (.int a0 :: st) (0, 0) (K, I, R, L, sz, ex) Q = (wsum st ≤ 8 ∧ X z 86 0 [some (.int a0)] [] (0, 0) (K, I, R, L, sz, ex) (aftr (X z) mT 79 1 ls st (0, 0) Q)) := by
  rw [x79_1]
  refine (inv_s (As := [.int a0]) (rm := mi79) (ry := mi86) rfl rfl (by decide) rfl rfl (Nat.le_of_ble_eq_true rfl) rfl (by decide) (by decide)).trans ?_
  exact Eq.trans (congrArg _ (and_t (Nat.zero_le _))) (congrArg _ (and_t (Nat.zero_le _)))
theorem v79_19 {z : P0} {ls : Lcs} {st : List Value} {c n : Nat} {K : Nat → Nat × Nat} {I : Nat → Nat → Int32} {R : Nat → Nat → Option Nat} {L : Nat → Nat → Int64} {sz : Nat} {ex : Bool} {Q : Res → Mem → Prop}  {a0 : Int32} {a1 : Int32} : X z 79 19 ls (.int a1 :: .int a0 :: st) (0, 0) (K, I, R, L, sz, ex) Q = (wsum st ≤ 8 ∧ X z 87 0 [some (.int a0), some (.int a1)] [] (0, 0) (K, I, R, L, sz, ex) (aftr (X z) mT 79 19 ls st (0, 0) Q)) := by
  rw [x79_19]
  refine (inv_s (As := [.int a0, .int a1]) (rm := mi79) (ry := mi87) rfl rfl (by decide) rfl rfl (Nat.le_of_ble_eq_true rfl) rfl (by decide) (by decide)).trans ?_
  exact Eq.trans (congrArg _ (and_t (Nat.zero_le _))) (congrArg _ (and_t (Nat.zero_le _)))
theorem v79_48 {z : P0} {ls : Lcs} {st : List Value} {c n : Nat} {K : Nat → Nat × Nat} {I : Nat → Nat → Int32} {R : Nat → Nat → Option Nat} {L : Nat → Nat → Int64} {sz : Nat} {ex : Bool} {Q : Res → Mem → Prop} {x : Nat} {a0 : Int32} {a1 : Int32} : X z 79 48 ls (.int a1 :: .int a0 :: .ref x :: st) (0, 0) (K, I, R, L, sz, ex) Q = ((K x).1 = 110 ∧ wsum st ≤ 8 ∧ X z 91 0 [some (.ref x), some (.int a0), some (.int a1)] [] (0, 0) (K, I, R, L, sz, ex) (aftr (X z) mT 79 48 ls st (0, 0) Q)) := by
  rw [x79_48]
  refine (inv_v (As := [.int a0, .int a1]) (rm := mi79) (ry := mi91) rfl rfl (by decide) rfl rfl (Nat.le_of_ble_eq_true rfl) rfl rfl).trans ?_
  refine congrArg _ ?_
  exact Eq.trans (congrArg _ (and_t (Nat.zero_le _))) (congrArg _ (and_t (Nat.zero_le _)))
theorem v79_63 {z : P0} {ls : Lcs} {st : List Value} {c n : Nat} {K : Nat → Nat × Nat} {I : Nat → Nat → Int32} {R : Nat → Nat → Option Nat} {L : Nat → Nat → Int64} {sz : Nat} {ex : Bool} {Q : Res → Mem → Prop} {x : Nat} {a0 : Nat} {a1 : Nat} : X z 79 63 ls (.ref a1 :: .ref a0 :: .ref x :: st) (0, 0) (K, I, R, L, sz, ex) Q = ((K x).1 = 106 ∧ wsum st ≤ 8 ∧ X z 38 0 [some (.ref x), some (.ref a0), some (.ref a1), none, none] [] (0, 0) (K, I, R, L, sz, ex) (aftr (X z) mT 79 63 ls st (0, 0) Q)) := by
  rw [x79_63]
  refine (inv_v (As := [.ref a0, .ref a1]) (rm := mi79) (ry := mi38) rfl rfl (by decide) rfl rfl (Nat.le_of_ble_eq_true rfl) rfl rfl).trans ?_
  refine congrArg _ ?_
  exact Eq.trans (congrArg _ (and_t (Nat.zero_le _))) (congrArg _ (and_t (Nat.zero_le _)))
theorem v80_20 {z : P0} {ls : Lcs} {st : List Value} {c n : Nat} {K : Nat → Nat × Nat} {I : Nat → Nat → Int32} {R : Nat → Nat → Option Nat} {L : Nat → Nat → Int64} {sz : Nat} {ex : Bool} {Q : Res → Mem → Prop} {x : Nat} {a0 : Int32} {a1 : Int32} : X z 80 20 ls (.int a1 :: .int a0 :: .ref x :: st) (0, 0) (K, I, R, L, sz, ex) Q = ((K x).1 = 110 ∧ wsum st ≤ 8 ∧ X z 91 0 [some (.ref x), some (.int a0), some (.int a1)] [] (0, 0) (K, I, R, L, sz, ex) (aftr (X z) mT 80 20 ls st (0, 0) Q)) := by
  rw [x80_20]
  refine (inv_v (As := [.int a0, .int a1]) (rm := mi80) (ry := mi91) rfl rfl (by decide) rfl rfl (Nat.le_of_ble_eq_true rfl) rfl rfl).trans ?_
  refine congrArg _ ?_
  exact Eq.trans (congrArg _ (and_t (Nat.zero_le _))) (congrArg _ (and_t (Nat.zero_le _)))
theorem v80_35 {z : P0} {ls : Lcs} {st : List Value} {c n : Nat} {K : Nat → Nat × Nat} {I : Nat → Nat → Int32} {R : Nat → Nat → Option Nat} {L : Nat → Nat → Int64} {sz : Nat} {ex : Bool} {Q : Res → Mem → Prop} {x : Nat} {a0 : Nat} {a1 : Nat} : X z 80 35 ls (.ref a1 :: .ref a0 :: .ref x :: st) (0, 0) (K, I, R, L, sz, ex) Q = ((K x).1 = 106 ∧ wsum st ≤ 8 ∧ X z 38 0 [some (.ref x), some (.ref a0), some (.ref a1), none, none] [] (0, 0) (K, I, R, L, sz, ex) (aftr (X z) mT 80 35 ls st (0, 0) Q)) := by
  rw [x80_35]
  refine (inv_v (As := [.ref a0, .ref a1]) (rm := mi80) (ry := mi38) rfl rfl (by decide) rfl rfl (Nat.le_of_ble_eq_true rfl) rfl rfl).trans ?_
  refine congrArg _ ?_
  exact Eq.trans (congrArg _ (and_t (Nat.zero_le _))) (congrArg _ (and_t (Nat.zero_le _)))
theorem v81_8 {z : P0} {ls : Lcs} {st : List Value} {c n : Nat} {K : Nat → Nat × Nat} {I : Nat → Nat → Int32} {R : Nat → Nat → Option Nat} {L : Nat → Nat → Int64} {sz : Nat} {ex : Bool} {Q : Res → Mem → Prop} {x : Nat} {a0 : Nat} : X z 81 8 ls (.ref a0 :: .ref x :: st) (0, 0) (K, I, R, L, sz, ex) Q = ((K x).1 = 106 ∧ wsum st ≤ 8 ∧ X z 39 0 [some (.ref x), some (.ref a0), none] [] (0, 0) (K, I, R, L, sz, ex) (aftr (X z) mT 81 8 ls st (0, 0) Q)) := by
  rw [x81_8]
  refine (inv_v (As := [.ref a0]) (rm := mi81) (ry := mi39) rfl rfl (by decide) rfl rfl (Nat.le_of_ble_eq_true rfl) rfl rfl).trans ?_
  refine congrArg _ ?_
  exact Eq.trans (congrArg _ (and_t (Nat.zero_le _))) (congrArg _ (and_t (Nat.zero_le _)))
theorem v82_2 {z : P0} {ls : Lcs} {st : List Value} {c n : Nat} {K : Nat → Nat × Nat} {I : Nat → Nat → Int32} {R : Nat → Nat → Option Nat} {L : Nat → Nat → Int64} {sz : Nat} {ex : Bool} {Q : Res → Mem → Prop} {x : Nat} {a0 : Int32} : X z 82 2 ls (.int a0 :: .ref x :: st) (0, 0) (K, I, R, L, sz, ex) Q = ((K x).1 = 110 ∧ wsum st ≤ 8 ∧ X z 89 0 [some (.ref x), some (.int a0)] [] (0, 0) (K, I, R, L, sz, ex) (aftr (X z) mT 82 2 ls st (0, 0) Q)) := by
  rw [x82_2]
  refine (inv_v (As := [.int a0]) (rm := mi82) (ry := mi89) rfl rfl (by decide) rfl rfl (Nat.le_of_ble_eq_true rfl) rfl rfl).trans ?_
  refine congrArg _ ?_
  exact Eq.trans (congrArg _ (and_t (Nat.zero_le _))) (congrArg _ (and_t (Nat.zero_le _)))
theorem v82_20 {z : P0} {ls : Lcs} {st : List Value} {c n : Nat} {K : Nat → Nat × Nat} {I : Nat → Nat → Int32} {R : Nat → Nat → Option Nat} {L : Nat → Nat → Int64} {sz : Nat} {ex : Bool} {Q : Res → Mem → Prop} {x : Nat} {a0 : Int32} : X z 82 20 ls (.int a0 :: .ref x :: st) (0, 0) (K, I, R, L, sz, ex) Q = ((K x).1 = 110 ∧ wsum st ≤ 8 ∧ X z 92 0 [some (.ref x), some (.int a0), none] [] (0, 0) (K, I, R, L, sz, ex) (aftr (X z) mT 82 20 ls st (0, 0) Q)) := by
  rw [x82_20]
  refine (inv_v (As := [.int a0]) (rm := mi82) (ry := mi92) rfl rfl (by decide) rfl rfl (Nat.le_of_ble_eq_true rfl) rfl rfl).trans ?_
  refine congrArg _ ?_
  exact Eq.trans (congrArg _ (and_t (Nat.zero_le _))) (congrArg _ (and_t (Nat.zero_le _)))
theorem v83_15 {z : P0} {ls : Lcs} {st : List Value} {c n : Nat} {K : Nat → Nat × Nat} {I : Nat → Nat → Int32} {R : Nat → Nat → Option Nat} {L : Nat → Nat → Int64} {sz : Nat} {ex : Bool} {Q : Res → Mem → Prop} {x : Nat} {a0 : Nat} {a1 : Nat} : X z 83 15 ls (.ref a1 :: .ref a0 :: .ref x :: st) (0, 0) (K, I, R, L, sz, ex) Q = ((K x).1 = 106 ∧ wsum st ≤ 8 ∧ X z 38 0 [some (.ref x), some (.ref a0), some (.ref a1), none, none] [] (0, 0) (K, I, R, L, sz, ex) (aftr (X z) mT 83 15 ls st (0, 0) Q)) := by
  rw [x83_15]
  refine (inv_v (As := [.ref a0, .ref a1]) (rm := mi83) (ry := mi38) rfl rfl (by decide) rfl rfl (Nat.le_of_ble_eq_true rfl) rfl rfl).trans ?_
  refine congrArg _ ?_
  exact Eq.trans (congrArg _ (and_t (Nat.zero_le _))) (congrArg _ (and_t (Nat.zero_le _)))
theorem v83_19 {z : P0} {ls : Lcs} {st : List Value} {c n : Nat} {K : Nat → Nat × Nat} {I : Nat → Nat → Int32} {R : Nat → Nat → Option Nat} {L : Nat → Nat → Int64} {sz : Nat} {ex : Bool} {Q : Res → Mem → Prop} {x : Nat}  : X z 83 19 ls (.ref x :: st) (0, 0) (K, I, R, L, sz, ex) Q = ((K x).1 = 110 ∧ wsum st ≤ 8 ∧ X z 97 0 [some (.ref x)] [] (0, 0) (K, I, R, L, sz, ex) (aftr (X z) mT 83 19 ls st (0, 0) Q)) := by
  rw [x83_19]
  refine (inv_v (As := []) (rm := mi83) (ry := mi97) rfl rfl (by decide) rfl rfl (Nat.le_of_ble_eq_true rfl) rfl rfl).trans ?_
  refine congrArg _ ?_
  exact Eq.trans (congrArg _ (and_t (Nat.zero_le _))) (congrArg _ (and_t (Nat.zero_le _)))
theorem v84_15 {z : P0} {ls : Lcs} {st : List Value} {c n : Nat} {K : Nat → Nat × Nat} {I : Nat → Nat → Int32} {R : Nat → Nat → Option Nat} {L : Nat → Nat → Int64} {sz : Nat} {ex : Bool} {Q : Res → Mem → Prop} {x : Nat} {a0 : Nat} {a1 : Nat} : X z 84 15 ls (.ref a1 :: .ref a0 :: .ref x :: st) (0, 0) (K, I, R, L, sz, ex) Q = ((K x).1 = 106 ∧ wsum st ≤ 8 ∧ X z 38 0 [some (.ref x), some (.ref a0), some (.ref a1), none, none] [] (0, 0) (K, I, R, L, sz, ex) (aftr (X z) mT 84 15 ls st (0, 0) Q)) := by
  rw [x84_15]
  refine (inv_v (As := [.ref a0, .ref a1]) (rm := mi84) (ry := mi38) rfl rfl (by decide) rfl rfl (Nat.le_of_ble_eq_true rfl) rfl rfl).trans ?_
  refine congrArg _ ?_
  exact Eq.trans (congrArg _ (and_t (Nat.zero_le _))) (congrArg _ (and_t (Nat.zero_le _)))
theorem v84_33 {z : P0} {ls : Lcs} {st : List Value} {c n : Nat} {K : Nat → Nat × Nat} {I : Nat → Nat → Int32} {R : Nat → Nat → Option Nat} {L : Nat → Nat → Int64} {sz : Nat} {ex : Bool} {Q : Res → Mem → Prop} {x : Nat} {a0 : Int32} : X z 84 33 ls (.int a0 :: .ref x :: st) (0, 0) (K, I, R, L, sz, ex) Q = ((K x).1 = 110 ∧ wsum st ≤ 8 ∧ X z 96 0 [some (.ref x), some (.int a0)] [] (0, 0) (K, I, R, L, sz, ex) (aftr (X z) mT 84 33 ls st (0, 0) Q)) := by
  rw [x84_33]
  refine (inv_v (As := [.int a0]) (rm := mi84) (ry := mi96) rfl rfl (by decide) rfl rfl (Nat.le_of_ble_eq_true rfl) rfl rfl).trans ?_
  refine congrArg _ ?_
  exact Eq.trans (congrArg _ (and_t (Nat.zero_le _))) (congrArg _ (and_t (Nat.zero_le _)))
theorem v84_37 {z : P0} {ls : Lcs} {st : List Value} {c n : Nat} {K : Nat → Nat × Nat} {I : Nat → Nat → Int32} {R : Nat → Nat → Option Nat} {L : Nat → Nat → Int64} {sz : Nat} {ex : Bool} {Q : Res → Mem → Prop}  {a0 : Int64} {a1 : Int64} : X z 84 37 ls (.long a1 :: .long a0 :: st) (0, 0) (K, I, R, L, sz, ex) Q = (wsum st ≤ 8 ∧ X z 99 0 [some (.long a0), none, some (.long a1), none] [] (0, 0) (K, I, R, L, sz, ex) (aftr (X z) mT 84 37 ls st (0, 0) Q)) := by
  rw [x84_37]
  refine (inv_s (As := [.long a0, .long a1]) (rm := mi84) (ry := mi99) rfl rfl (by decide) rfl rfl (Nat.le_of_ble_eq_true rfl) rfl (by decide) (by decide)).trans ?_
  exact Eq.trans (congrArg _ (and_t (Nat.zero_le _))) (congrArg _ (and_t (Nat.zero_le _)))
theorem v84_66 {z : P0} {ls : Lcs} {st : List Value} {c n : Nat} {K : Nat → Nat × Nat} {I : Nat → Nat → Int32} {R : Nat → Nat → Option Nat} {L : Nat → Nat → Int64} {sz : Nat} {ex : Bool} {Q : Res → Mem → Prop}  {a0 : Int64} {a1 : Int64} : X z 84 66 ls (.long a1 :: .long a0 :: st) (0, 0) (K, I, R, L, sz, ex) Q = (wsum st ≤ 8 ∧ X z 99 0 [some (.long a0), none, some (.long a1), none] [] (0, 0) (K, I, R, L, sz, ex) (aftr (X z) mT 84 66 ls st (0, 0) Q)) := by
  rw [x84_66]
  refine (inv_s (As := [.long a0, .long a1]) (rm := mi84) (ry := mi99) rfl rfl (by decide) rfl rfl (Nat.le_of_ble_eq_true rfl) rfl (by decide) (by decide)).trans ?_
  exact Eq.trans (congrArg _ (and_t (Nat.zero_le _))) (congrArg _ (and_t (Nat.zero_le _)))
theorem v84_78 {z : P0} {ls : Lcs} {st : List Value} {c n : Nat} {K : Nat → Nat × Nat} {I : Nat → Nat → Int32} {R : Nat → Nat → Option Nat} {L : Nat → Nat → Int64} {sz : Nat} {ex : Bool} {Q : Res → Mem → Prop} {x : Nat} {a0 : Int64} : X z 84 78 ls (.long a0 :: .ref x :: st) (0, 0) (K, I, R, L, sz, ex) Q = ((K x).1 = 110 ∧ wsum st ≤ 8 ∧ X z 101 0 [some (.ref x), some (.long a0), none, none, none, none, none] [] (0, 0) (K, I, R, L, sz, ex) (aftr (X z) mT 84 78 ls st (0, 0) Q)) := by
  rw [x84_78]
  refine (inv_v (As := [.long a0]) (rm := mi84) (ry := mi101) rfl rfl (by decide) rfl rfl (Nat.le_of_ble_eq_true rfl) rfl rfl).trans ?_
  refine congrArg _ ?_
  exact Eq.trans (congrArg _ (and_t (Nat.zero_le _))) (congrArg _ (and_t (Nat.zero_le _)))
theorem v84_84 {z : P0} {ls : Lcs} {st : List Value} {c n : Nat} {K : Nat → Nat × Nat} {I : Nat → Nat → Int32} {R : Nat → Nat → Option Nat} {L : Nat → Nat → Int64} {sz : Nat} {ex : Bool} {Q : Res → Mem → Prop} {x : Nat} {a0 : Int64} : X z 84 84 ls (.long a0 :: .ref x :: st) (0, 0) (K, I, R, L, sz, ex) Q = ((K x).1 = 110 ∧ wsum st ≤ 8 ∧ X z 102 0 [some (.ref x), some (.long a0), none, none, none, none, none] [] (0, 0) (K, I, R, L, sz, ex) (aftr (X z) mT 84 84 ls st (0, 0) Q)) := by
  rw [x84_84]
  refine (inv_v (As := [.long a0]) (rm := mi84) (ry := mi102) rfl rfl (by decide) rfl rfl (Nat.le_of_ble_eq_true rfl) rfl rfl).trans ?_
  refine congrArg _ ?_
  exact Eq.trans (congrArg _ (and_t (Nat.zero_le _))) (congrArg _ (and_t (Nat.zero_le _)))
theorem v84_90 {z : P0} {ls : Lcs} {st : List Value} {c n : Nat} {K : Nat → Nat × Nat} {I : Nat → Nat → Int32} {R : Nat → Nat → Option Nat} {L : Nat → Nat → Int64} {sz : Nat} {ex : Bool} {Q : Res → Mem → Prop} {x : Nat} {a0 : Int64} : X z 84 90 ls (.long a0 :: .ref x :: st) (0, 0) (K, I, R, L, sz, ex) Q = ((K x).1 = 110 ∧ wsum st ≤ 8 ∧ X z 103 0 [some (.ref x), some (.long a0), none, none, none, none, none] [] (0, 0) (K, I, R, L, sz, ex) (aftr (X z) mT 84 90 ls st (0, 0) Q)) := by
  rw [x84_90]
  refine (inv_v (As := [.long a0]) (rm := mi84) (ry := mi103) rfl rfl (by decide) rfl rfl (Nat.le_of_ble_eq_true rfl) rfl rfl).trans ?_
  refine congrArg _ ?_
  exact Eq.trans (congrArg _ (and_t (Nat.zero_le _))) (congrArg _ (and_t (Nat.zero_le _)))
theorem v84_96 {z : P0} {ls : Lcs} {st : List Value} {c n : Nat} {K : Nat → Nat × Nat} {I : Nat → Nat → Int32} {R : Nat → Nat → Option Nat} {L : Nat → Nat → Int64} {sz : Nat} {ex : Bool} {Q : Res → Mem → Prop} {x : Nat}  : X z 84 96 ls (.ref x :: st) (0, 0) (K, I, R, L, sz, ex) Q = ((K x).1 = 110 ∧ wsum st ≤ 8 ∧ X z 80 0 [some (.ref x), none, none, none, none, none, none] [] (0, 0) (K, I, R, L, sz, ex) (aftr (X z) mT 84 96 ls st (0, 0) Q)) := by
  rw [x84_96]
  refine (inv_v (As := []) (rm := mi84) (ry := mi80) rfl rfl (by decide) rfl rfl (Nat.le_of_ble_eq_true rfl) rfl rfl).trans ?_
  refine congrArg _ ?_
  exact Eq.trans (congrArg _ (and_t (Nat.zero_le _))) (congrArg _ (and_t (Nat.zero_le _)))
theorem v84_100 {z : P0} {ls : Lcs} {st : List Value} {c n : Nat} {K : Nat → Nat × Nat} {I : Nat → Nat → Int32} {R : Nat → Nat → Option Nat} {L : Nat → Nat → Int64} {sz : Nat} {ex : Bool} {Q : Res → Mem → Prop}  {a0 : Int64} {a1 : Int64} : X z 84 100 ls (.long a1 :: .long a0 :: st) (0, 0) (K, I, R, L, sz, ex) Q = (wsum st ≤ 8 ∧ X z 99 0 [some (.long a0), none, some (.long a1), none] [] (0, 0) (K, I, R, L, sz, ex) (aftr (X z) mT 84 100 ls st (0, 0) Q)) := by
  rw [x84_100]
  refine (inv_s (As := [.long a0, .long a1]) (rm := mi84) (ry := mi99) rfl rfl (by decide) rfl rfl (Nat.le_of_ble_eq_true rfl) rfl (by decide) (by decide)).trans ?_
  exact Eq.trans (congrArg _ (and_t (Nat.zero_le _))) (congrArg _ (and_t (Nat.zero_le _)))
theorem v84_106 {z : P0} {ls : Lcs} {st : List Value} {c n : Nat} {K : Nat → Nat × Nat} {I : Nat → Nat → Int32} {R : Nat → Nat → Option Nat} {L : Nat → Nat → Int64} {sz : Nat} {ex : Bool} {Q : Res → Mem → Prop} {x : Nat}  : X z 84 106 ls (.ref x :: st) (0, 0) (K, I, R, L, sz, ex) Q = ((K x).1 = 110 ∧ wsum st ≤ 8 ∧ X z 81 0 [some (.ref x)] [] (0, 0) (K, I, R, L, sz, ex) (aftr (X z) mT 84 106 ls st (0, 0) Q)) := by
  rw [x84_106]
  refine (inv_v (As := []) (rm := mi84) (ry := mi81) rfl rfl (by decide) rfl rfl (Nat.le_of_ble_eq_true rfl) rfl rfl).trans ?_
  refine congrArg _ ?_
  exact Eq.trans (congrArg _ (and_t (Nat.zero_le _))) (congrArg _ (and_t (Nat.zero_le _)))
theorem v84_110 {z : P0} {ls : Lcs} {st : List Value} {c n : Nat} {K : Nat → Nat × Nat} {I : Nat → Nat → Int32} {R : Nat → Nat → Option Nat} {L : Nat → Nat → Int64} {sz : Nat} {ex : Bool} {Q : Res → Mem → Prop}  {a0 : Int64} {a1 : Int64} : X z 84 110 ls (.long a1 :: .long a0 :: st) (0, 0) (K, I, R, L, sz, ex) Q = (wsum st ≤ 8 ∧ X z 99 0 [some (.long a0), none, some (.long a1), none] [] (0, 0) (K, I, R, L, sz, ex) (aftr (X z) mT 84 110 ls st (0, 0) Q)) := by
  rw [x84_110]
  refine (inv_s (As := [.long a0, .long a1]) (rm := mi84) (ry := mi99) rfl rfl (by decide) rfl rfl (Nat.le_of_ble_eq_true rfl) rfl (by decide) (by decide)).trans ?_
  exact Eq.trans (congrArg _ (and_t (Nat.zero_le _))) (congrArg _ (and_t (Nat.zero_le _)))
theorem v84_116 {z : P0} {ls : Lcs} {st : List Value} {c n : Nat} {K : Nat → Nat × Nat} {I : Nat → Nat → Int32} {R : Nat → Nat → Option Nat} {L : Nat → Nat → Int64} {sz : Nat} {ex : Bool} {Q : Res → Mem → Prop} {x : Nat}  : X z 84 116 ls (.ref x :: st) (0, 0) (K, I, R, L, sz, ex) Q = ((K x).1 = 110 ∧ wsum st ≤ 8 ∧ X z 97 0 [some (.ref x)] [] (0, 0) (K, I, R, L, sz, ex) (aftr (X z) mT 84 116 ls st (0, 0) Q)) := by
  rw [x84_116]
  refine (inv_v (As := []) (rm := mi84) (ry := mi97) rfl rfl (by decide) rfl rfl (Nat.le_of_ble_eq_true rfl) rfl rfl).trans ?_
  refine congrArg _ ?_
  exact Eq.trans (congrArg _ (and_t (Nat.zero_le _))) (congrArg _ (and_t (Nat.zero_le _)))
theorem v84_119 {z : P0} {ls : Lcs} {st : List Value} {c n : Nat} {K : Nat → Nat × Nat} {I : Nat → Nat → Int32} {R : Nat → Nat → Option Nat} {L : Nat → Nat → Int64} {sz : Nat} {ex : Bool} {Q : Res → Mem → Prop}  {a0 : UInt64} : X z 84 119 ls (.double a0 :: st) (0, 0) (K, I, R, L, sz, ex) Q = (wsum st ≤ 8 ∧ X z 98 0 [some (.double a0), none, none, none, none, none, none, none] [] (0, 0) (K, I, R, L, sz, ex) (aftr (X z) mT 84 119 ls st (0, 0) Q)) := by
  rw [x84_119]
  refine (inv_s (As := [.double a0]) (rm := mi84) (ry := mi98) rfl rfl (by decide) rfl rfl (Nat.le_of_ble_eq_true rfl) rfl (by decide) (by decide)).trans ?_
  exact Eq.trans (congrArg _ (and_t (Nat.zero_le _))) (congrArg _ (and_t (Nat.zero_le _)))
theorem v84_122 {z : P0} {ls : Lcs} {st : List Value} {c n : Nat} {K : Nat → Nat × Nat} {I : Nat → Nat → Int32} {R : Nat → Nat → Option Nat} {L : Nat → Nat → Int64} {sz : Nat} {ex : Bool} {Q : Res → Mem → Prop}  {a0 : Int64} {a1 : Int64} : X z 84 122 ls (.long a1 :: .long a0 :: st) (0, 0) (K, I, R, L, sz, ex) Q = (wsum st ≤ 8 ∧ X z 99 0 [some (.long a0), none, some (.long a1), none] [] (0, 0) (K, I, R, L, sz, ex) (aftr (X z) mT 84 122 ls st (0, 0) Q)) := by
  rw [x84_122]
  refine (inv_s (As := [.long a0, .long a1]) (rm := mi84) (ry := mi99) rfl rfl (by decide) rfl rfl (Nat.le_of_ble_eq_true rfl) rfl (by decide) (by decide)).trans ?_
  exact Eq.trans (congrArg _ (and_t (Nat.zero_le _))) (congrArg _ (and_t (Nat.zero_le _)))
theorem v84_135 {z : P0} {ls : Lcs} {st : List Value} {c n : Nat} {K : Nat → Nat × Nat} {I : Nat → Nat → Int32} {R : Nat → Nat → Option Nat} {L : Nat → Nat → Int64} {sz : Nat} {ex : Bool} {Q : Res → Mem → Prop}  {a0 : Int64} {a1 : Int64} : X z 84 135 ls (.long a1 :: .long a0 :: st) (0, 0) (K, I, R, L, sz, ex) Q = (wsum st ≤ 8 ∧ X z 99 0 [some (.long a0), none, some (.long a1), none] [] (0, 0) (K, I, R, L, sz, ex) (aftr (X z) mT 84 135 ls st (0, 0) Q)) := by
  rw [x84_135]
  refine (inv_s (As := [.long a0, .long a1]) (rm := mi84) (ry := mi99) rfl rfl (by decide) rfl rfl (Nat.le_of_ble_eq_true rfl) rfl (by decide) (by decide)).trans ?_
  exact Eq.trans (congrArg _ (and_t (Nat.zero_le _))) (congrArg _ (and_t (Nat.zero_le _)))
theorem v84_154 {z : P0} {ls : Lcs} {st : List Value} {c n : Nat} {K : Nat → Nat × Nat} {I : Nat → Nat → Int32} {R : Nat → Nat → Option Nat} {L : Nat → Nat → Int64} {sz : Nat} {ex : Bool} {Q : Res → Mem → Prop}  {a0 : Int64} {a1 : Nat} {a2 : Int32} : X z 84 154 ls (.int a2 :: .ref a1 :: .long a0 :: st) (0, 0) (K, I, R, L, sz, ex) Q = (wsum st ≤ 8 ∧ X z 100 0 [some (.long a0), none, some (.ref a1), some (.int a2), none, none, none] [] (0, 0) (K, I, R, L, sz, ex) (aftr (X z) mT 84 154 ls st (0, 0) Q)) := by
  rw [x84_154]
  refine (inv_s (As := [.long a0, .ref a1, .int a2]) (rm := mi84) (ry := mi100) rfl rfl (by decide) rfl rfl (Nat.le_of_ble_eq_true rfl) rfl (by decide) (by decide)).trans ?_
  exact Eq.trans (congrArg _ (and_t (Nat.zero_le _))) (congrArg _ (and_t (Nat.zero_le _)))
theorem v92_39 {z : P0} {ls : Lcs} {st : List Value} {c n : Nat} {K : Nat → Nat × Nat} {I : Nat → Nat → Int32} {R : Nat → Nat → Option Nat} {L : Nat → Nat → Int64} {sz : Nat} {ex : Bool} {Q : Res → Mem → Prop} {x : Nat} {a0 : Int32} {a1 : Nat} {a2 : Int32} : X z 92 39 ls (.int a2 :: .ref a1 :: .int a0 :: .ref x :: st) (0, 0) (K, I, R, L, sz, ex) Q = ((K x).1 = 108 ∧ wsum st ≤ 8 ∧ X z 49 0 [some (.ref x), some (.int a0), some (.ref a1), some (.int a2)] [] (0, 0) (K, I, R, L, sz, ex) (aftr (X z) mT 92 39 ls st (0, 0) Q)) := by
  rw [x92_39]
  refine (inv_v (As := [.int a0, .ref a1, .int a2]) (rm := mi92) (ry := mi49) rfl rfl (by decide) rfl rfl (Nat.le_of_ble_eq_true rfl) rfl rfl).trans ?_
  refine congrArg _ ?_
  exact Eq.trans (congrArg _ (and_t (Nat.zero_le _))) (congrArg _ (and_t (Nat.zero_le _)))
theorem v94_59 {z : P0} {ls : Lcs} {st : List Value} {c n : Nat} {K : Nat → Nat × Nat} {I : Nat → Nat → Int32} {R : Nat → Nat → Option Nat} {L : Nat → Nat → Int64} {sz : Nat} {ex : Bool} {Q : Res → Mem → Prop} {x : Nat} {a0 : Int32} : X z 94 59 ls (.int a0 :: .ref x :: st) (0, 0) (K, I, R, L, sz, ex) Q = ((K x).1 = 108 ∧ wsum st ≤ 8 ∧ X z 51 0 [some (.ref x), some (.int a0), none, none] [] (0, 0) (K, I, R, L, sz, ex) (aftr (X z) mT 94 59 ls st (0, 0) Q)) := by
  rw [x94_59]
  refine (inv_v (As := [.int a0]) (rm := mi94) (ry := mi51) rfl rfl (by decide) rfl rfl (Nat.le_of_ble_eq_true rfl) rfl rfl).trans ?_
  refine congrArg _ ?_
  exact Eq.trans (congrArg _ (and_t (Nat.zero_le _))) (congrArg _ (and_t (Nat.zero_le _)))
theorem v94_64 {z : P0} {ls : Lcs} {st : List Value} {c n : Nat} {K : Nat → Nat × Nat} {I : Nat → Nat → Int32} {R : Nat → Nat → Option Nat} {L : Nat → Nat → Int64} {sz : Nat} {ex : Bool} {Q : Res → Mem → Prop} {x : Nat}  : X z 94 64 ls (.ref x :: st) (0, 0) (K, I, R, L, sz, ex) Q = ((K x).1 = 109 ∧ wsum st ≤ 8 ∧ X z 56 0 [some (.ref x), none, none] [] (0, 0) (K, I, R, L, sz, ex) (aftr (X z) mT 94 64 ls st (0, 0) Q)) := by
  rw [x94_64]
  refine (inv_v (As := []) (rm := mi94) (ry := mi56) rfl rfl (by decide) rfl rfl (Nat.le_of_ble_eq_true rfl) rfl rfl).trans ?_
  refine congrArg _ ?_
  exact Eq.trans (congrArg _ (and_t (Nat.zero_le _))) (congrArg _ (and_t (Nat.zero_le _)))
theorem v94_67 {z : P0} {ls : Lcs} {st : List Value} {c n : Nat} {K : Nat → Nat × Nat} {I : Nat → Nat → Int32} {R : Nat → Nat → Option Nat} {L : Nat → Nat → Int64} {sz : Nat} {ex : Bool} {Q : Res → Mem → Prop} {x : Nat}  : X z 94 67 ls (.ref x :: st) (0, 0) (K, I, R, L, sz, ex) Q = ((K x).1 = 52 ∧ wsum st ≤ 8 ∧ X z 185 0 [some (.ref x)] [] (0, 0) (K, I, R, L, sz, ex) (aftr (X z) mT 94 67 ls st (0, 0) Q)) := by
  rw [x94_67]
  refine (inv_v (As := []) (rm := mi94) (ry := mi185) rfl rfl (by decide) rfl rfl (Nat.le_of_ble_eq_true rfl) rfl rfl).trans ?_
  refine congrArg _ ?_
  exact Eq.trans (congrArg _ (and_t (Nat.zero_le _))) (congrArg _ (and_t (Nat.zero_le _)))
theorem v96_95 {z : P0} {ls : Lcs} {st : List Value} {c n : Nat} {K : Nat → Nat × Nat} {I : Nat → Nat → Int32} {R : Nat → Nat → Option Nat} {L : Nat → Nat → Int64} {sz : Nat} {ex : Bool} {Q : Res → Mem → Prop} {x : Nat}  : X z 96 95 ls (.ref x :: st) (0, 0) (K, I, R, L, sz, ex) Q = ((K x).1 = 104 ∧ wsum st ≤ 8 ∧ X z 29 0 [some (.ref x), none, none] [] (0, 0) (K, I, R, L, sz, ex) (aftr (X z) mT 96 95 ls st (0, 0) Q)) := by
  rw [x96_95]
  refine (inv_v (As := []) (rm := mi96) (ry := mi29) rfl rfl (by decide) rfl rfl (Nat.le_of_ble_eq_true rfl) rfl rfl).trans ?_
  refine congrArg _ ?_
  exact Eq.trans (congrArg _ (and_t (Nat.zero_le _))) (congrArg _ (and_t (Nat.zero_le _)))
theorem v96_175 {z : P0} {ls : Lcs} {st : List Value} {c n : Nat} {K : Nat → Nat × Nat} {I : Nat → Nat → Int32} {R : Nat → Nat → Option Nat} {L : Nat → Nat → Int64} {sz : Nat} {ex : Bool} {Q : Res → Mem → Prop} {x : Nat}  : X z 96 175 ls (.ref x :: st) (0, 0) (K, I, R, L, sz, ex) Q = ((K x).1 = 108 ∧ wsum st ≤ 8 ∧ X z 50 0 [some (.ref x), none, none] [] (0, 0) (K, I, R, L, sz, ex) (aftr (X z) mT 96 175 ls st (0, 0) Q)) := by
  rw [x96_175]
  refine (inv_v (As := []) (rm := mi96) (ry := mi50) rfl rfl (by decide) rfl rfl (Nat.le_of_ble_eq_true rfl) rfl rfl).trans ?_
  refine congrArg _ ?_
  exact Eq.trans (congrArg _ (and_t (Nat.zero_le _))) (congrArg _ (and_t (Nat.zero_le _)))
theorem v96_186 {z : P0} {ls : Lcs} {st : List Value} {c n : Nat} {K : Nat → Nat × Nat} {I : Nat → Nat → Int32} {R : Nat → Nat → Option Nat} {L : Nat → Nat → Int64} {sz : Nat} {ex : Bool} {Q : Res → Mem → Prop} {x : Nat}  : X z 96 186 ls (.ref x :: st) (0, 0) (K, I, R, L, sz, ex) Q = ((K x).1 = 104 ∧ wsum st ≤ 8 ∧ X z 30 0 [some (.ref x), none, none] [] (0, 0) (K, I, R, L, sz, ex) (aftr (X z) mT 96 186 ls st (0, 0) Q)) := by
  rw [x96_186]
  refine (inv_v (As := []) (rm := mi96) (ry := mi30) rfl rfl (by decide) rfl rfl (Nat.le_of_ble_eq_true rfl) rfl rfl).trans ?_
  refine congrArg _ ?_
  exact Eq.trans (congrArg _ (and_t (Nat.zero_le _))) (congrArg _ (and_t (Nat.zero_le _)))
theorem v100_26 {z : P0} {ls : Lcs} {st : List Value} {c n : Nat} {K : Nat → Nat × Nat} {I : Nat → Nat → Int32} {R : Nat → Nat → Option Nat} {L : Nat → Nat → Int64} {sz : Nat} {ex : Bool} {Q : Res → Mem → Prop}  {a0 : Int64} {a1 : Int64} : X z 100 26 ls (.long a1 :: .long a0 :: st) (0, 0) (K, I, R, L, sz, ex) Q = (wsum st ≤ 8 ∧ X z 99 0 [some (.long a0), none, some (.long a1), none] [] (0, 0) (K, I, R, L, sz, ex) (aftr (X z) mT 100 26 ls st (0, 0) Q)) := by
  rw [x100_26]
  refine (inv_s (As := [.long a0, .long a1]) (rm := mi100) (ry := mi99) rfl rfl (by decide) rfl rfl (Nat.le_of_ble_eq_true rfl) rfl (by decide) (by decide)).trans ?_
  exact Eq.trans (congrArg _ (and_t (Nat.zero_le _))) (congrArg _ (and_t (Nat.zero_le _)))
theorem v101_33 {z : P0} {ls : Lcs} {st : List Value} {c n : Nat} {K : Nat → Nat × Nat} {I : Nat → Nat → Int32} {R : Nat → Nat → Option Nat} {L : Nat → Nat → Int64} {sz : Nat} {ex : Bool} {Q : Res → Mem → Prop} {x : Nat} {a0 : Int32} {a1 : Int32} : X z 101 33 ls (.int a1 :: .int a0 :: .ref x :: st) (0, 0) (K, I, R, L, sz, ex) Q = ((K x).1 = 110 ∧ wsum st ≤ 8 ∧ X z 93 0 [some (.ref x), some (.int a0), some (.int a1), none] [] (0, 0) (K, I, R, L, sz, ex) (aftr (X z) mT 101 33 ls st (0, 0) Q)) := by
  rw [x101_33]
  refine (inv_v (As := [.int a0, .int a1]) (rm := mi101) (ry := mi93) rfl rfl (by decide) rfl rfl (Nat.le_of_ble_eq_true rfl) rfl rfl).trans ?_
  refine congrArg _ ?_
  exact Eq.trans (congrArg _ (and_t (Nat.zero_le _))) (congrArg _ (and_t (Nat.zero_le _)))
theorem v101_37 {z : P0} {ls : Lcs} {st : List Value} {c n : Nat} {K : Nat → Nat × Nat} {I : Nat → Nat → Int32} {R : Nat → Nat → Option Nat} {L : Nat → Nat → Int64} {sz : Nat} {ex : Bool} {Q : Res → Mem → Prop}  {a0 : Int64} {a1 : Int64} : X z 101 37 ls (.long a1 :: .long a0 :: st) (0, 0) (K, I, R, L, sz, ex) Q = (wsum st ≤ 8 ∧ X z 99 0 [some (.long a0), none, some (.long a1), none] [] (0, 0) (K, I, R, L, sz, ex) (aftr (X z) mT 101 37 ls st (0, 0) Q)) := by
  rw [x101_37]
  refine (inv_s (As := [.long a0, .long a1]) (rm := mi101) (ry := mi99) rfl rfl (by decide) rfl rfl (Nat.le_of_ble_eq_true rfl) rfl (by decide) (by decide)).trans ?_
  exact Eq.trans (congrArg _ (and_t (Nat.zero_le _))) (congrArg _ (and_t (Nat.zero_le _)))
theorem v101_74 {z : P0} {ls : Lcs} {st : List Value} {c n : Nat} {K : Nat → Nat × Nat} {I : Nat → Nat → Int32} {R : Nat → Nat → Option Nat} {L : Nat → Nat → Int64} {sz : Nat} {ex : Bool} {Q : Res → Mem → Prop}  {a0 : Int64} {a1 : Nat} {a2 : Int32} : X z 101 74 ls (.int a2 :: .ref a1 :: .long a0 :: st) (0, 0) (K, I, R, L, sz, ex) Q = (wsum st ≤ 8 ∧ X z 100 0 [some (.long a0), none, some (.ref a1), some (.int a2), none, none, none] [] (0, 0) (K, I, R, L, sz, ex) (aftr (X z) mT 101 74 ls st (0, 0) Q)) := by
  rw [x101_74]
  refine (inv_s (As := [.long a0, .ref a1, .int a2]) (rm := mi101) (ry := mi100) rfl rfl (by decide) rfl rfl (Nat.le_of_ble_eq_true rfl) rfl (by decide) (by decide)).trans ?_
  exact Eq.trans (congrArg _ (and_t (Nat.zero_le _))) (congrArg _ (and_t (Nat.zero_le _)))
theorem v101_82 {z : P0} {ls : Lcs} {st : List Value} {c n : Nat} {K : Nat → Nat × Nat} {I : Nat → Nat → Int32} {R : Nat → Nat → Option Nat} {L : Nat → Nat → Int64} {sz : Nat} {ex : Bool} {Q : Res → Mem → Prop} {x : Nat} {a0 : Int32} : X z 101 82 ls (.int a0 :: .ref x :: st) (0, 0) (K, I, R, L, sz, ex) Q = ((K x).1 = 110 ∧ wsum st ≤ 8 ∧ X z 92 0 [some (.ref x), some (.int a0), none] [] (0, 0) (K, I, R, L, sz, ex) (aftr (X z) mT 101 82 ls st (0, 0) Q)) := by
  rw [x101_82]
  refine (inv_v (As := [.int a0]) (rm := mi101) (ry := mi92) rfl rfl (by decide) rfl rfl (Nat.le_of_ble_eq_true rfl) rfl rfl).trans ?_
  refine congrArg _ ?_
  exact Eq.trans (congrArg _ (and_t (Nat.zero_le _))) (congrArg _ (and_t (Nat.zero_le _)))
theorem v101_86 {z : P0} {ls : Lcs} {st : List Value} {c n : Nat} {K : Nat → Nat × Nat} {I : Nat → Nat → Int32} {R : Nat → Nat → Option Nat} {L : Nat → Nat → Int64} {sz : Nat} {ex : Bool} {Q : Res → Mem → Prop}  {a0 : Int64} {a1 : Int64} : X z 101 86 ls (.long a1 :: .long a0 :: st) (0, 0) (K, I, R, L, sz, ex) Q = (wsum st ≤ 8 ∧ X z 99 0 [some (.long a0), none, some (.long a1), none] [] (0, 0) (K, I, R, L, sz, ex) (aftr (X z) mT 101 86 ls st (0, 0) Q)) := by
  rw [x101_86]
  refine (inv_s (As := [.long a0, .long a1]) (rm := mi101) (ry := mi99) rfl rfl (by decide) rfl rfl (Nat.le_of_ble_eq_true rfl) rfl (by decide) (by decide)).trans ?_
  exact Eq.trans (congrArg _ (and_t (Nat.zero_le _))) (congrArg _ (and_t (Nat.zero_le _)))
theorem v102_32 {z : P0} {ls : Lcs} {st : List Value} {c n : Nat} {K : Nat → Nat × Nat} {I : Nat → Nat → Int32} {R : Nat → Nat → Option Nat} {L : Nat → Nat → Int64} {sz : Nat} {ex : Bool} {Q : Res → Mem → Prop} {x : Nat} {a0 : Int32} {a1 : Int32} : X z 102 32 ls (.int a1 :: .int a0 :: .ref x :: st) (0, 0) (K, I, R, L, sz, ex) Q = ((K x).1 = 110 ∧ wsum st ≤ 8 ∧ X z 94 0 [some (.ref x), some (.int a0), some (.int a1), none] [] (0, 0) (K, I, R, L, sz, ex) (aftr (X z) mT 102 32 ls st (0, 0) Q)) := by
  rw [x102_32]
  refine (inv_v (As := [.int a0, .int a1]) (rm := mi102) (ry := mi94) rfl rfl (by decide) rfl rfl (Nat.le_of_ble_eq_true rfl) rfl rfl).trans ?_
  refine congrArg _ ?_
  exact Eq.trans (congrArg _ (and_t (Nat.zero_le _))) (congrArg _ (and_t (Nat.zero_le _)))
theorem v102_36 {z : P0} {ls : Lcs} {st : List Value} {c n : Nat} {K : Nat → Nat × Nat} {I : Nat → Nat → Int32} {R : Nat → Nat → Option Nat} {L : Nat → Nat → Int64} {sz : Nat} {ex : Bool} {Q : Res → Mem → Prop}  {a0 : Int64} {a1 : Int64} : X z 102 36 ls (.long a1 :: .long a0 :: st) (0, 0) (K, I, R, L, sz, ex) Q = (wsum st ≤ 8 ∧ X z 99 0 [some (.long a0), none, some (.long a1), none] [] (0, 0) (K, I, R, L, sz, ex) (aftr (X z) mT 102 36 ls st (0, 0) Q)) := by
  rw [x102_36]
  refine (inv_s (As := [.long a0, .long a1]) (rm := mi102) (ry := mi99) rfl rfl (by decide) rfl rfl (Nat.le_of_ble_eq_true rfl) rfl (by decide) (by decide)).trans ?_
  exact Eq.trans (congrArg _ (and_t (Nat.zero_le _))) (congrArg _ (and_t (Nat.zero_le _)))
theorem v102_69 {z : P0} {ls : Lcs} {st : List Value} {c n : Nat} {K : Nat → Nat × Nat} {I : Nat → Nat → Int32} {R : Nat → Nat → Option Nat} {L : Nat → Nat → Int64} {sz : Nat} {ex : Bool} {Q : Res → Mem → Prop} {x : Nat} {a0 : Int32} : X z 102 69 ls (.int a0 :: .ref x :: st) (0, 0) (K, I, R, L, sz, ex) Q = ((K x).1 = 109 ∧ wsum st ≤ 8 ∧ X z 55 0 [some (.ref x), some (.int a0)] [] (0, 0) (K, I, R, L, sz, ex) (aftr (X z) mT 102 69 ls st (0, 0) Q)) := by
  rw [x102_69]
  refine (inv_v (As := [.int a0]) (rm := mi102) (ry := mi55) rfl rfl (by decide) rfl rfl (Nat.le_of_ble_eq_true rfl) rfl rfl).trans ?_
  refine congrArg _ ?_
  exact Eq.trans (congrArg _ (and_t (Nat.zero_le _))) (congrArg _ (and_t (Nat.zero_le _)))
theorem v102_73 {z : P0} {ls : Lcs} {st : List Value} {c n : Nat} {K : Nat → Nat × Nat} {I : Nat → Nat → Int32} {R : Nat → Nat → Option Nat} {L : Nat → Nat → Int64} {sz : Nat} {ex : Bool} {Q : Res → Mem → Prop}  {a0 : Int64} {a1 : Int64} : X z 102 73 ls (.long a1 :: .long a0 :: st) (0, 0) (K, I, R, L, sz, ex) Q = (wsum st ≤ 8 ∧ X z 99 0 [some (.long a0), none, some (.long a1), none] [] (0, 0) (K, I, R, L, sz, ex) (aftr (X z) mT 102 73 ls st (0, 0) Q)) := by
  rw [x102_73]
  refine (inv_s (As := [.long a0, .long a1]) (rm := mi102) (ry := mi99) rfl rfl (by decide) rfl rfl (Nat.le_of_ble_eq_true rfl) rfl (by decide) (by decide)).trans ?_
  exact Eq.trans (congrArg _ (and_t (Nat.zero_le _))) (congrArg _ (and_t (Nat.zero_le _)))
theorem v103_33 {z : P0} {ls : Lcs} {st : List Value} {c n : Nat} {K : Nat → Nat × Nat} {I : Nat → Nat → Int32} {R : Nat → Nat → Option Nat} {L : Nat → Nat → Int64} {sz : Nat} {ex : Bool} {Q : Res → Mem → Prop} {x : Nat} {a0 : Int32} {a1 : Int32} : X z 103 33 ls (.int a1 :: .int a0 :: .ref x :: st) (0, 0) (K, I, R, L, sz, ex) Q = ((K x).1 = 110 ∧ wsum st ≤ 8 ∧ X z 95 0 [some (.ref x), some (.int a0), some (.int a1), none] [] (0, 0) (K, I, R, L, sz, ex) (aftr (X z) mT 103 33 ls st (0, 0) Q)) := by
  rw [x103_33]
  refine (inv_v (As := [.int a0, .int a1]) (rm := mi103) (ry := mi95) rfl rfl (by decide) rfl rfl (Nat.le_of_ble_eq_true rfl) rfl rfl).trans ?_
  refine congrArg _ ?_
  exact Eq.trans (congrArg _ (and_t (Nat.zero_le _))) (congrArg _ (and_t (Nat.zero_le _)))
theorem v103_37 {z : P0} {ls : Lcs} {st : List Value} {c n : Nat} {K : Nat → Nat × Nat} {I : Nat → Nat → Int32} {R : Nat → Nat → Option Nat} {L : Nat → Nat → Int64} {sz : Nat} {ex : Bool} {Q : Res → Mem → Prop}  {a0 : Int64} {a1 : Int64} : X z 103 37 ls (.long a1 :: .long a0 :: st) (0, 0) (K, I, R, L, sz, ex) Q = (wsum st ≤ 8 ∧ X z 99 0 [some (.long a0), none, some (.long a1), none] [] (0, 0) (K, I, R, L, sz, ex) (aftr (X z) mT 103 37 ls st (0, 0) Q)) := by
  rw [x103_37]
  refine (inv_s (As := [.long a0, .long a1]) (rm := mi103) (ry := mi99) rfl rfl (by decide) rfl rfl (Nat.le_of_ble_eq_true rfl) rfl (by decide) (by decide)).trans ?_
  exact Eq.trans (congrArg _ (and_t (Nat.zero_le _))) (congrArg _ (and_t (Nat.zero_le _)))
theorem v103_58 {z : P0} {ls : Lcs} {st : List Value} {c n : Nat} {K : Nat → Nat × Nat} {I : Nat → Nat → Int32} {R : Nat → Nat → Option Nat} {L : Nat → Nat → Int64} {sz : Nat} {ex : Bool} {Q : Res → Mem → Prop} {x : Nat}  : X z 103 58 ls (.ref x :: st) (0, 0) (K, I, R, L, sz, ex) Q = ((K x).1 = 102 ∧ wsum st ≤ 8 ∧ X z 22 0 [some (.ref x), none, none] [] (0, 0) (K, I, R, L, sz, ex) (aftr (X z) mT 103 58 ls st (0, 0) Q)) := by
  rw [x103_58]
  refine (inv_v (As := []) (rm := mi103) (ry := mi22) rfl rfl (by decide) rfl rfl (Nat.le_of_ble_eq_true rfl) rfl rfl).trans ?_
  refine congrArg _ ?_
  exact Eq.trans (congrArg _ (and_t (Nat.zero_le _))) (congrArg _ (and_t (Nat.zero_le _)))
theorem v103_62 {z : P0} {ls : Lcs} {st : List Value} {c n : Nat} {K : Nat → Nat × Nat} {I : Nat → Nat → Int32} {R : Nat → Nat → Option Nat} {L : Nat → Nat → Int64} {sz : Nat} {ex : Bool} {Q : Res → Mem → Prop}  {a0 : Int64} {a1 : Int64} : X z 103 62 ls (.long a1 :: .long a0 :: st) (0, 0) (K, I, R, L, sz, ex) Q = (wsum st ≤ 8 ∧ X z 99 0 [some (.long a0), none, some (.long a1), none] [] (0, 0) (K, I, R, L, sz, ex) (aftr (X z) mT 103 62 ls st (0, 0) Q)) := by
  rw [x103_62]
  refine (inv_s (As := [.long a0, .long a1]) (rm := mi103) (ry := mi99) rfl rfl (by decide) rfl rfl (Nat.le_of_ble_eq_true rfl) rfl (by decide) (by decide)).trans ?_
  exact Eq.trans (congrArg _ (and_t (Nat.zero_le _))) (congrArg _ (and_t (Nat.zero_le _)))
theorem v103_87 {z : P0} {ls : Lcs} {st : List Value} {c n : Nat} {K : Nat → Nat × Nat} {I : Nat → Nat → Int32} {R : Nat → Nat → Option Nat} {L : Nat → Nat → Int64} {sz : Nat} {ex : Bool} {Q : Res → Mem → Prop} {x : Nat} {a0 : Nat} {a1 : Nat} : X z 103 87 ls (.ref a1 :: .ref a0 :: .ref x :: st) (0, 0) (K, I, R, L, sz, ex) Q = ((K x).1 = 101 ∧ wsum st ≤ 8 ∧ X z 10 0 [some (.ref x), some (.ref a0), some (.ref a1), none, none, none, none] [] (0, 0) (K, I, R, L, sz, ex) (aftr (X z) mT 103 87 ls st (0, 0) Q)) := by
  rw [x103_87]
  refine (inv_v (As := [.ref a0, .ref a1]) (rm := mi103) (ry := mi10) rfl rfl (by decide) rfl rfl (Nat.le_of_ble_eq_true rfl) rfl rfl).trans ?_
  refine congrArg _ ?_
  exact Eq.trans (congrArg _ (and_t (Nat.zero_le _))) (congrArg _ (and_t (Nat.zero_le _)))
theorem v103_111 {z : P0} {ls : Lcs} {st : List Value} {c n : Nat} {K : Nat → Nat × Nat} {I : Nat → Nat → Int32} {R : Nat → Nat → Option Nat} {L : Nat → Nat → Int64} {sz : Nat} {ex : Bool} {Q : Res → Mem → Prop}  {a0 : Int64} {a1 : Nat} {a2 : Int32} : X z 103 111 ls (.int a2 :: .ref a1 :: .long a0 :: st) (0, 0) (K, I, R, L, sz, ex) Q = (wsum st ≤ 8 ∧ X z 100 0 [some (.long a0), none, some (.ref a1), some (.int a2), none, none, none] [] (0, 0) (K, I, R, L, sz, ex) (aftr (X z) mT 103 111 ls st (0, 0) Q)) := by
  rw [x103_111]
  refine (inv_s (As := [.long a0, .ref a1, .int a2]) (rm := mi103) (ry := mi100) rfl rfl (by decide) rfl rfl (Nat.le_of_ble_eq_true rfl) rfl (by decide) (by decide)).trans ?_
  exact Eq.trans (congrArg _ (and_t (Nat.zero_le _))) (congrArg _ (and_t (Nat.zero_le _)))
theorem v108_11 {z : P0} {ls : Lcs} {st : List Value} {c n : Nat} {K : Nat → Nat × Nat} {I : Nat → Nat → Int32} {R : Nat → Nat → Option Nat} {L : Nat → Nat → Int64} {sz : Nat} {ex : Bool} {Q : Res → Mem → Prop}  {a0 : Int32} {a1 : Int32} {a2 : Int32} : X z 108 11 ls (.int a2 :: .int a1 :: .int a0 :: st) (0, 0) (K, I, R, L, sz, ex) Q = (wsum st ≤ 8 ∧ X z 106 0 [some (.int a0), some (.int a1), some (.int a2)] [] (0, 0) (K, I, R, L, sz, ex) (aftr (X z) mT 108 11 ls st (0, 0) Q)) := by
  rw [x108_11]
  refine (inv_s (As := [.int a0, .int a1, .int a2]) (rm := mi108) (ry := mi106) rfl rfl (by decide) rfl rfl (Nat.le_of_ble_eq_true rfl) rfl (by decide) (by decide)).trans ?_
  exact Eq.trans (congrArg _ (and_t (Nat.zero_le _))) (congrArg _ (and_t (Nat.zero_le _)))
theorem v109_11 {z : P0} {ls : Lcs} {st : List Value} {c n : Nat} {K : Nat → Nat × Nat} {I : Nat → Nat → Int32} {R : Nat → Nat → Option Nat} {L : Nat → Nat → Int64} {sz : Nat} {ex : Bool} {Q : Res → Mem → Prop}  {a0 : Int32} {a1 : Int32} {a2 : Int32} : X z 109 11 ls (.int a2 :: .int a1 :: .int a0 :: st) (0, 0) (K, I, R, L, sz, ex) Q = (wsum st ≤ 8 ∧ X z 106 0 [some (.int a0), some (.int a1), some (.int a2)] [] (0, 0) (K, I, R, L, sz, ex) (aftr (X z) mT 109 11 ls st (0, 0) Q)) := by
  rw [x109_11]
  refine (inv_s (As := [.int a0, .int a1, .int a2]) (rm := mi109) (ry := mi106) rfl rfl (by decide) rfl rfl (Nat.le_of_ble_eq_true rfl) rfl (by decide) (by decide)).trans ?_
  exact Eq.trans (congrArg _ (and_t (Nat.zero_le _))) (congrArg _ (and_t (Nat.zero_le _)))
theorem v112_67 {z : P0} {ls : Lcs} {st : List Value} {c n : Nat} {K : Nat → Nat × Nat} {I : Nat → Nat → Int32} {R : Nat → Nat → Option Nat} {L : Nat → Nat → Int64} {sz : Nat} {ex : Bool} {Q : Res → Mem → Prop} {x : Nat} {a0 : Int32} : X z 112 67 ls (.int a0 :: .ref x :: st) (0, 0) (K, I, R, L, sz, ex) Q = ((K x).1 = 111 ∧ wsum st ≤ 8 ∧ X z 110 0 [some (.ref x), some (.int a0), none, none] [] (0, 0) (K, I, R, L, sz, ex) (aftr (X z) mT 112 67 ls st (0, 0) Q)) := by
  rw [x112_67]
  refine (inv_v (As := [.int a0]) (rm := mi112) (ry := mi110) rfl rfl (by decide) rfl rfl (Nat.le_of_ble_eq_true rfl) rfl rfl).trans ?_
  refine congrArg _ ?_
  exact Eq.trans (congrArg _ (and_t (Nat.zero_le _))) (congrArg _ (and_t (Nat.zero_le _)))
theorem v114_18 {z : P0} {ls : Lcs} {st : List Value} {c n : Nat} {K : Nat → Nat × Nat} {I : Nat → Nat → Int32} {R : Nat → Nat → Option Nat} {L : Nat → Nat → Int64} {sz : Nat} {ex : Bool} {Q : Res → Mem → Prop} {x : Nat} {a0 : Int32} : X z 114 18 ls (.int a0 :: .ref x :: st) (0, 0) (K, I, R, L, sz, ex) Q = ((K x).1 = 111 ∧ wsum st ≤ 8 ∧ X z 113 0 [some (.ref x), some (.int a0), none] [] (0, 0) (K, I, R, L, sz, ex) (aftr (X z) mT 114 18 ls st (0, 0) Q)) := by
  rw [x114_18]
  refine (inv_v (As := [.int a0]) (rm := mi114) (ry := mi113) rfl rfl (by decide) rfl rfl (Nat.le_of_ble_eq_true rfl) rfl rfl).trans ?_
  refine congrArg _ ?_
  exact Eq.trans (congrArg _ (and_t (Nat.zero_le _))) (congrArg _ (and_t (Nat.zero_le _)))
theorem v115_34 {z : P0} {ls : Lcs} {st : List Value} {c n : Nat} {K : Nat → Nat × Nat} {I : Nat → Nat → Int32} {R : Nat → Nat → Option Nat} {L : Nat → Nat → Int64} {sz : Nat} {ex : Bool} {Q : Res → Mem → Prop} {x : Nat} {a0 : Int32} {a1 : Int32} : X z 115 34 ls (.int a1 :: .int a0 :: .ref x :: st) (0, 0) (K, I, R, L, sz, ex) Q = ((K x).1 = 111 ∧ wsum st ≤ 8 ∧ X z 112 0 [some (.ref x), some (.int a0), some (.int a1)] [] (0, 0) (K, I, R, L, sz, ex) (aftr (X z) mT 115 34 ls st (0, 0) Q)) := by
  rw [x115_34]
  refine (inv_v (As := [.int a0, .int a1]) (rm := mi115) (ry := mi112) rfl rfl (by decide) rfl rfl (Nat.le_of_ble_eq_true rfl) rfl rfl).trans ?_
  refine congrArg _ ?_
  exact Eq.trans (congrArg _ (and_t (Nat.zero_le _))) (congrArg _ (and_t (Nat.zero_le _)))
theorem v115_42 {z : P0} {ls : Lcs} {st : List Value} {c n : Nat} {K : Nat → Nat × Nat} {I : Nat → Nat → Int32} {R : Nat → Nat → Option Nat} {L : Nat → Nat → Int64} {sz : Nat} {ex : Bool} {Q : Res → Mem → Prop} {x : Nat} {a0 : Int32} : X z 115 42 ls (.int a0 :: .ref x :: st) (0, 0) (K, I, R, L, sz, ex) Q = ((K x).1 = 111 ∧ wsum st ≤ 8 ∧ X z 114 0 [some (.ref x), some (.int a0), none] [] (0, 0) (K, I, R, L, sz, ex) (aftr (X z) mT 115 42 ls st (0, 0) Q)) := by
  rw [x115_42]
  refine (inv_v (As := [.int a0]) (rm := mi115) (ry := mi114) rfl rfl (by decide) rfl rfl (Nat.le_of_ble_eq_true rfl) rfl rfl).trans ?_
  refine congrArg _ ?_
  exact Eq.trans (congrArg _ (and_t (Nat.zero_le _))) (congrArg _ (and_t (Nat.zero_le _)))
theorem v117_19 {z : P0} {ls : Lcs} {st : List Value} {c n : Nat} {K : Nat → Nat × Nat} {I : Nat → Nat → Int32} {R : Nat → Nat → Option Nat} {L : Nat → Nat → Int64} {sz : Nat} {ex : Bool} {Q : Res → Mem → Prop} {x : Nat} {a0 : Int32} : X z 117 19 ls (.int a0 :: .ref x :: st) (0, 0) (K, I, R, L, sz, ex) Q = ((K x).1 = 111 ∧ wsum st ≤ 8 ∧ X z 116 0 [some (.ref x), some (.int a0)] [] (0, 0) (K, I, R, L, sz, ex) (aftr (X z) mT 117 19 ls st (0, 0) Q)) := by
  rw [x117_19]
  refine (inv_v (As := [.int a0]) (rm := mi117) (ry := mi116) rfl rfl (by decide) rfl rfl (Nat.le_of_ble_eq_true rfl) rfl rfl).trans ?_
  refine congrArg _ ?_
  exact Eq.trans (congrArg _ (and_t (Nat.zero_le _))) (congrArg _ (and_t (Nat.zero_le _)))
theorem v118_37 {z : P0} {ls : Lcs} {st : List Value} {c n : Nat} {K : Nat → Nat × Nat} {I : Nat → Nat → Int32} {R : Nat → Nat → Option Nat} {L : Nat → Nat → Int64} {sz : Nat} {ex : Bool} {Q : Res → Mem → Prop} {x : Nat} {a0 : Int32} {a1 : Int32} : X z 118 37 ls (.int a1 :: .int a0 :: .ref x :: st) (0, 0) (K, I, R, L, sz, ex) Q = ((K x).1 = 111 ∧ wsum st ≤ 8 ∧ X z 117 0 [some (.ref x), some (.int a0), some (.int a1)] [] (0, 0) (K, I, R, L, sz, ex) (aftr (X z) mT 118 37 ls st (0, 0) Q)) := by
  rw [x118_37]
  refine (inv_v (As := [.int a0, .int a1]) (rm := mi118) (ry := mi117) rfl rfl (by decide) rfl rfl (Nat.le_of_ble_eq_true rfl) rfl rfl).trans ?_
  refine congrArg _ ?_
  exact Eq.trans (congrArg _ (and_t (Nat.zero_le _))) (congrArg _ (and_t (Nat.zero_le _)))
theorem v118_75 {z : P0} {ls : Lcs} {st : List Value} {c n : Nat} {K : Nat → Nat × Nat} {I : Nat → Nat → Int32} {R : Nat → Nat → Option Nat} {L : Nat → Nat → Int64} {sz : Nat} {ex : Bool} {Q : Res → Mem → Prop} {x : Nat} {a0 : Int32} : X z 118 75 ls (.int a0 :: .ref x :: st) (0, 0) (K, I, R, L, sz, ex) Q = ((K x).1 = 111 ∧ wsum st ≤ 8 ∧ X z 116 0 [some (.ref x), some (.int a0)] [] (0, 0) (K, I, R, L, sz, ex) (aftr (X z) mT 118 75 ls st (0, 0) Q)) := by
  rw [x118_75]
  refine (inv_v (As := [.int a0]) (rm := mi118) (ry := mi116) rfl rfl (by decide) rfl rfl (Nat.le_of_ble_eq_true rfl) rfl rfl).trans ?_
  refine congrArg _ ?_
  exact Eq.trans (congrArg _ (and_t (Nat.zero_le _))) (congrArg _ (and_t (Nat.zero_le _)))
theorem v119_8 {z : P0} {ls : Lcs} {st : List Value} {c n : Nat} {K : Nat → Nat × Nat} {I : Nat → Nat → Int32} {R : Nat → Nat → Option Nat} {L : Nat → Nat → Int64} {sz : Nat} {ex : Bool} {Q : Res → Mem → Prop} {x : Nat} {a0 : Int32} : X z 119 8 ls (.int a0 :: .ref x :: st) (0, 0) (K, I, R, L, sz, ex) Q = ((K x).1 = 111 ∧ wsum st ≤ 8 ∧ X z 113 0 [some (.ref x), some (.int a0), none] [] (0, 0) (K, I, R, L, sz, ex) (aftr (X z) mT 119 8 ls st (0, 0) Q)) := by
  rw [x119_8]
  refine (inv_v (As := [.int a0]) (rm := mi119) (ry := mi113) rfl rfl (by decide) rfl rfl (Nat.le_of_ble_eq_true rfl) rfl rfl).trans ?_
  refine congrArg _ ?_
  exact Eq.trans (congrArg _ (and_t (Nat.zero_le _))) (congrArg _ (and_t (Nat.zero_le _)))
theorem v119_82 {z : P0} {ls : Lcs} {st : List Value} {c n : Nat} {K : Nat → Nat × Nat} {I : Nat → Nat → Int32} {R : Nat → Nat → Option Nat} {L : Nat → Nat → Int64} {sz : Nat} {ex : Bool} {Q : Res → Mem → Prop} {x : Nat} {a0 : Int32} : X z 119 82 ls (.int a0 :: .ref x :: st) (0, 0) (K, I, R, L, sz, ex) Q = ((K x).1 = 111 ∧ wsum st ≤ 8 ∧ X z 116 0 [some (.ref x), some (.int a0)] [] (0, 0) (K, I, R, L, sz, ex) (aftr (X z) mT 119 82 ls st (0, 0) Q)) := by
  rw [x119_82]
  refine (inv_v (As := [.int a0]) (rm := mi119) (ry := mi116) rfl rfl (by decide) rfl rfl (Nat.le_of_ble_eq_true rfl) rfl rfl).trans ?_
  refine congrArg _ ?_
  exact Eq.trans (congrArg _ (and_t (Nat.zero_le _))) (congrArg _ (and_t (Nat.zero_le _)))
theorem v119_88 {z : P0} {ls : Lcs} {st : List Value} {c n : Nat} {K : Nat → Nat × Nat} {I : Nat → Nat → Int32} {R : Nat → Nat → Option Nat} {L : Nat → Nat → Int64} {sz : Nat} {ex : Bool} {Q : Res → Mem → Prop} {x : Nat} {a0 : Int32} : X z 119 88 ls (.int a0 :: .ref x :: st) (0, 0) (K, I, R, L, sz, ex) Q = ((K x).1 = 111 ∧ wsum st ≤ 8 ∧ X z 116 0 [some (.ref x), some (.int a0)] [] (0, 0) (K, I, R, L, sz, ex) (aftr (X z) mT 119 88 ls st (0, 0) Q)) := by
  rw [x119_88]
  refine (inv_v (As := [.int a0]) (rm := mi119) (ry := mi116) rfl rfl (by decide) rfl rfl (Nat.le_of_ble_eq_true rfl) rfl rfl).trans ?_
  refine congrArg _ ?_
  exact Eq.trans (congrArg _ (and_t (Nat.zero_le _))) (congrArg _ (and_t (Nat.zero_le _)))
theorem v119_94 {z : P0} {ls : Lcs} {st : List Value} {c n : Nat} {K : Nat → Nat × Nat} {I : Nat → Nat → Int32} {R : Nat → Nat → Option Nat} {L : Nat → Nat → Int64} {sz : Nat} {ex : Bool} {Q : Res → Mem → Prop} {x : Nat} {a0 : Int32} : X z 119 94 ls (.int a0 :: .ref x :: st) (0, 0) (K, I, R, L, sz, ex) Q = ((K x).1 = 111 ∧ wsum st ≤ 8 ∧ X z 116 0 [some (.ref x), some (.int a0)] [] (0, 0) (K, I, R, L, sz, ex) (aftr (X z) mT 119 94 ls st (0, 0) Q)) := by
  rw [x119_94]
  refine (inv_v (As := [.int a0]) (rm := mi119) (ry := mi116) rfl rfl (by decide) rfl rfl (Nat.le_of_ble_eq_true rfl) rfl rfl).trans ?_
  refine congrArg _ ?_
  exact Eq.trans (congrArg _ (and_t (Nat.zero_le _))) (congrArg _ (and_t (Nat.zero_le _)))
theorem v119_120 {z : P0} {ls : Lcs} {st : List Value} {c n : Nat} {K : Nat → Nat × Nat} {I : Nat → Nat → Int32} {R : Nat → Nat → Option Nat} {L : Nat → Nat → Int64} {sz : Nat} {ex : Bool} {Q : Res → Mem → Prop} {x : Nat} {a0 : Int32} : X z 119 120 ls (.int a0 :: .ref x :: st) (0, 0) (K, I, R, L, sz, ex) Q = ((K x).1 = 111 ∧ wsum st ≤ 8 ∧ X z 116 0 [some (.ref x), some (.int a0)] [] (0, 0) (K, I, R, L, sz, ex) (aftr (X z) mT 119 120 ls st (0, 0) Q)) := by
  rw [x119_120]
  refine (inv_v (As := [.int a0]) (rm := mi119) (ry := mi116) rfl rfl (by decide) rfl rfl (Nat.le_of_ble_eq_true rfl) rfl rfl).trans ?_
  refine congrArg _ ?_
  exact Eq.trans (congrArg _ (and_t (Nat.zero_le _))) (congrArg _ (and_t (Nat.zero_le _)))
theorem v119_136 {z : P0} {ls : Lcs} {st : List Value} {c n : Nat} {K : Nat → Nat × Nat} {I : Nat → Nat → Int32} {R : Nat → Nat → Option Nat} {L : Nat → Nat → Int64} {sz : Nat} {ex : Bool} {Q : Res → Mem → Prop} {x : Nat} {a0 : Int32} : X z 119 136 ls (.int a0 :: .ref x :: st) (0, 0) (K, I, R, L, sz, ex) Q = ((K x).1 = 111 ∧ wsum st ≤ 8 ∧ X z 116 0 [some (.ref x), some (.int a0)] [] (0, 0) (K, I, R, L, sz, ex) (aftr (X z) mT 119 136 ls st (0, 0) Q)) := by
  rw [x119_136]
  refine (inv_v (As := [.int a0]) (rm := mi119) (ry := mi116) rfl rfl (by decide) rfl rfl (Nat.le_of_ble_eq_true rfl) rfl rfl).trans ?_
  refine congrArg _ ?_
  exact Eq.trans (congrArg _ (and_t (Nat.zero_le _))) (congrArg _ (and_t (Nat.zero_le _)))
theorem v121_2 {z : P0} {ls : Lcs} {st : List Value} {c n : Nat} {K : Nat → Nat × Nat} {I : Nat → Nat → Int32} {R : Nat → Nat → Option Nat} {L : Nat → Nat → Int64} {sz : Nat} {ex : Bool} {Q : Res → Mem → Prop} {x : Nat} {a0 : Int32} : X z 121 2 ls (.int a0 :: .ref x :: st) (0, 0) (K, I, R, L, sz, ex) Q = ((K x).1 = 111 ∧ wsum st ≤ 8 ∧ X z 120 0 [some (.ref x), some (.int a0), none, none] [] (0, 0) (K, I, R, L, sz, ex) (aftr (X z) mT 121 2 ls st (0, 0) Q)) := by
  rw [x121_2]
  refine (inv_v (As := [.int a0]) (rm := mi121) (ry := mi120) rfl rfl (by decide) rfl rfl (Nat.le_of_ble_eq_true rfl) rfl rfl).trans ?_
  refine congrArg _ ?_
  exact Eq.trans (congrArg _ (and_t (Nat.zero_le _))) (congrArg _ (and_t (Nat.zero_le _)))
theorem v121_14 {z : P0} {ls : Lcs} {st : List Value} {c n : Nat} {K : Nat → Nat × Nat} {I : Nat → Nat → Int32} {R : Nat → Nat → Option Nat} {L : Nat → Nat → Int64} {sz : Nat} {ex : Bool} {Q : Res → Mem → Prop} {x : Nat} {a0 : Int32} : X z 121 14 ls (.int a0 :: .ref x :: st) (0, 0) (K, I, R, L, sz, ex) Q = ((K x).1 = 111 ∧ wsum st ≤ 8 ∧ X z 116 0 [some (.ref x), some (.int a0)] [] (0, 0) (K, I, R, L, sz, ex) (aftr (X z) mT 121 14 ls st (0, 0) Q)) := by
  rw [x121_14]
  refine (inv_v (As := [.int a0]) (rm := mi121) (ry := mi116) rfl rfl (by decide) rfl rfl (Nat.le_of_ble_eq_true rfl) rfl rfl).trans ?_
  refine congrArg _ ?_
  exact Eq.trans (congrArg _ (and_t (Nat.zero_le _))) (congrArg _ (and_t (Nat.zero_le _)))
theorem v121_20 {z : P0} {ls : Lcs} {st : List Value} {c n : Nat} {K : Nat → Nat × Nat} {I : Nat → Nat → Int32} {R : Nat → Nat → Option Nat} {L : Nat → Nat → Int64} {sz : Nat} {ex : Bool} {Q : Res → Mem → Prop} {x : Nat} {a0 : Int32} : X z 121 20 ls (.int a0 :: .ref x :: st) (0, 0) (K, I, R, L, sz, ex) Q = ((K x).1 = 111 ∧ wsum st ≤ 8 ∧ X z 116 0 [some (.ref x), some (.int a0)] [] (0, 0) (K, I, R, L, sz, ex) (aftr (X z) mT 121 20 ls st (0, 0) Q)) := by
  rw [x121_20]
  refine (inv_v (As := [.int a0]) (rm := mi121) (ry := mi116) rfl rfl (by decide) rfl rfl (Nat.le_of_ble_eq_true rfl) rfl rfl).trans ?_
  refine congrArg _ ?_
  exact Eq.trans (congrArg _ (and_t (Nat.zero_le _))) (congrArg _ (and_t (Nat.zero_le _)))
theorem v121_26 {z : P0} {ls : Lcs} {st : List Value} {c n : Nat} {K : Nat → Nat × Nat} {I : Nat → Nat → Int32} {R : Nat → Nat → Option Nat} {L : Nat → Nat → Int64} {sz : Nat} {ex : Bool} {Q : Res → Mem → Prop} {x : Nat} {a0 : Int32} : X z 121 26 ls (.int a0 :: .ref x :: st) (0, 0) (K, I, R, L, sz, ex) Q = ((K x).1 = 111 ∧ wsum st ≤ 8 ∧ X z 116 0 [some (.ref x), some (.int a0)] [] (0, 0) (K, I, R, L, sz, ex) (aftr (X z) mT 121 26 ls st (0, 0) Q)) := by
  rw [x121_26]
  refine (inv_v (As := [.int a0]) (rm := mi121) (ry := mi116) rfl rfl (by decide) rfl rfl (Nat.le_of_ble_eq_true rfl) rfl rfl).trans ?_
  refine congrArg _ ?_
  exact Eq.trans (congrArg _ (and_t (Nat.zero_le _))) (congrArg _ (and_t (Nat.zero_le _)))
theorem v121_32 {z : P0} {ls : Lcs} {st : List Value} {c n : Nat} {K : Nat → Nat × Nat} {I : Nat → Nat → Int32} {R : Nat → Nat → Option Nat} {L : Nat → Nat → Int64} {sz : Nat} {ex : Bool} {Q : Res → Mem → Prop} {x : Nat} {a0 : Int32} : X z 121 32 ls (.int a0 :: .ref x :: st) (0, 0) (K, I, R, L, sz, ex) Q = ((K x).1 = 111 ∧ wsum st ≤ 8 ∧ X z 116 0 [some (.ref x), some (.int a0)] [] (0, 0) (K, I, R, L, sz, ex) (aftr (X z) mT 121 32 ls st (0, 0) Q)) := by
  rw [x121_32]
  refine (inv_v (As := [.int a0]) (rm := mi121) (ry := mi116) rfl rfl (by decide) rfl rfl (Nat.le_of_ble_eq_true rfl) rfl rfl).trans ?_
  refine congrArg _ ?_
  exact Eq.trans (congrArg _ (and_t (Nat.zero_le _))) (congrArg _ (and_t (Nat.zero_le _)))
theorem v121_41 {z : P0} {ls : Lcs} {st : List Value} {c n : Nat} {K : Nat → Nat × Nat} {I : Nat → Nat → Int32} {R : Nat → Nat → Option Nat} {L : Nat → Nat → Int64} {sz : Nat} {ex : Bool} {Q : Res → Mem → Prop} {x : Nat} {a0 : Int32} : X z 121 41 ls (.int a0 :: .ref x :: st) (0, 0) (K, I, R, L, sz, ex) Q = ((K x).1 = 111 ∧ wsum st ≤ 8 ∧ X z 116 0 [some (.ref x), some (.int a0)] [] (0, 0) (K, I, R, L, sz, ex) (aftr (X z) mT 121 41 ls st (0, 0) Q)) := by
  rw [x121_41]
  refine (inv_v (As := [.int a0]) (rm := mi121) (ry := mi116) rfl rfl (by decide) rfl rfl (Nat.le_of_ble_eq_true rfl) rfl rfl).trans ?_
  refine congrArg _ ?_
  exact Eq.trans (congrArg _ (and_t (Nat.zero_le _))) (congrArg _ (and_t (Nat.zero_le _)))
theorem v121_52 {z : P0} {ls : Lcs} {st : List Value} {c n : Nat} {K : Nat → Nat × Nat} {I : Nat → Nat → Int32} {R : Nat → Nat → Option Nat} {L : Nat → Nat → Int64} {sz : Nat} {ex : Bool} {Q : Res → Mem → Prop} {x : Nat} {a0 : Int32} : X z 121 52 ls (.int a0 :: .ref x :: st) (0, 0) (K, I, R, L, sz, ex) Q = ((K x).1 = 111 ∧ wsum st ≤ 8 ∧ X z 116 0 [some (.ref x), some (.int a0)] [] (0, 0) (K, I, R, L, sz, ex) (aftr (X z) mT 121 52 ls st (0, 0) Q)) := by
  rw [x121_52]
  refine (inv_v (As := [.int a0]) (rm := mi121) (ry := mi116) rfl rfl (by decide) rfl rfl (Nat.le_of_ble_eq_true rfl) rfl rfl).trans ?_
  refine congrArg _ ?_
  exact Eq.trans (congrArg _ (and_t (Nat.zero_le _))) (congrArg _ (and_t (Nat.zero_le _)))
theorem v121_58 {z : P0} {ls : Lcs} {st : List Value} {c n : Nat} {K : Nat → Nat × Nat} {I : Nat → Nat → Int32} {R : Nat → Nat → Option Nat} {L : Nat → Nat → Int64} {sz : Nat} {ex : Bool} {Q : Res → Mem → Prop} {x : Nat} {a0 : Int32} : X z 121 58 ls (.int a0 :: .ref x :: st) (0, 0) (K, I, R, L, sz, ex) Q = ((K x).1 = 111 ∧ wsum st ≤ 8 ∧ X z 116 0 [some (.ref x), some (.int a0)] [] (0, 0) (K, I, R, L, sz, ex) (aftr (X z) mT 121 58 ls st (0, 0) Q)) := by
  rw [x121_58]
  refine (inv_v (As := [.int a0]) (rm := mi121) (ry := mi116) rfl rfl (by decide) rfl rfl (Nat.le_of_ble_eq_true rfl) rfl rfl).trans ?_
  refine congrArg _ ?_
  exact Eq.trans (congrArg _ (and_t (Nat.zero_le _))) (congrArg _ (and_t (Nat.zero_le _)))
theorem v121_93 {z : P0} {ls : Lcs} {st : List Value} {c n : Nat} {K : Nat → Nat × Nat} {I : Nat → Nat → Int32} {R : Nat → Nat → Option Nat} {L : Nat → Nat → Int64} {sz : Nat} {ex : Bool} {Q : Res → Mem → Prop} {x : Nat} {a0 : Int32} : X z 121 93 ls (.int a0 :: .ref x :: st) (0, 0) (K, I, R, L, sz, ex) Q = ((K x).1 = 111 ∧ wsum st ≤ 8 ∧ X z 116 0 [some (.ref x), some (.int a0)] [] (0, 0) (K, I, R, L, sz, ex) (aftr (X z) mT 121 93 ls st (0, 0) Q)) := by
  rw [x121_93]
  refine (inv_v (As := [.int a0]) (rm := mi121) (ry := mi116) rfl rfl (by decide) rfl rfl (Nat.le_of_ble_eq_true rfl) rfl rfl).trans ?_
  refine congrArg _ ?_
  exact Eq.trans (congrArg _ (and_t (Nat.zero_le _))) (congrArg _ (and_t (Nat.zero_le _)))
theorem v122_173 {z : P0} {ls : Lcs} {st : List Value} {c n : Nat} {K : Nat → Nat × Nat} {I : Nat → Nat → Int32} {R : Nat → Nat → Option Nat} {L : Nat → Nat → Int64} {sz : Nat} {ex : Bool} {Q : Res → Mem → Prop} {x : Nat} {a0 : Int32} {a1 : Int32} : X z 122 173 ls (.int a1 :: .int a0 :: .ref x :: st) (0, 0) (K, I, R, L, sz, ex) Q = ((K x).1 = 111 ∧ wsum st ≤ 8 ∧ X z 117 0 [some (.ref x), some (.int a0), some (.int a1)] [] (0, 0) (K, I, R, L, sz, ex) (aftr (X z) mT 122 173 ls st (0, 0) Q)) := by
  rw [x122_173]
  refine (inv_v (As := [.int a0, .int a1]) (rm := mi122) (ry := mi117) rfl rfl (by decide) rfl rfl (Nat.le_of_ble_eq_true rfl) rfl rfl).trans ?_
  refine congrArg _ ?_
  exact Eq.trans (congrArg _ (and_t (Nat.zero_le _))) (congrArg _ (and_t (Nat.zero_le _)))
theorem v122_187 {z : P0} {ls : Lcs} {st : List Value} {c n : Nat} {K : Nat → Nat × Nat} {I : Nat → Nat → Int32} {R : Nat → Nat → Option Nat} {L : Nat → Nat → Int64} {sz : Nat} {ex : Bool} {Q : Res → Mem → Prop} {x : Nat} {a0 : Int32} : X z 122 187 ls (.int a0 :: .ref x :: st) (0, 0) (K, I, R, L, sz, ex) Q = ((K x).1 = 111 ∧ wsum st ≤ 8 ∧ X z 121 0 [some (.ref x), some (.int a0), none, none] [] (0, 0) (K, I, R, L, sz, ex) (aftr (X z) mT 122 187 ls st (0, 0) Q)) := by
  rw [x122_187]
  refine (inv_v (As := [.int a0]) (rm := mi122) (ry := mi121) rfl rfl (by decide) rfl rfl (Nat.le_of_ble_eq_true rfl) rfl rfl).trans ?_
  refine congrArg _ ?_
  exact Eq.trans (congrArg _ (and_t (Nat.zero_le _))) (congrArg _ (and_t (Nat.zero_le _)))
theorem v123_46 {z : P0} {ls : Lcs} {st : List Value} {c n : Nat} {K : Nat → Nat × Nat} {I : Nat → Nat → Int32} {R : Nat → Nat → Option Nat} {L : Nat → Nat → Int64} {sz : Nat} {ex : Bool} {Q : Res → Mem → Prop} {x : Nat} {a0 : Int32} : X z 123 46 ls (.int a0 :: .ref x :: st) (0, 0) (K, I, R, L, sz, ex) Q = ((K x).1 = 111 ∧ wsum st ≤ 8 ∧ X z 118 0 [some (.ref x), some (.int a0), none, none, none] [] (0, 0) (K, I, R, L, sz, ex) (aftr (X z) mT 123 46 ls st (0, 0) Q)) := by
  rw [x123_46]
  refine (inv_v (As := [.int a0]) (rm := mi123) (ry := mi118) rfl rfl (by decide) rfl rfl (Nat.le_of_ble_eq_true rfl) rfl rfl).trans ?_
  refine congrArg _ ?_
  exact Eq.trans (congrArg _ (and_t (Nat.zero_le _))) (congrArg _ (and_t (Nat.zero_le _)))
theorem v123_54 {z : P0} {ls : Lcs} {st : List Value} {c n : Nat} {K : Nat → Nat × Nat} {I : Nat → Nat → Int32} {R : Nat → Nat → Option Nat} {L : Nat → Nat → Int64} {sz : Nat} {ex : Bool} {Q : Res → Mem → Prop} {x : Nat} {a0 : Int32} : X z 123 54 ls (.int a0 :: .ref x :: st) (0, 0) (K, I, R, L, sz, ex) Q = ((K x).1 = 111 ∧ wsum st ≤ 8 ∧ X z 119 0 [some (.ref x), some (.int a0), none, none, none] [] (0, 0) (K, I, R, L, sz, ex) (aftr (X z) mT 123 54 ls st (0, 0) Q)) := by
  rw [x123_54]
  refine (inv_v (As := [.int a0]) (rm := mi123) (ry := mi119) rfl rfl (by decide) rfl rfl (Nat.le_of_ble_eq_true rfl) rfl rfl).trans ?_
  refine congrArg _ ?_
  exact Eq.trans (congrArg _ (and_t (Nat.zero_le _))) (congrArg _ (and_t (Nat.zero_le _)))
theorem v123_62 {z : P0} {ls : Lcs} {st : List Value} {c n : Nat} {K : Nat → Nat × Nat} {I : Nat → Nat → Int32} {R : Nat → Nat → Option Nat} {L : Nat → Nat → Int64} {sz : Nat} {ex : Bool} {Q : Res → Mem → Prop} {x : Nat} {a0 : Int32} : X z 123 62 ls (.int a0 :: .ref x :: st) (0, 0) (K, I, R, L, sz, ex) Q = ((K x).1 = 111 ∧ wsum st ≤ 8 ∧ X z 122 0 [some (.ref x), some (.int a0), none, none, none, none] [] (0, 0) (K, I, R, L, sz, ex) (aftr (X z) mT 123 62 ls st (0, 0) Q)) := by
  rw [x123_62]
  refine (inv_v (As := [.int a0]) (rm := mi123) (ry := mi122) rfl rfl (by decide) rfl rfl (Nat.le_of_ble_eq_true rfl) rfl rfl).trans ?_
  refine congrArg _ ?_
  exact Eq.trans (congrArg _ (and_t (Nat.zero_le _))) (congrArg _ (and_t (Nat.zero_le _)))
theorem v123_78 {z : P0} {ls : Lcs} {st : List Value} {c n : Nat} {K : Nat → Nat × Nat} {I : Nat → Nat → Int32} {R : Nat → Nat → Option Nat} {L : Nat → Nat → Int64} {sz : Nat} {ex : Bool} {Q : Res → Mem → Prop} {x : Nat} {a0 : Int32} : X z 123 78 ls (.int a0 :: .ref x :: st) (0, 0) (K, I, R, L, sz, ex) Q = ((K x).1 = 111 ∧ wsum st ≤ 8 ∧ X z 116 0 [some (.ref x), some (.int a0)] [] (0, 0) (K, I, R, L, sz, ex) (aftr (X z) mT 123 78 ls st (0, 0) Q)) := by
  rw [x123_78]
  refine (inv_v (As := [.int a0]) (rm := mi123) (ry := mi116) rfl rfl (by decide) rfl rfl (Nat.le_of_ble_eq_true rfl) rfl rfl).trans ?_
  refine congrArg _ ?_
  exact Eq.trans (congrArg _ (and_t (Nat.zero_le _))) (congrArg _ (and_t (Nat.zero_le _)))
theorem v123_86 {z : P0} {ls : Lcs} {st : List Value} {c n : Nat} {K : Nat → Nat × Nat} {I : Nat → Nat → Int32} {R : Nat → Nat → Option Nat} {L : Nat → Nat → Int64} {sz : Nat} {ex : Bool} {Q : Res → Mem → Prop} {x : Nat} {a0 : Int32} : X z 123 86 ls (.int a0 :: .ref x :: st) (0, 0) (K, I, R, L, sz, ex) Q = ((K x).1 = 111 ∧ wsum st ≤ 8 ∧ X z 116 0 [some (.ref x), some (.int a0)] [] (0, 0) (K, I, R, L, sz, ex) (aftr (X z) mT 123 86 ls st (0, 0) Q)) := by
  rw [x123_86]
  refine (inv_v (As := [.int a0]) (rm := mi123) (ry := mi116) rfl rfl (by decide) rfl rfl (Nat.le_of_ble_eq_true rfl) rfl rfl).trans ?_
  refine congrArg _ ?_
  exact Eq.trans (congrArg _ (and_t (Nat.zero_le _))) (congrArg _ (and_t (Nat.zero_le _)))
theorem v124_80 {z : P0} {ls : Lcs} {st : List Value} {c n : Nat} {K : Nat → Nat × Nat} {I : Nat → Nat → Int32} {R : Nat → Nat → Option Nat} {L : Nat → Nat → Int64} {sz : Nat} {ex : Bool} {Q : Res → Mem → Prop} {x : Nat} {a0 : Int32} {a1 : Int32} : X z 124 80 ls (.int a1 :: .int a0 :: .ref x :: st) (0, 0) (K, I, R, L, sz, ex) Q = ((K x).1 = 111 ∧ wsum st ≤ 8 ∧ X z 123 0 [some (.ref x), some (.int a0), some (.int a1)] [] (0, 0) (K, I, R, L, sz, ex) (aftr (X z) mT 124 80 ls st (0, 0) Q)) := by
  rw [x124_80]
  refine (inv_v (As := [.int a0, .int a1]) (rm := mi124) (ry := mi123) rfl rfl (by decide) rfl rfl (Nat.le_of_ble_eq_true rfl) rfl rfl).trans ?_
  refine congrArg _ ?_
  exact Eq.trans (congrArg _ (and_t (Nat.zero_le _))) (congrArg _ (and_t (Nat.zero_le _)))
theorem v126_25 {z : P0} {ls : Lcs} {st : List Value} {c n : Nat} {K : Nat → Nat × Nat} {I : Nat → Nat → Int32} {R : Nat → Nat → Option Nat} {L : Nat → Nat → Int64} {sz : Nat} {ex : Bool} {Q : Res → Mem → Prop} {x : Nat}  : X z 126 25 ls (.ref x :: st) (0, 0) (K, I, R, L, sz, ex) Q = ((K x).1 = 111 ∧ wsum st ≤ 8 ∧ X z 125 0 [some (.ref x)] [] (0, 0) (K, I, R, L, sz, ex) (aftr (X z) mT 126 25 ls st (0, 0) Q)) := by
  rw [x126_25]
  refine (inv_v (As := []) (rm := mi126) (ry := mi125) rfl rfl (by decide) rfl rfl (Nat.le_of_ble_eq_true rfl) rfl rfl).trans ?_
  refine congrArg _ ?_
  exact Eq.trans (congrArg _ (and_t (Nat.zero_le _))) (congrArg _ (and_t (Nat.zero_le _)))
theorem v127_19 {z : P0} {ls : Lcs} {st : List Value} {c n : Nat} {K : Nat → Nat × Nat} {I : Nat → Nat → Int32} {R : Nat → Nat → Option Nat} {L : Nat → Nat → Int64} {sz : Nat} {ex : Bool} {Q : Res → Mem → Prop} {x : Nat} {a0 : Int32} : X z 127 19 ls (.int a0 :: .ref x :: st) (0, 0) (K, I, R, L, sz, ex) Q = ((K x).1 = 111 ∧ wsum st ≤ 8 ∧ X z 126 0 [some (.ref x), some (.int a0)] [] (0, 0) (K, I, R, L, sz, ex) (aftr (X z) mT 127 19 ls st (0, 0) Q)) := by
  rw [x127_19]
  refine (inv_v (As := [.int a0]) (rm := mi127) (ry := mi126) rfl rfl (by decide) rfl rfl (Nat.le_of_ble_eq_true rfl) rfl rfl).trans ?_
  refine congrArg _ ?_
  exact Eq.trans (congrArg _ (and_t (Nat.zero_le _))) (congrArg _ (and_t (Nat.zero_le _)))
theorem v127_36 {z : P0} {ls : Lcs} {st : List Value} {c n : Nat} {K : Nat → Nat × Nat} {I : Nat → Nat → Int32} {R : Nat → Nat → Option Nat} {L : Nat → Nat → Int64} {sz : Nat} {ex : Bool} {Q : Res → Mem → Prop} {x : Nat} {a0 : Int32} : X z 127 36 ls (.int a0 :: .ref x :: st) (0, 0) (K, I, R, L, sz, ex) Q = ((K x).1 = 111 ∧ wsum st ≤ 8 ∧ X z 126 0 [some (.ref x), some (.int a0)] [] (0, 0) (K, I, R, L, sz, ex) (aftr (X z) mT 127 36 ls st (0, 0) Q)) := by
  rw [x127_36]
  refine (inv_v (As := [.int a0]) (rm := mi127) (ry := mi126) rfl rfl (by decide) rfl rfl (Nat.le_of_ble_eq_true rfl) rfl rfl).trans ?_
  refine congrArg _ ?_
  exact Eq.trans (congrArg _ (and_t (Nat.zero_le _))) (congrArg _ (and_t (Nat.zero_le _)))
theorem v129_17 {z : P0} {ls : Lcs} {st : List Value} {c n : Nat} {K : Nat → Nat × Nat} {I : Nat → Nat → Int32} {R : Nat → Nat → Option Nat} {L : Nat → Nat → Int64} {sz : Nat} {ex : Bool} {Q : Res → Mem → Prop} {x : Nat}  : X z 129 17 ls (.ref x :: st) (0, 0) (K, I, R, L, sz, ex) Q = ((K x).1 = 111 ∧ wsum st ≤ 8 ∧ X z 125 0 [some (.ref x)] [] (0, 0) (K, I, R, L, sz, ex) (aftr (X z) mT 129 17 ls st (0, 0) Q)) := by
  rw [x129_17]
  refine (inv_v (As := []) (rm := mi129) (ry := mi125) rfl rfl (by decide) rfl rfl (Nat.le_of_ble_eq_true rfl) rfl rfl).trans ?_
  refine congrArg _ ?_
  exact Eq.trans (congrArg _ (and_t (Nat.zero_le _))) (congrArg _ (and_t (Nat.zero_le _)))
theorem v129_89 {z : P0} {ls : Lcs} {st : List Value} {c n : Nat} {K : Nat → Nat × Nat} {I : Nat → Nat → Int32} {R : Nat → Nat → Option Nat} {L : Nat → Nat → Int64} {sz : Nat} {ex : Bool} {Q : Res → Mem → Prop} {x : Nat} {a0 : Int32} : X z 129 89 ls (.int a0 :: .ref x :: st) (0, 0) (K, I, R, L, sz, ex) Q = ((K x).1 = 111 ∧ wsum st ≤ 8 ∧ X z 127 0 [some (.ref x), some (.int a0), none] [] (0, 0) (K, I, R, L, sz, ex) (aftr (X z) mT 129 89 ls st (0, 0) Q)) := by
  rw [x129_89]
  refine (inv_v (As := [.int a0]) (rm := mi129) (ry := mi127) rfl rfl (by decide) rfl rfl (Nat.le_of_ble_eq_true rfl) rfl rfl).trans ?_
  refine congrArg _ ?_
  exact Eq.trans (congrArg _ (and_t (Nat.zero_le _))) (congrArg _ (and_t (Nat.zero_le _)))
theorem v129_115 {z : P0} {ls : Lcs} {st : List Value} {c n : Nat} {K : Nat → Nat × Nat} {I : Nat → Nat → Int32} {R : Nat → Nat → Option Nat} {L : Nat → Nat → Int64} {sz : Nat} {ex : Bool} {Q : Res → Mem → Prop} {x : Nat} {a0 : Int32} : X z 129 115 ls (.int a0 :: .ref x :: st) (0, 0) (K, I, R, L, sz, ex) Q = ((K x).1 = 111 ∧ wsum st ≤ 8 ∧ X z 128 0 [some (.ref x), some (.int a0)] [] (0, 0) (K, I, R, L, sz, ex) (aftr (X z) mT 129 115 ls st (0, 0) Q)) := by
  rw [x129_115]
  refine (inv_v (As := [.int a0]) (rm := mi129) (ry := mi128) rfl rfl (by decide) rfl rfl (Nat.le_of_ble_eq_true rfl) rfl rfl).trans ?_
  refine congrArg _ ?_
  exact Eq.trans (congrArg _ (and_t (Nat.zero_le _))) (congrArg _ (and_t (Nat.zero_le _)))
theorem v129_140 {z : P0} {ls : Lcs} {st : List Value} {c n : Nat} {K : Nat → Nat × Nat} {I : Nat → Nat → Int32} {R : Nat → Nat → Option Nat} {L : Nat → Nat → Int64} {sz : Nat} {ex : Bool} {Q : Res → Mem → Prop} {x : Nat}  : X z 129 140 ls (.ref x :: st) (0, 0) (K, I, R, L, sz, ex) Q = ((K x).1 = 111 ∧ wsum st ≤ 8 ∧ X z 125 0 [some (.ref x)] [] (0, 0) (K, I, R, L, sz, ex) (aftr (X z) mT 129 140 ls st (0, 0) Q)) := by
  rw [x129_140]
  refine (inv_v (As := []) (rm := mi129) (ry := mi125) rfl rfl (by decide) rfl rfl (Nat.le_of_ble_eq_true rfl) rfl rfl).trans ?_
  refine congrArg _ ?_
  exact Eq.trans (congrArg _ (and_t (Nat.zero_le _))) (congrArg _ (and_t (Nat.zero_le _)))
theorem v129_151 {z : P0} {ls : Lcs} {st : List Value} {c n : Nat} {K : Nat → Nat × Nat} {I : Nat → Nat → Int32} {R : Nat → Nat → Option Nat} {L : Nat → Nat → Int64} {sz : Nat} {ex : Bool} {Q : Res → Mem → Prop} {x : Nat} {a0 : Int32} : X z 129 151 ls (.int a0 :: .ref x :: st) (0, 0) (K, I, R, L, sz, ex) Q = ((K x).1 = 111 ∧ wsum st ≤ 8 ∧ X z 127 0 [some (.ref x), some (.int a0), none] [] (0, 0) (K, I, R, L, sz, ex) (aftr (X z) mT 129 151 ls st (0, 0) Q)) := by
  rw [x129_151]
  refine (inv_v (As := [.int a0]) (rm := mi129) (ry := mi127) rfl rfl (by decide) rfl rfl (Nat.le_of_ble_eq_true rfl) rfl rfl).trans ?_
  refine congrArg _ ?_
  exact Eq.trans (congrArg _ (and_t (Nat.zero_le _))) (congrArg _ (and_t (Nat.zero_le _)))
theorem v129_168 {z : P0} {ls : Lcs} {st : List Value} {c n : Nat} {K : Nat → Nat × Nat} {I : Nat → Nat → Int32} {R : Nat → Nat → Option Nat} {L : Nat → Nat → Int64} {sz : Nat} {ex : Bool} {Q : Res → Mem → Prop} {x : Nat} {a0 : Int32} : X z 129 168 ls (.int a0 :: .ref x :: st) (0, 0) (K, I, R, L, sz, ex) Q = ((K x).1 = 111 ∧ wsum st ≤ 8 ∧ X z 128 0 [some (.ref x), some (.int a0)] [] (0, 0) (K, I, R, L, sz, ex) (aftr (X z) mT 129 168 ls st (0, 0) Q)) := by
  rw [x129_168]
  refine (inv_v (As := [.int a0]) (rm := mi129) (ry := mi128) rfl rfl (by decide) rfl rfl (Nat.le_of_ble_eq_true rfl) rfl rfl).trans ?_
  refine congrArg _ ?_
  exact Eq.trans (congrArg _ (and_t (Nat.zero_le _))) (congrArg _ (and_t (Nat.zero_le _)))
theorem v130_1 {z : P0} {ls : Lcs} {st : List Value} {c n : Nat} {K : Nat → Nat × Nat} {I : Nat → Nat → Int32} {R : Nat → Nat → Option Nat} {L : Nat → Nat → Int64} {sz : Nat} {ex : Bool} {Q : Res → Mem → Prop} {x : Nat}  : X z 130 1 ls (.ref x :: st) (0, 0) (K, I, R, L, sz, ex) Q = ((K x).1 = 111 ∧ wsum st ≤ 8 ∧ X z 115 0 [some (.ref x), none, none] [] (0, 0) (K, I, R, L, sz, ex) (aftr (X z) mT 130 1 ls st (0, 0) Q)) := by
  rw [x130_1]
  refine (inv_v (As := []) (rm := mi130) (ry := mi115) rfl rfl (by decide) rfl rfl (Nat.le_of_ble_eq_true rfl) rfl rfl).trans ?_
  refine congrArg _ ?_
  exact Eq.trans (congrArg _ (and_t (Nat.zero_le _))) (congrArg _ (and_t (Nat.zero_le _)))
theorem v130_16 {z : P0} {ls : Lcs} {st : List Value} {c n : Nat} {K : Nat → Nat × Nat} {I : Nat → Nat → Int32} {R : Nat → Nat → Option Nat} {L : Nat → Nat → Int64} {sz : Nat} {ex : Bool} {Q : Res → Mem → Prop} {x : Nat} {a0 : Int32} : X z 130 16 ls (.int a0 :: .ref x :: st) (0, 0) (K, I, R, L, sz, ex) Q = ((K x).1 = 111 ∧ wsum st ≤ 8 ∧ X z 124 0 [some (.ref x), some (.int a0), none, none, none] [] (0, 0) (K, I, R, L, sz, ex) (aftr (X z) mT 130 16 ls st (0, 0) Q)) := by
  rw [x130_16]
  refine (inv_v (As := [.int a0]) (rm := mi130) (ry := mi124) rfl rfl (by decide) rfl rfl (Nat.le_of_ble_eq_true rfl) rfl rfl).trans ?_
  refine congrArg _ ?_
  exact Eq.trans (congrArg _ (and_t (Nat.zero_le _))) (congrArg _ (and_t (Nat.zero_le _)))
theorem v130_21 {z : P0} {ls : Lcs} {st : List Value} {c n : Nat} {K : Nat → Nat × Nat} {I : Nat → Nat → Int32} {R : Nat → Nat → Option Nat} {L : Nat → Nat → Int64} {sz : Nat} {ex : Bool} {Q : Res → Mem → Prop} {x : Nat} {a0 : Int32} : X z 130 21 ls (.int a0 :: .ref x :: st) (0, 0) (K, I, R, L, sz, ex) Q = ((K x).1 = 111 ∧ wsum st ≤ 8 ∧ X z 129 0 [some (.ref x), some (.int a0), none, none, none, none, none] [] (0, 0) (K, I, R, L, sz, ex) (aftr (X z) mT 130 21 ls st (0, 0) Q)) := by
  rw [x130_21]
  refine (inv_v (As := [.int a0]) (rm := mi130) (ry := mi129) rfl rfl (by decide) rfl rfl (Nat.le_of_ble_eq_true rfl) rfl rfl).trans ?_
  refine congrArg _ ?_
  exact Eq.trans (congrArg _ (and_t (Nat.zero_le _))) (congrArg _ (and_t (Nat.zero_le _)))
theorem v132_66 {z : P0} {ls : Lcs} {st : List Value} {c n : Nat} {K : Nat → Nat × Nat} {I : Nat → Nat → Int32} {R : Nat → Nat → Option Nat} {L : Nat → Nat → Int64} {sz : Nat} {ex : Bool} {Q : Res → Mem → Prop} {x : Nat} {a0 : Int32} : X z 132 66 ls (.int a0 :: .ref x :: st) (0, 0) (K, I, R, L, sz, ex) Q = ((K x).1 = 111 ∧ wsum st ≤ 8 ∧ X z 131 0 [some (.ref x), some (.int a0)] [] (0, 0) (K, I, R, L, sz, ex) (aftr (X z) mT 132 66 ls st (0, 0) Q)) := by
  rw [x132_66]
  refine (inv_v (As := [.int a0]) (rm := mi132) (ry := mi131) rfl rfl (by decide) rfl rfl (Nat.le_of_ble_eq_true rfl) rfl rfl).trans ?_
  refine congrArg _ ?_
  exact Eq.trans (congrArg _ (and_t (Nat.zero_le _))) (congrArg _ (and_t (Nat.zero_le _)))
theorem v133_4 {z : P0} {ls : Lcs} {st : List Value} {c n : Nat} {K : Nat → Nat × Nat} {I : Nat → Nat → Int32} {R : Nat → Nat → Option Nat} {L : Nat → Nat → Int64} {sz : Nat} {ex : Bool} {Q : Res → Mem → Prop}  {a0 : Int32} {a1 : Int32} {a2 : Int32} : X z 133 4 ls (.int a2 :: .int a1 :: .int a0 :: st) (0, 0) (K, I, R, L, sz, ex) Q = (wsum st ≤ 8 ∧ X z 106 0 [some (.int a0), some (.int a1), some (.int a2)] [] (0, 0) (K, I, R, L, sz, ex) (aftr (X z) mT 133 4 ls st (0, 0) Q)) := by
  rw [x133_4]
  refine (inv_s (As := [.int a0, .int a1, .int a2]) (rm := mi133) (ry := mi106) rfl rfl (by decide) rfl rfl (Nat.le_of_ble_eq_true rfl) rfl (by decide) (by decide)).trans ?_
  exact Eq.trans (congrArg _ (and_t (Nat.zero_le _))) (congrArg _ (and_t (Nat.zero_le _)))
theorem v133_13 {z : P0} {ls : Lcs} {st : List Value} {c n : Nat} {K : Nat → Nat × Nat} {I : Nat → Nat → Int32} {R : Nat → Nat → Option Nat} {L : Nat → Nat → Int64} {sz : Nat} {ex : Bool} {Q : Res → Mem → Prop}  {a0 : Int32} {a1 : Int32} {a2 : Int32} : X z 133 13 ls (.int a2 :: .int a1 :: .int a0 :: st) (0, 0) (K, I, R, L, sz, ex) Q = (wsum st ≤ 8 ∧ X z 106 0 [some (.int a0), some (.int a1), some (.int a2)] [] (0, 0) (K, I, R, L, sz, ex) (aftr (X z) mT 133 13 ls st (0, 0) Q)) := by
  rw [x133_13]
  refine (inv_s (As := [.int a0, .int a1, .int a2]) (rm := mi133) (ry := mi106) rfl rfl (by decide) rfl rfl (Nat.le_of_ble_eq_true rfl) rfl (by decide) (by decide)).trans ?_
  exact Eq.trans (congrArg _ (and_t (Nat.zero_le _))) (congrArg _ (and_t (Nat.zero_le _)))
theorem v133_21 {z : P0} {ls : Lcs} {st : List Value} {c n : Nat} {K : Nat → Nat × Nat} {I : Nat → Nat → Int32} {R : Nat → Nat → Option Nat} {L : Nat → Nat → Int64} {sz : Nat} {ex : Bool} {Q : Res → Mem → Prop} {x : Nat} {a0 : Int32} : X z 133 21 ls (.int a0 :: .ref x :: st) (0, 0) (K, I, R, L, sz, ex) Q = ((K x).1 = 111 ∧ wsum st ≤ 8 ∧ X z 150 0 [some (.ref x), some (.int a0), none] [] (0, 0) (K, I, R, L, sz, ex) (aftr (X z) mT 133 21 ls st (0, 0) Q)) := by
  rw [x133_21]
  refine (inv_v (As := [.int a0]) (rm := mi133) (ry := mi150) rfl rfl (by decide) rfl rfl (Nat.le_of_ble_eq_true rfl) rfl rfl).trans ?_
  refine congrArg _ ?_
  exact Eq.trans (congrArg _ (and_t (Nat.zero_le _))) (congrArg _ (and_t (Nat.zero_le _)))
theorem v133_33 {z : P0} {ls : Lcs} {st : List Value} {c n : Nat} {K : Nat → Nat × Nat} {I : Nat → Nat → Int32} {R : Nat → Nat → Option Nat} {L : Nat → Nat → Int64} {sz : Nat} {ex : Bool} {Q : Res → Mem → Prop} {x : Nat} {a0 : Int32} : X z 133 33 ls (.int a0 :: .ref x :: st) (0, 0) (K, I, R, L, sz, ex) Q = ((K x).1 = 111 ∧ wsum st ≤ 8 ∧ X z 151 0 [some (.ref x), some (.int a0)] [] (0, 0) (K, I, R, L, sz, ex) (aftr (X z) mT 133 33 ls st (0, 0) Q)) := by
  rw [x133_33]
  refine (inv_v (As := [.int a0]) (rm := mi133) (ry := mi151) rfl rfl (by decide) rfl rfl (Nat.le_of_ble_eq_true rfl) rfl rfl).trans ?_
  refine congrArg _ ?_
  exact Eq.trans (congrArg _ (and_t (Nat.zero_le _))) (congrArg _ (and_t (Nat.zero_le _)))
theorem v133_84 {z : P0} {ls : Lcs} {st : List Value} {c n : Nat} {K : Nat → Nat × Nat} {I : Nat → Nat → Int32} {R : Nat → Nat → Option Nat} {L : Nat → Nat → Int64} {sz : Nat} {ex : Bool} {Q : Res → Mem → Prop} {x : Nat}  : X z 133 84 ls (.ref x :: st) (0, 0) (K, I, R, L, sz, ex) Q = ((K x).1 = 111 ∧ wsum st ≤ 8 ∧ X z 107 0 [some (.ref x), none] [] (0, 0) (K, I, R, L, sz, ex) (aftr (X z) mT 133 84 ls st (0, 0) Q)) := by
  rw [x133_84]
  refine (inv_v (As := []) (rm := mi133) (ry := mi107) rfl rfl (by decide) rfl rfl (Nat.le_of_ble_eq_true rfl) rfl rfl).trans ?_
  refine congrArg _ ?_
  exact Eq.trans (congrArg _ (and_t (Nat.zero_le _))) (congrArg _ (and_t (Nat.zero_le _)))
theorem v134_2 {z : P0} {ls : Lcs} {st : List Value} {c n : Nat} {K : Nat → Nat × Nat} {I : Nat → Nat → Int32} {R : Nat → Nat → Option Nat} {L : Nat → Nat → Int64} {sz : Nat} {ex : Bool} {Q : Res → Mem → Prop} {x : Nat} {a0 : Int32} : X z 134 2 ls (.int a0 :: .ref x :: st) (0, 0) (K, I, R, L, sz, ex) Q = ((K x).1 = 111 ∧ wsum st ≤ 8 ∧ X z 150 0 [some (.ref x), some (.int a0), none] [] (0, 0) (K, I, R, L, sz, ex) (aftr (X z) mT 134 2 ls st (0, 0) Q)) := by
  rw [x134_2]
  refine (inv_v (As := [.int a0]) (rm := mi134) (ry := mi150) rfl rfl (by decide) rfl rfl (Nat.le_of_ble_eq_true rfl) rfl rfl).trans ?_
  refine congrArg _ ?_
  exact Eq.trans (congrArg _ (and_t (Nat.zero_le _))) (congrArg _ (and_t (Nat.zero_le _)))
theorem v134_14 {z : P0} {ls : Lcs} {st : List Value} {c n : Nat} {K : Nat → Nat × Nat} {I : Nat → Nat → Int32} {R : Nat → Nat → Option Nat} {L : Nat → Nat → Int64} {sz : Nat} {ex : Bool} {Q : Res → Mem → Prop} {x : Nat} {a0 : Int32} : X z 134 14 ls (.int a0 :: .ref x :: st) (0, 0) (K, I, R, L, sz, ex) Q = ((K x).1 = 111 ∧ wsum st ≤ 8 ∧ X z 151 0 [some (.ref x), some (.int a0)] [] (0, 0) (K, I, R, L, sz, ex) (aftr (X z) mT 134 14 ls st (0, 0) Q)) := by
  rw [x134_14]
  refine (inv_v (As := [.int a0]) (rm := mi134) (ry := mi151) rfl rfl (by decide) rfl rfl (Nat.le_of_ble_eq_true rfl) rfl rfl).trans ?_
  refine congrArg _ ?_
  exact Eq.trans (congrArg _ (and_t (Nat.zero_le _))) (congrArg _ (and_t (Nat.zero_le _)))
theorem v134_65 {z : P0} {ls : Lcs} {st : List Value} {c n : Nat} {K : Nat → Nat × Nat} {I : Nat → Nat → Int32} {R : Nat → Nat → Option Nat} {L : Nat → Nat → Int64} {sz : Nat} {ex : Bool} {Q : Res → Mem → Prop} {x : Nat}  : X z 134 65 ls (.ref x :: st) (0, 0) (K, I, R, L, sz, ex) Q = ((K x).1 = 111 ∧ wsum st ≤ 8 ∧ X z 107 0 [some (.ref x), none] [] (0, 0) (K, I, R, L, sz, ex) (aftr (X z) mT 134 65 ls st (0, 0) Q)) := by
  rw [x134_65]
  refine (inv_v (As := []) (rm := mi134) (ry := mi107) rfl rfl (by decide) rfl rfl (Nat.le_of_ble_eq_true rfl) rfl rfl).trans ?_
  refine congrArg _ ?_
  exact Eq.trans (congrArg _ (and_t (Nat.zero_le _))) (congrArg _ (and_t (Nat.zero_le _)))
theorem v135_2 {z : P0} {ls : Lcs} {st : List Value} {c n : Nat} {K : Nat → Nat × Nat} {I : Nat → Nat → Int32} {R : Nat → Nat → Option Nat} {L : Nat → Nat → Int64} {sz : Nat} {ex : Bool} {Q : Res → Mem → Prop} {x : Nat} {a0 : Int32} : X z 135 2 ls (.int a0 :: .ref x :: st) (0, 0) (K, I, R, L, sz, ex) Q = ((K x).1 = 111 ∧ wsum st ≤ 8 ∧ X z 150 0 [some (.ref x), some (.int a0), none] [] (0, 0) (K, I, R, L, sz, ex) (aftr (X z) mT 135 2 ls st (0, 0) Q)) := by
  rw [x135_2]
  refine (inv_v (As := [.int a0]) (rm := mi135) (ry := mi150) rfl rfl (by decide) rfl rfl (Nat.le_of_ble_eq_true rfl) rfl rfl).trans ?_
  refine congrArg _ ?_
  exact Eq.trans (congrArg _ (and_t (Nat.zero_le _))) (congrArg _ (and_t (Nat.zero_le _)))
theorem v135_14 {z : P0} {ls : Lcs} {st : List Value} {c n : Nat} {K : Nat → Nat × Nat} {I : Nat → Nat → Int32} {R : Nat → Nat → Option Nat} {L : Nat → Nat → Int64} {sz : Nat} {ex : Bool} {Q : Res → Mem → Prop} {x : Nat} {a0 : Int32} : X z 135 14 ls (.int a0 :: .ref x :: st) (0, 0) (K, I, R, L, sz, ex) Q = ((K x).1 = 111 ∧ wsum st ≤ 8 ∧ X z 151 0 [some (.ref x), some (.int a0)] [] (0, 0) (K, I, R, L, sz, ex) (aftr (X z) mT 135 14 ls st (0, 0) Q)) := by
  rw [x135_14]
  refine (inv_v (As := [.int a0]) (rm := mi135) (ry := mi151) rfl rfl (by decide) rfl rfl (Nat.le_of_ble_eq_true rfl) rfl rfl).trans ?_
  refine congrArg _ ?_
  exact Eq.trans (congrArg _ (and_t (Nat.zero_le _))) (congrArg _ (and_t (Nat.zero_le _)))
theorem v135_49 {z : P0} {ls : Lcs} {st : List Value} {c n : Nat} {K : Nat → Nat × Nat} {I : Nat → Nat → Int32} {R : Nat → Nat → Option Nat} {L : Nat → Nat → Int64} {sz : Nat} {ex : Bool} {Q : Res → Mem → Prop} {x : Nat}  : X z 135 49 ls (.ref x :: st) (0, 0) (K, I, R, L, sz, ex) Q = ((K x).1 = 111 ∧ wsum st ≤ 8 ∧ X z 107 0 [some (.ref x), none] [] (0, 0) (K, I, R, L, sz, ex) (aftr (X z) mT 135 49 ls st (0, 0) Q)) := by
  rw [x135_49]
  refine (inv_v (As := []) (rm := mi135) (ry := mi107) rfl rfl (by decide) rfl rfl (Nat.le_of_ble_eq_true rfl) rfl rfl).trans ?_
  refine congrArg _ ?_
  exact Eq.trans (congrArg _ (and_t (Nat.zero_le _))) (congrArg _ (and_t (Nat.zero_le _)))
theorem v135_163 {z : P0} {ls : Lcs} {st : List Value} {c n : Nat} {K : Nat → Nat × Nat} {I : Nat → Nat → Int32} {R : Nat → Nat → Option Nat} {L : Nat → Nat → Int64} {sz : Nat} {ex : Bool} {Q : Res → Mem → Prop} {x : Nat}  : X z 135 163 ls (.ref x :: st) (0, 0) (K, I, R, L, sz, ex) Q = ((K x).1 = 111 ∧ wsum st ≤ 8 ∧ X z 111 0 [some (.ref x), none, none] [] (0, 0) (K, I, R, L, sz, ex) (aftr (X z) mT 135 163 ls st (0, 0) Q)) := by
  rw [x135_163]
  refine (inv_v (As := []) (rm := mi135) (ry := mi111) rfl rfl (by decide) rfl rfl (Nat.le_of_ble_eq_true rfl) rfl rfl).trans ?_
  refine congrArg _ ?_
  exact Eq.trans (congrArg _ (and_t (Nat.zero_le _))) (congrArg _ (and_t (Nat.zero_le _)))
theorem v136_3 {z : P0} {ls : Lcs} {st : List Value} {c n : Nat} {K : Nat → Nat × Nat} {I : Nat → Nat → Int32} {R : Nat → Nat → Option Nat} {L : Nat → Nat → Int64} {sz : Nat} {ex : Bool} {Q : Res → Mem → Prop} {x : Nat} {a0 : Int32} : X z 136 3 ls (.int a0 :: .ref x :: st) (0, 0) (K, I, R, L, sz, ex) Q = ((K x).1 = 111 ∧ wsum st ≤ 8 ∧ X z 108 0 [some (.ref x), some (.int a0)] [] (0, 0) (K, I, R, L, sz, ex) (aftr (X z) mT 136 3 ls st (0, 0) Q)) := by
  rw [x136_3]
  refine (inv_v (As := [.int a0]) (rm := mi136) (ry := mi108) rfl rfl (by decide) rfl rfl (Nat.le_of_ble_eq_true rfl) rfl rfl).trans ?_
  refine congrArg _ ?_
  exact Eq.trans (congrArg _ (and_t (Nat.zero_le _))) (congrArg _ (and_t (Nat.zero_le _)))
theorem v136_17 {z : P0} {ls : Lcs} {st : List Value} {c n : Nat} {K : Nat → Nat × Nat} {I : Nat → Nat → Int32} {R : Nat → Nat → Option Nat} {L : Nat → Nat → Int64} {sz : Nat} {ex : Bool} {Q : Res → Mem → Prop}  {a0 : Int32} {a1 : Int32} {a2 : Int32} : X z 136 17 ls (.int a2 :: .int a1 :: .int a0 :: st) (0, 0) (K, I, R, L, sz, ex) Q = (wsum st ≤ 8 ∧ X z 106 0 [some (.int a0), some (.int a1), some (.int a2)] [] (0, 0) (K, I, R, L, sz, ex) (aftr (X z) mT 136 17 ls st (0, 0) Q)) := by
  rw [x136_17]
  refine (inv_s (As := [.int a0, .int a1, .int a2]) (rm := mi136) (ry := mi106) rfl rfl (by decide) rfl rfl (Nat.le_of_ble_eq_true rfl) rfl (by decide) (by decide)).trans ?_
  exact Eq.trans (congrArg _ (and_t (Nat.zero_le _))) (congrArg _ (and_t (Nat.zero_le _)))
theorem v136_41 {z : P0} {ls : Lcs} {st : List Value} {c n : Nat} {K : Nat → Nat × Nat} {I : Nat → Nat → Int32} {R : Nat → Nat → Option Nat} {L : Nat → Nat → Int64} {sz : Nat} {ex : Bool} {Q : Res → Mem → Prop} {x : Nat}  : X z 136 41 ls (.ref x :: st) (0, 0) (K, I, R, L, sz, ex) Q = ((K x).1 = 111 ∧ wsum st ≤ 8 ∧ X z 107 0 [some (.ref x), none] [] (0, 0) (K, I, R, L, sz, ex) (aftr (X z) mT 136 41 ls st (0, 0) Q)) := by
  rw [x136_41]
  refine (inv_v (As := []) (rm := mi136) (ry := mi107) rfl rfl (by decide) rfl rfl (Nat.le_of_ble_eq_true rfl) rfl rfl).trans ?_
  refine congrArg _ ?_
  exact Eq.trans (congrArg _ (and_t (Nat.zero_le _))) (congrArg _ (and_t (Nat.zero_le _)))
theorem v137_3 {z : P0} {ls : Lcs} {st : List Value} {c n : Nat} {K : Nat → Nat × Nat} {I : Nat → Nat → Int32} {R : Nat → Nat → Option Nat} {L : Nat → Nat → Int64} {sz : Nat} {ex : Bool} {Q : Res → Mem → Prop} {x : Nat} {a0 : Int32} : X z 137 3 ls (.int a0 :: .ref x :: st) (0, 0) (K, I, R, L, sz, ex) Q = ((K x).1 = 111 ∧ wsum st ≤ 8 ∧ X z 108 0 [some (.ref x), some (.int a0)] [] (0, 0) (K, I, R, L, sz, ex) (aftr (X z) mT 137 3 ls st (0, 0) Q)) := by
  rw [x137_3]
  refine (inv_v (As := [.int a0]) (rm := mi137) (ry := mi108) rfl rfl (by decide) rfl rfl (Nat.le_of_ble_eq_true rfl) rfl rfl).trans ?_
  refine congrArg _ ?_
  exact Eq.trans (congrArg _ (and_t (Nat.zero_le _))) (congrArg _ (and_t (Nat.zero_le _)))
theorem v137_16 {z : P0} {ls : Lcs} {st : List Value} {c n : Nat} {K : Nat → Nat × Nat} {I : Nat → Nat → Int32} {R : Nat → Nat → Option Nat} {L : Nat → Nat → Int64} {sz : Nat} {ex : Bool} {Q : Res → Mem → Prop} {x : Nat} {a0 : Int32} : X z 137 16 ls (.int a0 :: .ref x :: st) (0, 0) (K, I, R, L, sz, ex) Q = ((K x).1 = 111 ∧ wsum st ≤ 8 ∧ X z 109 0 [some (.ref x), some (.int a0)] [] (0, 0) (K, I, R, L, sz, ex) (aftr (X z) mT 137 16 ls st (0, 0) Q)) := by
  rw [x137_16]
  refine (inv_v (As := [.int a0]) (rm := mi137) (ry := mi109) rfl rfl (by decide) rfl rfl (Nat.le_of_ble_eq_true rfl) rfl rfl).trans ?_
  refine congrArg _ ?_
  exact Eq.trans (congrArg _ (and_t (Nat.zero_le _))) (congrArg _ (and_t (Nat.zero_le _)))
theorem v137_40 {z : P0} {ls : Lcs} {st : List Value} {c n : Nat} {K : Nat → Nat × Nat} {I : Nat → Nat → Int32} {R : Nat → Nat → Option Nat} {L : Nat → Nat → Int64} {sz : Nat} {ex : Bool} {Q : Res → Mem → Prop} {x : Nat}  : X z 137 40 ls (.ref x :: st) (0, 0) (K, I, R, L, sz, ex) Q = ((K x).1 = 111 ∧ wsum st ≤ 8 ∧ X z 107 0 [some (.ref x), none] [] (0, 0) (K, I, R, L, sz, ex) (aftr (X z) mT 137 40 ls st (0, 0) Q)) := by
  rw [x137_40]
  refine (inv_v (As := []) (rm := mi137) (ry := mi107) rfl rfl (by decide) rfl rfl (Nat.le_of_ble_eq_true rfl) rfl rfl).trans ?_
  refine congrArg _ ?_
  exact Eq.trans (congrArg _ (and_t (Nat.zero_le _))) (congrArg _ (and_t (Nat.zero_le _)))
theorem v139_3 {z : P0} {ls : Lcs} {st : List Value} {c n : Nat} {K : Nat → Nat × Nat} {I : Nat → Nat → Int32} {R : Nat → Nat → Option Nat} {L : Nat → Nat → Int64} {sz : Nat} {ex : Bool} {Q : Res → Mem → Prop} {x : Nat} {a0 : Int32} : X z 139 3 ls (.int a0 :: .ref x :: st) (0, 0) (K, I, R, L, sz, ex) Q = ((K x).1 = 111 ∧ wsum st ≤ 8 ∧ X z 108 0 [some (.ref x), some (.int a0)] [] (0, 0) (K, I, R, L, sz, ex) (aftr (X z) mT 139 3 ls st (0, 0) Q)) := by
  rw [x139_3]
  refine (inv_v (As := [.int a0]) (rm := mi139) (ry := mi108) rfl rfl (by decide) rfl rfl (Nat.le_of_ble_eq_true rfl) rfl rfl).trans ?_
  refine congrArg _ ?_
  exact Eq.trans (congrArg _ (and_t (Nat.zero_le _))) (congrArg _ (and_t (Nat.zero_le _)))
theorem v139_27 {z : P0} {ls : Lcs} {st : List Value} {c n : Nat} {K : Nat → Nat × Nat} {I : Nat → Nat → Int32} {R : Nat → Nat → Option Nat} {L : Nat → Nat → Int64} {sz : Nat} {ex : Bool} {Q : Res → Mem → Prop} {x : Nat}  : X z 139 27 ls (.ref x :: st) (0, 0) (K, I, R, L, sz, ex) Q = ((K x).1 = 111 ∧ wsum st ≤ 8 ∧ X z 107 0 [some (.ref x), none] [] (0, 0) (K, I, R, L, sz, ex) (aftr (X z) mT 139 27 ls st (0, 0) Q)) := by
  rw [x139_27]
  refine (inv_v (As := []) (rm := mi139) (ry := mi107) rfl rfl (by decide) rfl rfl (Nat.le_of_ble_eq_true rfl) rfl rfl).trans ?_
  refine congrArg _ ?_
  exact Eq.trans (congrArg _ (and_t (Nat.zero_le _))) (congrArg _ (and_t (Nat.zero_le _)))
theorem v139_49 {z : P0} {ls : Lcs} {st : List Value} {c n : Nat} {K : Nat → Nat × Nat} {I : Nat → Nat → Int32} {R : Nat → Nat → Option Nat} {L : Nat → Nat → Int64} {sz : Nat} {ex : Bool} {Q : Res → Mem → Prop} {x : Nat}  : X z 139 49 ls (.ref x :: st) (0, 0) (K, I, R, L, sz, ex) Q = ((K x).1 = 111 ∧ wsum st ≤ 8 ∧ X z 138 0 [some (.ref x), none, none] [] (0, 0) (K, I, R, L, sz, ex) (aftr (X z) mT 139 49 ls st (0, 0) Q)) := by
  rw [x139_49]
  refine (inv_v (As := []) (rm := mi139) (ry := mi138) rfl rfl (by decide) rfl rfl (Nat.le_of_ble_eq_true rfl) rfl rfl).trans ?_
  refine congrArg _ ?_
  exact Eq.trans (congrArg _ (and_t (Nat.zero_le _))) (congrArg _ (and_t (Nat.zero_le _)))
theorem v140_3 {z : P0} {ls : Lcs} {st : List Value} {c n : Nat} {K : Nat → Nat × Nat} {I : Nat → Nat → Int32} {R : Nat → Nat → Option Nat} {L : Nat → Nat → Int64} {sz : Nat} {ex : Bool} {Q : Res → Mem → Prop}  {a0 : Int32} {a1 : Int32} {a2 : Int32} : X z 140 3 ls (.int a2 :: .int a1 :: .int a0 :: st) (0, 0) (K, I, R, L, sz, ex) Q = (wsum st ≤ 8 ∧ X z 106 0 [some (.int a0), some (.int a1), some (.int a2)] [] (0, 0) (K, I, R, L, sz, ex) (aftr (X z) mT 140 3 ls st (0, 0) Q)) := by
  rw [x140_3]
  refine (inv_s (As := [.int a0, .int a1, .int a2]) (rm := mi140) (ry := mi106) rfl rfl (by decide) rfl rfl (Nat.le_of_ble_eq_true rfl) rfl (by decide) (by decide)).trans ?_
  exact Eq.trans (congrArg _ (and_t (Nat.zero_le _))) (congrArg _ (and_t (Nat.zero_le _)))
theorem v141_40 {z : P0} {ls : Lcs} {st : List Value} {c n : Nat} {K : Nat → Nat × Nat} {I : Nat → Nat → Int32} {R : Nat → Nat → Option Nat} {L : Nat → Nat → Int64} {sz : Nat} {ex : Bool} {Q : Res → Mem → Prop}  {a0 : Int32} {a1 : Int32} {a2 : Int32} : X z 141 40 ls (.int a2 :: .int a1 :: .int a0 :: st) (0, 0) (K, I, R, L, sz, ex) Q = (wsum st ≤ 8 ∧ X z 106 0 [some (.int a0), some (.int a1), some (.int a2)] [] (0, 0) (K, I, R, L, sz, ex) (aftr (X z) mT 141 40 ls st (0, 0) Q)) := by
  rw [x141_40]
  refine (inv_s (As := [.int a0, .int a1, .int a2]) (rm := mi141) (ry := mi106) rfl rfl (by decide) rfl rfl (Nat.le_of_ble_eq_true rfl) rfl (by decide) (by decide)).trans ?_
  exact Eq.trans (congrArg _ (and_t (Nat.zero_le _))) (congrArg _ (and_t (Nat.zero_le _)))
theorem v141_48 {z : P0} {ls : Lcs} {st : List Value} {c n : Nat} {K : Nat → Nat × Nat} {I : Nat → Nat → Int32} {R : Nat → Nat → Option Nat} {L : Nat → Nat → Int64} {sz : Nat} {ex : Bool} {Q : Res → Mem → Prop}  {a0 : Int32} {a1 : Int32} {a2 : Int32} : X z 141 48 ls (.int a2 :: .int a1 :: .int a0 :: st) (0, 0) (K, I, R, L, sz, ex) Q = (wsum st ≤ 8 ∧ X z 106 0 [some (.int a0), some (.int a1), some (.int a2)] [] (0, 0) (K, I, R, L, sz, ex) (aftr (X z) mT 141 48 ls st (0, 0) Q)) := by
  rw [x141_48]
  refine (inv_s (As := [.int a0, .int a1, .int a2]) (rm := mi141) (ry := mi106) rfl rfl (by decide) rfl rfl (Nat.le_of_ble_eq_true rfl) rfl (by decide) (by decide)).trans ?_
  exact Eq.trans (congrArg _ (and_t (Nat.zero_le _))) (congrArg _ (and_t (Nat.zero_le _)))
theorem v141_56 {z : P0} {ls : Lcs} {st : List Value} {c n : Nat} {K : Nat → Nat × Nat} {I : Nat → Nat → Int32} {R : Nat → Nat → Option Nat} {L : Nat → Nat → Int64} {sz : Nat} {ex : Bool} {Q : Res → Mem → Prop}  {a0 : Int32} {a1 : Int32} {a2 : Int32} : X z 141 56 ls (.int a2 :: .int a1 :: .int a0 :: st) (0, 0) (K, I, R, L, sz, ex) Q = (wsum st ≤ 8 ∧ X z 106 0 [some (.int a0), some (.int a1), some (.int a2)] [] (0, 0) (K, I, R, L, sz, ex) (aftr (X z) mT 141 56 ls st (0, 0) Q)) := by
  rw [x141_56]
  refine (inv_s (As := [.int a0, .int a1, .int a2]) (rm := mi141) (ry := mi106) rfl rfl (by decide) rfl rfl (Nat.le_of_ble_eq_true rfl) rfl (by decide) (by decide)).trans ?_
  exact Eq.trans (congrArg _ (and_t (Nat.zero_le _))) (congrArg _ (and_t (Nat.zero_le _)))
theorem v141_64 {z : P0} {ls : Lcs} {st : List Value} {c n : Nat} {K : Nat → Nat × Nat} {I : Nat → Nat → Int32} {R : Nat → Nat → Option Nat} {L : Nat → Nat → Int64} {sz : Nat} {ex : Bool} {Q : Res → Mem → Prop}  {a0 : Int32} {a1 : Int32} {a2 : Int32} : X z 141 64 ls (.int a2 :: .int a1 :: .int a0 :: st) (0, 0) (K, I, R, L, sz, ex) Q = (wsum st ≤ 8 ∧ X z 106 0 [some (.int a0), some (.int a1), some (.int a2)] [] (0, 0) (K, I, R, L, sz, ex) (aftr (X z) mT 141 64 ls st (0, 0) Q)) := by
  rw [x141_64]
  refine (inv_s (As := [.int a0, .int a1, .int a2]) (rm := mi141) (ry := mi106) rfl rfl (by decide) rfl rfl (Nat.le_of_ble_eq_true rfl) rfl (by decide) (by decide)).trans ?_
  exact Eq.trans (congrArg _ (and_t (Nat.zero_le _))) (congrArg _ (and_t (Nat.zero_le _)))
theorem v141_72 {z : P0} {ls : Lcs} {st : List Value} {c n : Nat} {K : Nat → Nat × Nat} {I : Nat → Nat → Int32} {R : Nat → Nat → Option Nat} {L : Nat → Nat → Int64} {sz : Nat} {ex : Bool} {Q : Res → Mem → Prop}  {a0 : Int32} {a1 : Int32} {a2 : Int32} : X z 141 72 ls (.int a2 :: .int a1 :: .int a0 :: st) (0, 0) (K, I, R, L, sz, ex) Q = (wsum st ≤ 8 ∧ X z 106 0 [some (.int a0), some (.int a1), some (.int a2)] [] (0, 0) (K, I, R, L, sz, ex) (aftr (X z) mT 141 72 ls st (0, 0) Q)) := by
  rw [x141_72]
  refine (inv_s (As := [.int a0, .int a1, .int a2]) (rm := mi141) (ry := mi106) rfl rfl (by decide) rfl rfl (Nat.le_of_ble_eq_true rfl) rfl (by decide) (by decide)).trans ?_
  exact Eq.trans (congrArg _ (and_t (Nat.zero_le _))) (congrArg _ (and_t (Nat.zero_le _)))
theorem v142_2 {z : P0} {ls : Lcs} {st : List Value} {c n : Nat} {K : Nat → Nat × Nat} {I : Nat → Nat → Int32} {R : Nat → Nat → Option Nat} {L : Nat → Nat → Int64} {sz : Nat} {ex : Bool} {Q : Res → Mem → Prop}  {a0 : Int32} : X z 142 2 ls (.int a0 :: st) (0, 0) (K, I, R, L, sz, ex) Q = (wsum st ≤ 8 ∧ X z 140 0 [some (.int a0)] [] (0, 0) (K, I, R, L, sz, ex) (aftr (X z) mT 142 2 ls st (0, 0) Q)) := by
  rw [x142_2]
  refine (inv_s (As := [.int a0]) (rm := mi142) (ry := mi140) rfl rfl (by decide) rfl rfl (Nat.le_of_ble_eq_true rfl) rfl (by decide) (by decide)).trans ?_
  exact Eq.trans (congrArg _ (and_t (Nat.zero_le _))) (congrArg _ (and_t (Nat.zero_le _)))
theorem v142_14 {z : P0} {ls : Lcs} {st : List Value} {c n : Nat} {K : Nat → Nat × Nat} {I : Nat → Nat → Int32} {R : Nat → Nat → Option Nat} {L : Nat → Nat → Int64} {sz : Nat} {ex : Bool} {Q : Res → Mem → Prop}  {a0 : Int32} {a1 : Int32} : X z 142 14 ls (.int a1 :: .int a0 :: st) (0, 0) (K, I, R, L, sz, ex) Q = (wsum st ≤ 8 ∧ X z 141 0 [some (.int a0), some (.int a1)] [] (0, 0) (K, I, R, L, sz, ex) (aftr (X z) mT 142 14 ls st (0, 0) Q)) := by
  rw [x142_14]
  refine (inv_s (As := [.int a0, .int a1]) (rm := mi142) (ry := mi141) rfl rfl (by decide) rfl rfl (Nat.le_of_ble_eq_true rfl) rfl (by decide) (by decide)).trans ?_
  exact Eq.trans (congrArg _ (and_t (Nat.zero_le _))) (congrArg _ (and_t (Nat.zero_le _)))
theorem v142_38 {z : P0} {ls : Lcs} {st : List Value} {c n : Nat} {K : Nat → Nat × Nat} {I : Nat → Nat → Int32} {R : Nat → Nat → Option Nat} {L : Nat → Nat → Int64} {sz : Nat} {ex : Bool} {Q : Res → Mem → Prop} {x : Nat}  : X z 142 38 ls (.ref x :: st) (0, 0) (K, I, R, L, sz, ex) Q = ((K x).1 = 111 ∧ wsum st ≤ 8 ∧ X z 107 0 [some (.ref x), none] [] (0, 0) (K, I, R, L, sz, ex) (aftr (X z) mT 142 38 ls st (0, 0) Q)) := by
  rw [x142_38]
  refine (inv_v (As := []) (rm := mi142) (ry := mi107) rfl rfl (by decide) rfl rfl (Nat.le_of_ble_eq_true rfl) rfl rfl).trans ?_
  refine congrArg _ ?_
  exact Eq.trans (congrArg _ (and_t (Nat.zero_le _))) (congrArg _ (and_t (Nat.zero_le _)))
theorem v143_1 {z : P0} {ls : Lcs} {st : List Value} {c n : Nat} {K : Nat → Nat × Nat} {I : Nat → Nat → Int32} {R : Nat → Nat → Option Nat} {L : Nat → Nat → Int64} {sz : Nat} {ex : Bool} {Q : Res → Mem → Prop} {x : Nat}  : X z 143 1 ls (.ref x :: st) (0, 0) (K, I, R, L, sz, ex) Q = ((K x).1 = 111 ∧ wsum st ≤ 8 ∧ X z 130 0 [some (.ref x), none] [] (0, 0) (K, I, R, L, sz, ex) (aftr (X z) mT 143 1 ls st (0, 0) Q)) := by
  rw [x143_1]
  refine (inv_v (As := []) (rm := mi143) (ry := mi130) rfl rfl (by decide) rfl rfl (Nat.le_of_ble_eq_true rfl) rfl rfl).trans ?_
  refine congrArg _ ?_
  exact Eq.trans (congrArg _ (and_t (Nat.zero_le _))) (congrArg _ (and_t (Nat.zero_le _)))
theorem v143_17 {z : P0} {ls : Lcs} {st : List Value} {c n : Nat} {K : Nat → Nat × Nat} {I : Nat → Nat → Int32} {R : Nat → Nat → Option Nat} {L : Nat → Nat → Int64} {sz : Nat} {ex : Bool} {Q : Res → Mem → Prop} {x : Nat} {a0 : Int32} : X z 143 17 ls (.int a0 :: .ref x :: st) (0, 0) (K, I, R, L, sz, ex) Q = ((K x).1 = 111 ∧ wsum st ≤ 8 ∧ X z 132 0 [some (.ref x), some (.int a0), none, none, none] [] (0, 0) (K, I, R, L, sz, ex) (aftr (X z) mT 143 17 ls st (0, 0) Q)) := by
  rw [x143_17]
  refine (inv_v (As := [.int a0]) (rm := mi143) (ry := mi132) rfl rfl (by decide) rfl rfl (Nat.le_of_ble_eq_true rfl) rfl rfl).trans ?_
  refine congrArg _ ?_
  exact Eq.trans (congrArg _ (and_t (Nat.zero_le _))) (congrArg _ (and_t (Nat.zero_le _)))
theorem v143_41 {z : P0} {ls : Lcs} {st : List Value} {c n : Nat} {K : Nat → Nat × Nat} {I : Nat → Nat → Int32} {R : Nat → Nat → Option Nat} {L : Nat → Nat → Int64} {sz : Nat} {ex : Bool} {Q : Res → Mem → Prop} {x : Nat}  : X z 143 41 ls (.ref x :: st) (0, 0) (K, I, R, L, sz, ex) Q = ((K x).1 = 111 ∧ wsum st ≤ 8 ∧ X z 107 0 [some (.ref x), none] [] (0, 0) (K, I, R, L, sz, ex) (aftr (X z) mT 143 41 ls st (0, 0) Q)) := by
  rw [x143_41]
  refine (inv_v (As := []) (rm := mi143) (ry := mi107) rfl rfl (by decide) rfl rfl (Nat.le_of_ble_eq_true rfl) rfl rfl).trans ?_
  refine congrArg _ ?_
  exact Eq.trans (congrArg _ (and_t (Nat.zero_le _))) (congrArg _ (and_t (Nat.zero_le _)))
theorem v143_46 {z : P0} {ls : Lcs} {st : List Value} {c n : Nat} {K : Nat → Nat × Nat} {I : Nat → Nat → Int32} {R : Nat → Nat → Option Nat} {L : Nat → Nat → Int64} {sz : Nat} {ex : Bool} {Q : Res → Mem → Prop} {x : Nat} {a0 : Int32} : X z 143 46 ls (.int a0 :: .ref x :: st) (0, 0) (K, I, R, L, sz, ex) Q = ((K x).1 = 111 ∧ wsum st ≤ 8 ∧ X z 132 0 [some (.ref x), some (.int a0), none, none, none] [] (0, 0) (K, I, R, L, sz, ex) (aftr (X z) mT 143 46 ls st (0, 0) Q)) := by
  rw [x143_46]
  refine (inv_v (As := [.int a0]) (rm := mi143) (ry := mi132) rfl rfl (by decide) rfl rfl (Nat.le_of_ble_eq_true rfl) rfl rfl).trans ?_
  refine congrArg _ ?_
  exact Eq.trans (congrArg _ (and_t (Nat.zero_le _))) (congrArg _ (and_t (Nat.zero_le _)))
theorem v143_71 {z : P0} {ls : Lcs} {st : List Value} {c n : Nat} {K : Nat → Nat × Nat} {I : Nat → Nat → Int32} {R : Nat → Nat → Option Nat} {L : Nat → Nat → Int64} {sz : Nat} {ex : Bool} {Q : Res → Mem → Prop} {x : Nat} {a0 : Int32} : X z 143 71 ls (.int a0 :: .ref x :: st) (0, 0) (K, I, R, L, sz, ex) Q = ((K x).1 = 111 ∧ wsum st ≤ 8 ∧ X z 132 0 [some (.ref x), some (.int a0), none, none, none] [] (0, 0) (K, I, R, L, sz, ex) (aftr (X z) mT 143 71 ls st (0, 0) Q)) := by
  rw [x143_71]
  refine (inv_v (As := [.int a0]) (rm := mi143) (ry := mi132) rfl rfl (by decide) rfl rfl (Nat.le_of_ble_eq_true rfl) rfl rfl).trans ?_
  refine congrArg _ ?_
  exact Eq.trans (congrArg _ (and_t (Nat.zero_le _))) (congrArg _ (and_t (Nat.zero_le _)))
theorem v143_86 {z : P0} {ls : Lcs} {st : List Value} {c n : Nat} {K : Nat → Nat × Nat} {I : Nat → Nat → Int32} {R : Nat → Nat → Option Nat} {L : Nat → Nat → Int64} {sz : Nat} {ex : Bool} {Q : Res → Mem → Prop} {x : Nat} {a0 : Int32} : X z 143 86 ls (.int a0 :: .ref x :: st) (0, 0) (K, I, R, L, sz, ex) Q = ((K x).1 = 111 ∧ wsum st ≤ 8 ∧ X z 132 0 [some (.ref x), some (.int a0), none, none, none] [] (0, 0) (K, I, R, L, sz, ex) (aftr (X z) mT 143 86 ls st (0, 0) Q)) := by
  rw [x143_86]
  refine (inv_v (As := [.int a0]) (rm := mi143) (ry := mi132) rfl rfl (by decide) rfl rfl (Nat.le_of_ble_eq_true rfl) rfl rfl).trans ?_
  refine congrArg _ ?_
  exact Eq.trans (congrArg _ (and_t (Nat.zero_le _))) (congrArg _ (and_t (Nat.zero_le _)))
theorem v143_121 {z : P0} {ls : Lcs} {st : List Value} {c n : Nat} {K : Nat → Nat × Nat} {I : Nat → Nat → Int32} {R : Nat → Nat → Option Nat} {L : Nat → Nat → Int64} {sz : Nat} {ex : Bool} {Q : Res → Mem → Prop} {x : Nat} {a0 : Int32} : X z 143 121 ls (.int a0 :: .ref x :: st) (0, 0) (K, I, R, L, sz, ex) Q = ((K x).1 = 111 ∧ wsum st ≤ 8 ∧ X z 131 0 [some (.ref x), some (.int a0)] [] (0, 0) (K, I, R, L, sz, ex) (aftr (X z) mT 143 121 ls st (0, 0) Q)) := by
  rw [x143_121]
  refine (inv_v (As := [.int a0]) (rm := mi143) (ry := mi131) rfl rfl (by decide) rfl rfl (Nat.le_of_ble_eq_true rfl) rfl rfl).trans ?_
  refine congrArg _ ?_
  exact Eq.trans (congrArg _ (and_t (Nat.zero_le _))) (congrArg _ (and_t (Nat.zero_le _)))
theorem v144_5 {z : P0} {ls : Lcs} {st : List Value} {c n : Nat} {K : Nat → Nat × Nat} {I : Nat → Nat → Int32} {R : Nat → Nat → Option Nat} {L : Nat → Nat → Int64} {sz : Nat} {ex : Bool} {Q : Res → Mem → Prop}  {a0 : Int32} {a1 : Int32} {a2 : Int32} : X z 144 5 ls (.int a2 :: .int a1 :: .int a0 :: st) (0, 0) (K, I, R, L, sz, ex) Q = (wsum st ≤ 8 ∧ X z 106 0 [some (.int a0), some (.int a1), some (.int a2)] [] (0, 0) (K, I, R, L, sz, ex) (aftr (X z) mT 144 5 ls st (0, 0) Q)) := by
  rw [x144_5]
  refine (inv_s (As := [.int a0, .int a1, .int a2]) (rm := mi144) (ry := mi106) rfl rfl (by decide) rfl rfl (Nat.le_of_ble_eq_true rfl) rfl (by decide) (by decide)).trans ?_
  exact Eq.trans (congrArg _ (and_t (Nat.zero_le _))) (congrArg _ (and_t (Nat.zero_le _)))
theorem v144_48 {z : P0} {ls : Lcs} {st : List Value} {c n : Nat} {K : Nat → Nat × Nat} {I : Nat → Nat → Int32} {R : Nat → Nat → Option Nat} {L : Nat → Nat → Int64} {sz : Nat} {ex : Bool} {Q : Res → Mem → Prop} {x : Nat}  : X z 144 48 ls (.ref x :: st) (0, 0) (K, I, R, L, sz, ex) Q = ((K x).1 = 111 ∧ wsum st ≤ 8 ∧ X z 107 0 [some (.ref x), none] [] (0, 0) (K, I, R, L, sz, ex) (aftr (X z) mT 144 48 ls st (0, 0) Q)) := by
  rw [x144_48]
  refine (inv_v (As := []) (rm := mi144) (ry := mi107) rfl rfl (by decide) rfl rfl (Nat.le_of_ble_eq_true rfl) rfl rfl).trans ?_
  refine congrArg _ ?_
  exact Eq.trans (congrArg _ (and_t (Nat.zero_le _))) (congrArg _ (and_t (Nat.zero_le _)))
theorem v145_6 {z : P0} {ls : Lcs} {st : List Value} {c n : Nat} {K : Nat → Nat × Nat} {I : Nat → Nat → Int32} {R : Nat → Nat → Option Nat} {L : Nat → Nat → Int64} {sz : Nat} {ex : Bool} {Q : Res → Mem → Prop}  {a0 : Int32} {a1 : Int32} {a2 : Int32} : X z 145 6 ls (.int a2 :: .int a1 :: .int a0 :: st) (0, 0) (K, I, R, L, sz, ex) Q = (wsum st ≤ 8 ∧ X z 106 0 [some (.int a0), some (.int a1), some (.int a2)] [] (0, 0) (K, I, R, L, sz, ex) (aftr (X z) mT 145 6 ls st (0, 0) Q)) := by
  rw [x145_6]
  refine (inv_s (As := [.int a0, .int a1, .int a2]) (rm := mi145) (ry := mi106) rfl rfl (by decide) rfl rfl (Nat.le_of_ble_eq_true rfl) rfl (by decide) (by decide)).trans ?_
  exact Eq.trans (congrArg _ (and_t (Nat.zero_le _))) (congrArg _ (and_t (Nat.zero_le _)))
theorem v147_43 {z : P0} {ls : Lcs} {st : List Value} {c n : Nat} {K : Nat → Nat × Nat} {I : Nat → Nat → Int32} {R : Nat → Nat → Option Nat} {L : Nat → Nat → Int64} {sz : Nat} {ex : Bool} {Q : Res → Mem → Prop}  {a0 : Int32} {a1 : Int32} {a2 : Int32} : X z 147 43 ls (.int a2 :: .int a1 :: .int a0 :: st) (0, 0) (K, I, R, L, sz, ex) Q = (wsum st ≤ 8 ∧ X z 106 0 [some (.int a0), some (.int a1), some (.int a2)] [] (0, 0) (K, I, R, L, sz, ex) (aftr (X z) mT 147 43 ls st (0, 0) Q)) := by
  rw [x147_43]
  refine (inv_s (As := [.int a0, .int a1, .int a2]) (rm := mi147) (ry := mi106) rfl rfl (by decide) rfl rfl (Nat.le_of_ble_eq_true rfl) rfl (by decide) (by decide)).trans ?_
  exact Eq.trans (congrArg _ (and_t (Nat.zero_le _))) (congrArg _ (and_t (Nat.zero_le _)))
theorem v149_9 {z : P0} {ls : Lcs} {st : List Value} {c n : Nat} {K : Nat → Nat × Nat} {I : Nat → Nat → Int32} {R : Nat → Nat → Option Nat} {L : Nat → Nat → Int64} {sz : Nat} {ex : Bool} {Q : Res → Mem → Prop} {x : Nat} {a0 : Int32} : X z 149 9 ls (.int a0 :: .ref x :: st) (0, 0) (K, I, R, L, sz, ex) Q = ((K x).1 = 111 ∧ wsum st ≤ 8 ∧ X z 148 0 [some (.ref x), some (.int a0), none] [] (0, 0) (K, I, R, L, sz, ex) (aftr (X z) mT 149 9 ls st (0, 0) Q)) := by
  rw [x149_9]
  refine (inv_v (As := [.int a0]) (rm := mi149) (ry := mi148) rfl rfl (by decide) rfl rfl (Nat.le_of_ble_eq_true rfl) rfl rfl).trans ?_
  refine congrArg _ ?_
  exact Eq.trans (congrArg _ (and_t (Nat.zero_le _))) (congrArg _ (and_t (Nat.zero_le _)))
theorem v149_126 {z : P0} {ls : Lcs} {st : List Value} {c n : Nat} {K : Nat → Nat × Nat} {I : Nat → Nat → Int32} {R : Nat → Nat → Option Nat} {L : Nat → Nat → Int64} {sz : Nat} {ex : Bool} {Q : Res → Mem → Prop}  {a0 : Int32} {a1 : Int32} {a2 : Int32} : X z 149 126 ls (.int a2 :: .int a1 :: .int a0 :: st) (0, 0) (K, I, R, L, sz, ex) Q = (wsum st ≤ 8 ∧ X z 106 0 [some (.int a0), some (.int a1), some (.int a2)] [] (0, 0) (K, I, R, L, sz, ex) (aftr (X z) mT 149 126 ls st (0, 0) Q)) := by
  rw [x149_126]
  refine (inv_s (As := [.int a0, .int a1, .int a2]) (rm := mi149) (ry := mi106) rfl rfl (by decide) rfl rfl (Nat.le_of_ble_eq_true rfl) rfl (by decide) (by decide)).trans ?_
  exact Eq.trans (congrArg _ (and_t (Nat.zero_le _))) (congrArg _ (and_t (Nat.zero_le _)))
theorem v150_42 {z : P0} {ls : Lcs} {st : List Value} {c n : Nat} {K : Nat → Nat × Nat} {I : Nat → Nat → Int32} {R : Nat → Nat → Option Nat} {L : Nat → Nat → Int64} {sz : Nat} {ex : Bool} {Q : Res → Mem → Prop} {x : Nat} {a0 : Int32} : X z 150 42 ls (.int a0 :: .ref x :: st) (0, 0) (K, I, R, L, sz, ex) Q = ((K x).1 = 111 ∧ wsum st ≤ 8 ∧ X z 149 0 [some (.ref x), some (.int a0), none] [] (0, 0) (K, I, R, L, sz, ex) (aftr (X z) mT 150 42 ls st (0, 0) Q)) := by
  rw [x150_42]
  refine (inv_v (As := [.int a0]) (rm := mi150) (ry := mi149) rfl rfl (by decide) rfl rfl (Nat.le_of_ble_eq_true rfl) rfl rfl).trans ?_
  refine congrArg _ ?_
  exact Eq.trans (congrArg _ (and_t (Nat.zero_le _))) (congrArg _ (and_t (Nat.zero_le _)))
theorem v150_59 {z : P0} {ls : Lcs} {st : List Value} {c n : Nat} {K : Nat → Nat × Nat} {I : Nat → Nat → Int32} {R : Nat → Nat → Option Nat} {L : Nat → Nat → Int64} {sz : Nat} {ex : Bool} {Q : Res → Mem → Prop} {x : Nat} {a0 : Int32} {a1 : Int32} : X z 150 59 ls (.int a1 :: .int a0 :: .ref x :: st) (0, 0) (K, I, R, L, sz, ex) Q = ((K x).1 = 111 ∧ wsum st ≤ 8 ∧ X z 147 0 [some (.ref x), some (.int a0), some (.int a1), none] [] (0, 0) (K, I, R, L, sz, ex) (aftr (X z) mT 150 59 ls st (0, 0) Q)) := by
  rw [x150_59]
  refine (inv_v (As := [.int a0, .int a1]) (rm := mi150) (ry := mi147) rfl rfl (by decide) rfl rfl (Nat.le_of_ble_eq_true rfl) rfl rfl).trans ?_
  refine congrArg _ ?_
  exact Eq.trans (congrArg _ (and_t (Nat.zero_le _))) (congrArg _ (and_t (Nat.zero_le _)))
theorem v152_4 {z : P0} {ls : Lcs} {st : List Value} {c n : Nat} {K : Nat → Nat × Nat} {I : Nat → Nat → Int32} {R : Nat → Nat → Option Nat} {L : Nat → Nat → Int64} {sz : Nat} {ex : Bool} {Q : Res → Mem → Prop}  {a0 : Int32} {a1 : Int32} {a2 : Int32} : X z 152 4 ls (.int a2 :: .int a1 :: .int a0 :: st) (0, 0) (K, I, R, L, sz, ex) Q = (wsum st ≤ 8 ∧ X z 106 0 [some (.int a0), some (.int a1), some (.int a2)] [] (0, 0) (K, I, R, L, sz, ex) (aftr (X z) mT 152 4 ls st (0, 0) Q)) := by
  rw [x152_4]
  refine (inv_s (As := [.int a0, .int a1, .int a2]) (rm := mi152) (ry := mi106) rfl rfl (by decide) rfl rfl (Nat.le_of_ble_eq_true rfl) rfl (by decide) (by decide)).trans ?_
  exact Eq.trans (congrArg _ (and_t (Nat.zero_le _))) (congrArg _ (and_t (Nat.zero_le _)))
theorem v152_31 {z : P0} {ls : Lcs} {st : List Value} {c n : Nat} {K : Nat → Nat × Nat} {I : Nat → Nat → Int32} {R : Nat → Nat → Option Nat} {L : Nat → Nat → Int64} {sz : Nat} {ex : Bool} {Q : Res → Mem → Prop} {x : Nat} {a0 : Int32} : X z 152 31 ls (.int a0 :: .ref x :: st) (0, 0) (K, I, R, L, sz, ex) Q = ((K x).1 = 111 ∧ wsum st ≤ 8 ∧ X z 150 0 [some (.ref x), some (.int a0), none] [] (0, 0) (K, I, R, L, sz, ex) (aftr (X z) mT 152 31 ls st (0, 0) Q)) := by
  rw [x152_31]
  refine (inv_v (As := [.int a0]) (rm := mi152) (ry := mi150) rfl rfl (by decide) rfl rfl (Nat.le_of_ble_eq_true rfl) rfl rfl).trans ?_
  refine congrArg _ ?_
  exact Eq.trans (congrArg _ (and_t (Nat.zero_le _))) (congrArg _ (and_t (Nat.zero_le _)))
theorem v154_9 {z : P0} {ls : Lcs} {st : List Value} {c n : Nat} {K : Nat → Nat × Nat} {I : Nat → Nat → Int32} {R : Nat → Nat → Option Nat} {L : Nat → Nat → Int64} {sz : Nat} {ex : Bool} {Q : Res → Mem → Prop} {x : Nat} {a0 : Int32} {a1 : Int32} : X z 154 9 ls (.int a1 :: .int a0 :: .ref x :: st) (0, 0) (K, I, R, L, sz, ex) Q = ((K x).1 = 111 ∧ wsum st ≤ 8 ∧ X z 112 0 [some (.ref x), some (.int a0), some (.int a1)] [] (0, 0) (K, I, R, L, sz, ex) (aftr (X z) mT 154 9 ls st (0, 0) Q)) := by
  rw [x154_9]
  refine (inv_v (As := [.int a0, .int a1]) (rm := mi154) (ry := mi112) rfl rfl (by decide) rfl rfl (Nat.le_of_ble_eq_true rfl) rfl rfl).trans ?_
  refine congrArg _ ?_
  exact Eq.trans (congrArg _ (and_t (Nat.zero_le _))) (congrArg _ (and_t (Nat.zero_le _)))
theorem v154_28 {z : P0} {ls : Lcs} {st : List Value} {c n : Nat} {K : Nat → Nat × Nat} {I : Nat → Nat → Int32} {R : Nat → Nat → Option Nat} {L : Nat → Nat → Int64} {sz : Nat} {ex : Bool} {Q : Res → Mem → Prop} {x : Nat} {a0 : Int32} : X z 154 28 ls (.int a0 :: .ref x :: st) (0, 0) (K, I, R, L, sz, ex) Q = ((K x).1 = 111 ∧ wsum st ≤ 8 ∧ X z 131 0 [some (.ref x), some (.int a0)] [] (0, 0) (K, I, R, L, sz, ex) (aftr (X z) mT 154 28 ls st (0, 0) Q)) := by
  rw [x154_28]
  refine (inv_v (As := [.int a0]) (rm := mi154) (ry := mi131) rfl rfl (by decide) rfl rfl (Nat.le_of_ble_eq_true rfl) rfl rfl).trans ?_
  refine congrArg _ ?_
  exact Eq.trans (congrArg _ (and_t (Nat.zero_le _))) (congrArg _ (and_t (Nat.zero_le _)))
theorem v155_128 {z : P0} {ls : Lcs} {st : List Value} {c n : Nat} {K : Nat → Nat × Nat} {I : Nat → Nat → Int32} {R : Nat → Nat → Option Nat} {L : Nat → Nat → Int64} {sz : Nat} {ex : Bool} {Q : Res → Mem → Prop} {x : Nat} {a0 : Int32} : X z 155 128 ls (.int a0 :: .ref x :: st) (0, 0) (K, I, R, L, sz, ex) Q = ((K x).1 = 111 ∧ wsum st ≤ 8 ∧ X z 154 0 [some (.ref x), some (.int a0), none] [] (0, 0) (K, I, R, L, sz, ex) (aftr (X z) mT 155 128 ls st (0, 0) Q)) := by
  rw [x155_128]
  refine (inv_v (As := [.int a0]) (rm := mi155) (ry := mi154) rfl rfl (by decide) rfl rfl (Nat.le_of_ble_eq_true rfl) rfl rfl).trans ?_
  refine congrArg _ ?_
  exact Eq.trans (congrArg _ (and_t (Nat.zero_le _))) (congrArg _ (and_t (Nat.zero_le _)))
theorem v156_3 {z : P0} {ls : Lcs} {st : List Value} {c n : Nat} {K : Nat → Nat × Nat} {I : Nat → Nat → Int32} {R : Nat → Nat → Option Nat} {L : Nat → Nat → Int64} {sz : Nat} {ex : Bool} {Q : Res → Mem → Prop} {x : Nat} {a0 : Int32} : X z 156 3 ls (.int a0 :: .ref x :: st) (0, 0) (K, I, R, L, sz, ex) Q = ((K x).1 = 111 ∧ wsum st ≤ 8 ∧ X z 108 0 [some (.ref x), some (.int a0)] [] (0, 0) (K, I, R, L, sz, ex) (aftr (X z) mT 156 3 ls st (0, 0) Q)) := by
  rw [x156_3]
  refine (inv_v (As := [.int a0]) (rm := mi156) (ry := mi108) rfl rfl (by decide) rfl rfl (Nat.le_of_ble_eq_true rfl) rfl rfl).trans ?_
  refine congrArg _ ?_
  exact Eq.trans (congrArg _ (and_t (Nat.zero_le _))) (congrArg _ (and_t (Nat.zero_le _)))
theorem v156_17 {z : P0} {ls : Lcs} {st : List Value} {c n : Nat} {K : Nat → Nat × Nat} {I : Nat → Nat → Int32} {R : Nat → Nat → Option Nat} {L : Nat → Nat → Int64} {sz : Nat} {ex : Bool} {Q : Res → Mem → Prop}  {a0 : Int32} {a1 : Int32} {a2 : Int32} : X z 156 17 ls (.int a2 :: .int a1 :: .int a0 :: st) (0, 0) (K, I, R, L, sz, ex) Q = (wsum st ≤ 8 ∧ X z 106 0 [some (.int a0), some (.int a1), some (.int a2)] [] (0, 0) (K, I, R, L, sz, ex) (aftr (X z) mT 156 17 ls st (0, 0) Q)) := by
  rw [x156_17]
  refine (inv_s (As := [.int a0, .int a1, .int a2]) (rm := mi156) (ry := mi106) rfl rfl (by decide) rfl rfl (Nat.le_of_ble_eq_true rfl) rfl (by decide) (by decide)).trans ?_
  exact Eq.trans (congrArg _ (and_t (Nat.zero_le _))) (congrArg _ (and_t (Nat.zero_le _)))
theorem v156_41 {z : P0} {ls : Lcs} {st : List Value} {c n : Nat} {K : Nat → Nat × Nat} {I : Nat → Nat → Int32} {R : Nat → Nat → Option Nat} {L : Nat → Nat → Int64} {sz : Nat} {ex : Bool} {Q : Res → Mem → Prop} {x : Nat}  : X z 156 41 ls (.ref x :: st) (0, 0) (K, I, R, L, sz, ex) Q = ((K x).1 = 111 ∧ wsum st ≤ 8 ∧ X z 130 0 [some (.ref x), none] [] (0, 0) (K, I, R, L, sz, ex) (aftr (X z) mT 156 41 ls st (0, 0) Q)) := by
  rw [x156_41]
  refine (inv_v (As := []) (rm := mi156) (ry := mi130) rfl rfl (by decide) rfl rfl (Nat.le_of_ble_eq_true rfl) rfl rfl).trans ?_
  refine congrArg _ ?_
  exact Eq.trans (congrArg _ (and_t (Nat.zero_le _))) (congrArg _ (and_t (Nat.zero_le _)))
theorem v156_47 {z : P0} {ls : Lcs} {st : List Value} {c n : Nat} {K : Nat → Nat × Nat} {I : Nat → Nat → Int32} {R : Nat → Nat → Option Nat} {L : Nat → Nat → Int64} {sz : Nat} {ex : Bool} {Q : Res → Mem → Prop} {x : Nat} {a0 : Int32} {a1 : Int32} : X z 156 47 ls (.int a1 :: .int a0 :: .ref x :: st) (0, 0) (K, I, R, L, sz, ex) Q = ((K x).1 = 111 ∧ wsum st ≤ 8 ∧ X z 155 0 [some (.ref x), some (.int a0), some (.int a1)] [] (0, 0) (K, I, R, L, sz, ex) (aftr (X z) mT 156 47 ls st (0, 0) Q)) := by
  rw [x156_47]
  refine (inv_v (As := [.int a0, .int a1]) (rm := mi156) (ry := mi155) rfl rfl (by decide) rfl rfl (Nat.le_of_ble_eq_true rfl) rfl rfl).trans ?_
  refine congrArg _ ?_
  exact Eq.trans (congrArg _ (and_t (Nat.zero_le _))) (congrArg _ (and_t (Nat.zero_le _)))
theorem v157_3 {z : P0} {ls : Lcs} {st : List Value} {c n : Nat} {K : Nat → Nat × Nat} {I : Nat → Nat → Int32} {R : Nat → Nat → Option Nat} {L : Nat → Nat → Int64} {sz : Nat} {ex : Bool} {Q : Res → Mem → Prop} {x : Nat} {a0 : Int32} : X z 157 3 ls (.int a0 :: .ref x :: st) (0, 0) (K, I, R, L, sz, ex) Q = ((K x).1 = 111 ∧ wsum st ≤ 8 ∧ X z 108 0 [some (.ref x), some (.int a0)] [] (0, 0) (K, I, R, L, sz, ex) (aftr (X z) mT 157 3 ls st (0, 0) Q)) := by
  rw [x157_3]
  refine (inv_v (As := [.int a0]) (rm := mi157) (ry := mi108) rfl rfl (by decide) rfl rfl (Nat.le_of_ble_eq_true rfl) rfl rfl).trans ?_
  refine congrArg _ ?_
  exact Eq.trans (congrArg _ (and_t (Nat.zero_le _))) (congrArg _ (and_t (Nat.zero_le _)))
theorem v157_23 {z : P0} {ls : Lcs} {st : List Value} {c n : Nat} {K : Nat → Nat × Nat} {I : Nat → Nat → Int32} {R : Nat → Nat → Option Nat} {L : Nat → Nat → Int64} {sz : Nat} {ex : Bool} {Q : Res → Mem → Prop}  {a0 : Int32} {a1 : Int32} {a2 : Int32} : X z 157 23 ls (.int a2 :: .int a1 :: .int a0 :: st) (0, 0) (K, I, R, L, sz, ex) Q = (wsum st ≤ 8 ∧ X z 106 0 [some (.int a0), some (.int a1), some (.int a2)] [] (0, 0) (K, I, R, L, sz, ex) (aftr (X z) mT 157 23 ls st (0, 0) Q)) := by
  rw [x157_23]
  refine (inv_s (As := [.int a0, .int a1, .int a2]) (rm := mi157) (ry := mi106) rfl rfl (by decide) rfl rfl (Nat.le_of_ble_eq_true rfl) rfl (by decide) (by decide)).trans ?_
  exact Eq.trans (congrArg _ (and_t (Nat.zero_le _))) (congrArg _ (and_t (Nat.zero_le _)))
theorem v159_56 {z : P0} {ls : Lcs} {st : List Value} {c n : Nat} {K : Nat → Nat × Nat} {I : Nat → Nat → Int32} {R : Nat → Nat → Option Nat} {L : Nat → Nat → Int64} {sz : Nat} {ex : Bool} {Q : Res → Mem → Prop} {x : Nat} {a0 : Int32} : X z 159 56 ls (.int a0 :: .ref x :: st) (0, 0) (K, I, R, L, sz, ex) Q = ((K x).1 = 111 ∧ wsum st ≤ 8 ∧ X z 158 0 [some (.ref x), some (.int a0), none, none] [] (0, 0) (K, I, R, L, sz, ex) (aftr (X z) mT 159 56 ls st (0, 0) Q)) := by
  rw [x159_56]
  refine (inv_v (As := [.int a0]) (rm := mi159) (ry := mi158) rfl rfl (by decide) rfl rfl (Nat.le_of_ble_eq_true rfl) rfl rfl).trans ?_
  refine congrArg _ ?_
  exact Eq.trans (congrArg _ (and_t (Nat.zero_le _))) (congrArg _ (and_t (Nat.zero_le _)))
theorem v159_62 {z : P0} {ls : Lcs} {st : List Value} {c n : Nat} {K : Nat → Nat × Nat} {I : Nat → Nat → Int32} {R : Nat → Nat → Option Nat} {L : Nat → Nat → Int64} {sz : Nat} {ex : Bool} {Q : Res → Mem → Prop} {x : Nat} {a0 : Int32} : X z 159 62 ls (.int a0 :: .ref x :: st) (0, 0) (K, I, R, L, sz, ex) Q = ((K x).1 = 111 ∧ wsum st ≤ 8 ∧ X z 120 0 [some (.ref x), some (.int a0), none, none] [] (0, 0) (K, I, R, L, sz, ex) (aftr (X z) mT 159 62 ls st (0, 0) Q)) := by
  rw [x159_62]
  refine (inv_v (As := [.int a0]) (rm := mi159) (ry := mi120) rfl rfl (by decide) rfl rfl (Nat.le_of_ble_eq_true rfl) rfl rfl).trans ?_
  refine congrArg _ ?_
  exact Eq.trans (congrArg _ (and_t (Nat.zero_le _))) (congrArg _ (and_t (Nat.zero_le _)))
theorem v160_3 {z : P0} {ls : Lcs} {st : List Value} {c n : Nat} {K : Nat → Nat × Nat} {I : Nat → Nat → Int32} {R : Nat → Nat → Option Nat} {L : Nat → Nat → Int64} {sz : Nat} {ex : Bool} {Q : Res → Mem → Prop} {x : Nat} {a0 : Int32} : X z 160 3 ls (.int a0 :: .ref x :: st) (0, 0) (K, I, R, L, sz, ex) Q = ((K x).1 = 111 ∧ wsum st ≤ 8 ∧ X z 109 0 [some (.ref x), some (.int a0)] [] (0, 0) (K, I, R, L, sz, ex) (aftr (X z) mT 160 3 ls st (0, 0) Q)) := by
  rw [x160_3]
  refine (inv_v (As := [.int a0]) (rm := mi160) (ry := mi109) rfl rfl (by decide) rfl rfl (Nat.le_of_ble_eq_true rfl) rfl rfl).trans ?_
  refine congrArg _ ?_
  exact Eq.trans (congrArg _ (and_t (Nat.zero_le _))) (congrArg _ (and_t (Nat.zero_le _)))
theorem v160_16 {z : P0} {ls : Lcs} {st : List Value} {c n : Nat} {K : Nat → Nat × Nat} {I : Nat → Nat → Int32} {R : Nat → Nat → Option Nat} {L : Nat → Nat → Int64} {sz : Nat} {ex : Bool} {Q : Res → Mem → Prop}  {a0 : Int32} {a1 : Int32} {a2 : Int32} : X z 160 16 ls (.int a2 :: .int a1 :: .int a0 :: st) (0, 0) (K, I, R, L, sz, ex) Q = (wsum st ≤ 8 ∧ X z 106 0 [some (.int a0), some (.int a1), some (.int a2)] [] (0, 0) (K, I, R, L, sz, ex) (aftr (X z) mT 160 16 ls st (0, 0) Q)) := by
  rw [x160_16]
  refine (inv_s (As := [.int a0, .int a1, .int a2]) (rm := mi160) (ry := mi106) rfl rfl (by decide) rfl rfl (Nat.le_of_ble_eq_true rfl) rfl (by decide) (by decide)).trans ?_
  exact Eq.trans (congrArg _ (and_t (Nat.zero_le _))) (congrArg _ (and_t (Nat.zero_le _)))
theorem v160_27 {z : P0} {ls : Lcs} {st : List Value} {c n : Nat} {K : Nat → Nat × Nat} {I : Nat → Nat → Int32} {R : Nat → Nat → Option Nat} {L : Nat → Nat → Int64} {sz : Nat} {ex : Bool} {Q : Res → Mem → Prop}  {a0 : Int32} {a1 : Int32} {a2 : Int32} : X z 160 27 ls (.int a2 :: .int a1 :: .int a0 :: st) (0, 0) (K, I, R, L, sz, ex) Q = (wsum st ≤ 8 ∧ X z 106 0 [some (.int a0), some (.int a1), some (.int a2)] [] (0, 0) (K, I, R, L, sz, ex) (aftr (X z) mT 160 27 ls st (0, 0) Q)) := by
  rw [x160_27]
  refine (inv_s (As := [.int a0, .int a1, .int a2]) (rm := mi160) (ry := mi106) rfl rfl (by decide) rfl rfl (Nat.le_of_ble_eq_true rfl) rfl (by decide) (by decide)).trans ?_
  exact Eq.trans (congrArg _ (and_t (Nat.zero_le _))) (congrArg _ (and_t (Nat.zero_le _)))
theorem v160_55 {z : P0} {ls : Lcs} {st : List Value} {c n : Nat} {K : Nat → Nat × Nat} {I : Nat → Nat → Int32} {R : Nat → Nat → Option Nat} {L : Nat → Nat → Int64} {sz : Nat} {ex : Bool} {Q : Res → Mem → Prop} {x : Nat} {a0 : Int32} {a1 : Int32} : X z 160 55 ls (.int a1 :: .int a0 :: .ref x :: st) (0, 0) (K, I, R, L, sz, ex) Q = ((K x).1 = 111 ∧ wsum st ≤ 8 ∧ X z 159 0 [some (.ref x), some (.int a0), some (.int a1)] [] (0, 0) (K, I, R, L, sz, ex) (aftr (X z) mT 160 55 ls st (0, 0) Q)) := by
  rw [x160_55]
  refine (inv_v (As := [.int a0, .int a1]) (rm := mi160) (ry := mi159) rfl rfl (by decide) rfl rfl (Nat.le_of_ble_eq_true rfl) rfl rfl).trans ?_
  refine congrArg _ ?_
  exact Eq.trans (congrArg _ (and_t (Nat.zero_le _))) (congrArg _ (and_t (Nat.zero_le _)))
theorem v161_46 {z : P0} {ls : Lcs} {st : List Value} {c n : Nat} {K : Nat → Nat × Nat} {I : Nat → Nat → Int32} {R : Nat → Nat → Option Nat} {L : Nat → Nat → Int64} {sz : Nat} {ex : Bool} {Q : Res → Mem → Prop} {x : Nat} {a0 : Int32} : X z 161 46 ls (.int a0 :: .ref x :: st) (0, 0) (K, I, R, L, sz, ex) Q = ((K x).1 = 111 ∧ wsum st ≤ 8 ∧ X z 113 0 [some (.ref x), some (.int a0), none] [] (0, 0) (K, I, R, L, sz, ex) (aftr (X z) mT 161 46 ls st (0, 0) Q)) := by
  rw [x161_46]
  refine (inv_v (As := [.int a0]) (rm := mi161) (ry := mi113) rfl rfl (by decide) rfl rfl (Nat.le_of_ble_eq_true rfl) rfl rfl).trans ?_
  refine congrArg _ ?_
  exact Eq.trans (congrArg _ (and_t (Nat.zero_le _))) (congrArg _ (and_t (Nat.zero_le _)))
theorem v161_65 {z : P0} {ls : Lcs} {st : List Value} {c n : Nat} {K : Nat → Nat × Nat} {I : Nat → Nat → Int32} {R : Nat → Nat → Option Nat} {L : Nat → Nat → Int64} {sz : Nat} {ex : Bool} {Q : Res → Mem → Prop} {x : Nat} {a0 : Int32} : X z 161 65 ls (.int a0 :: .ref x :: st) (0, 0) (K, I, R, L, sz, ex) Q = ((K x).1 = 111 ∧ wsum st ≤ 8 ∧ X z 113 0 [some (.ref x), some (.int a0), none] [] (0, 0) (K, I, R, L, sz, ex) (aftr (X z) mT 161 65 ls st (0, 0) Q)) := by
  rw [x161_65]
  refine (inv_v (As := [.int a0]) (rm := mi161) (ry := mi113) rfl rfl (by decide) rfl rfl (Nat.le_of_ble_eq_true rfl) rfl rfl).trans ?_
  refine congrArg _ ?_
  exact Eq.trans (congrArg _ (and_t (Nat.zero_le _))) (congrArg _ (and_t (Nat.zero_le _)))
theorem v161_108 {z : P0} {ls : Lcs} {st : List Value} {c n : Nat} {K : Nat → Nat × Nat} {I : Nat → Nat → Int32} {R : Nat → Nat → Option Nat} {L : Nat → Nat → Int64} {sz : Nat} {ex : Bool} {Q : Res → Mem → Prop} {x : Nat} {a0 : Int32} : X z 161 108 ls (.int a0 :: .ref x :: st) (0, 0) (K, I, R, L, sz, ex) Q = ((K x).1 = 111 ∧ wsum st ≤ 8 ∧ X z 131 0 [some (.ref x), some (.int a0)] [] (0, 0) (K, I, R, L, sz, ex) (aftr (X z) mT 161 108 ls st (0, 0) Q)) := by
  rw [x161_108]
  refine (inv_v (As := [.int a0]) (rm := mi161) (ry := mi131) rfl rfl (by decide) rfl rfl (Nat.le_of_ble_eq_true rfl) rfl rfl).trans ?_
  refine congrArg _ ?_
  exact Eq.trans (congrArg _ (and_t (Nat.zero_le _))) (congrArg _ (and_t (Nat.zero_le _)))
theorem v162_1 {z : P0} {ls : Lcs} {st : List Value} {c n : Nat} {K : Nat → Nat × Nat} {I : Nat → Nat → Int32} {R : Nat → Nat → Option Nat} {L : Nat → Nat → Int64} {sz : Nat} {ex : Bool} {Q : Res → Mem → Prop} {x : Nat}  : X z 162 1 ls (.ref x :: st) (0, 0) (K, I, R, L, sz, ex) Q = ((K x).1 = 111 ∧ wsum st ≤ 8 ∧ X z 130 0 [some (.ref x), none] [] (0, 0) (K, I, R, L, sz, ex) (aftr (X z) mT 162 1 ls st (0, 0) Q)) := by
  rw [x162_1]
  refine (inv_v (As := []) (rm := mi162) (ry := mi130) rfl rfl (by decide) rfl rfl (Nat.le_of_ble_eq_true rfl) rfl rfl).trans ?_
  refine congrArg _ ?_
  exact Eq.trans (congrArg _ (and_t (Nat.zero_le _))) (congrArg _ (and_t (Nat.zero_le _)))
theorem v162_13 {z : P0} {ls : Lcs} {st : List Value} {c n : Nat} {K : Nat → Nat × Nat} {I : Nat → Nat → Int32} {R : Nat → Nat → Option Nat} {L : Nat → Nat → Int64} {sz : Nat} {ex : Bool} {Q : Res → Mem → Prop}  {a0 : Int32} {a1 : Int32} {a2 : Int32} : X z 162 13 ls (.int a2 :: .int a1 :: .int a0 :: st) (0, 0) (K, I, R, L, sz, ex) Q = (wsum st ≤ 8 ∧ X z 106 0 [some (.int a0), some (.int a1), some (.int a2)] [] (0, 0) (K, I, R, L, sz, ex) (aftr (X z) mT 162 13 ls st (0, 0) Q)) := by
  rw [x162_13]
  refine (inv_s (As := [.int a0, .int a1, .int a2]) (rm := mi162) (ry := mi106) rfl rfl (by decide) rfl rfl (Nat.le_of_ble_eq_true rfl) rfl (by decide) (by decide)).trans ?_
  exact Eq.trans (congrArg _ (and_t (Nat.zero_le _))) (congrArg _ (and_t (Nat.zero_le _)))
theorem v162_27 {z : P0} {ls : Lcs} {st : List Value} {c n : Nat} {K : Nat → Nat × Nat} {I : Nat → Nat → Int32} {R : Nat → Nat → Option Nat} {L : Nat → Nat → Int64} {sz : Nat} {ex : Bool} {Q : Res → Mem → Prop}  {a0 : Int32} {a1 : Int32} {a2 : Int32} : X z 162 27 ls (.int a2 :: .int a1 :: .int a0 :: st) (0, 0) (K, I, R, L, sz, ex) Q = (wsum st ≤ 8 ∧ X z 106 0 [some (.int a0), some (.int a1), some (.int a2)] [] (0, 0) (K, I, R, L, sz, ex) (aftr (X z) mT 162 27 ls st (0, 0) Q)) := by
  rw [x162_27]
  refine (inv_s (As := [.int a0, .int a1, .int a2]) (rm := mi162) (ry := mi106) rfl rfl (by decide) rfl rfl (Nat.le_of_ble_eq_true rfl) rfl (by decide) (by decide)).trans ?_
  exact Eq.trans (congrArg _ (and_t (Nat.zero_le _))) (congrArg _ (and_t (Nat.zero_le _)))
theorem v162_55 {z : P0} {ls : Lcs} {st : List Value} {c n : Nat} {K : Nat → Nat × Nat} {I : Nat → Nat → Int32} {R : Nat → Nat → Option Nat} {L : Nat → Nat → Int64} {sz : Nat} {ex : Bool} {Q : Res → Mem → Prop} {x : Nat} {a0 : Int32} {a1 : Int32} : X z 162 55 ls (.int a1 :: .int a0 :: .ref x :: st) (0, 0) (K, I, R, L, sz, ex) Q = ((K x).1 = 111 ∧ wsum st ≤ 8 ∧ X z 161 0 [some (.ref x), some (.int a0), some (.int a1)] [] (0, 0) (K, I, R, L, sz, ex) (aftr (X z) mT 162 55 ls st (0, 0) Q)) := by
  rw [x162_55]
  refine (inv_v (As := [.int a0, .int a1]) (rm := mi162) (ry := mi161) rfl rfl (by decide) rfl rfl (Nat.le_of_ble_eq_true rfl) rfl rfl).trans ?_
  refine congrArg _ ?_
  exact Eq.trans (congrArg _ (and_t (Nat.zero_le _))) (congrArg _ (and_t (Nat.zero_le _)))
theorem v163_1 {z : P0} {ls : Lcs} {st : List Value} {c n : Nat} {K : Nat → Nat × Nat} {I : Nat → Nat → Int32} {R : Nat → Nat → Option Nat} {L : Nat → Nat → Int64} {sz : Nat} {ex : Bool} {Q : Res → Mem → Prop} {x : Nat}  : X z 163 1 ls (.ref x :: st) (0, 0) (K, I, R, L, sz, ex) Q = ((K x).1 = 111 ∧ wsum st ≤ 8 ∧ X z 130 0 [some (.ref x), none] [] (0, 0) (K, I, R, L, sz, ex) (aftr (X z) mT 163 1 ls st (0, 0) Q)) := by
  rw [x163_1]
  refine (inv_v (As := []) (rm := mi163) (ry := mi130) rfl rfl (by decide) rfl rfl (Nat.le_of_ble_eq_true rfl) rfl rfl).trans ?_
  refine congrArg _ ?_
  exact Eq.trans (congrArg _ (and_t (Nat.zero_le _))) (congrArg _ (and_t (Nat.zero_le _)))
theorem v163_13 {z : P0} {ls : Lcs} {st : List Value} {c n : Nat} {K : Nat → Nat × Nat} {I : Nat → Nat → Int32} {R : Nat → Nat → Option Nat} {L : Nat → Nat → Int64} {sz : Nat} {ex : Bool} {Q : Res → Mem → Prop}  {a0 : Int32} {a1 : Int32} {a2 : Int32} : X z 163 13 ls (.int a2 :: .int a1 :: .int a0 :: st) (0, 0) (K, I, R, L, sz, ex) Q = (wsum st ≤ 8 ∧ X z 106 0 [some (.int a0), some (.int a1), some (.int a2)] [] (0, 0) (K, I, R, L, sz, ex) (aftr (X z) mT 163 13 ls st (0, 0) Q)) := by
  rw [x163_13]
  refine (inv_s (As := [.int a0, .int a1, .int a2]) (rm := mi163) (ry := mi106) rfl rfl (by decide) rfl rfl (Nat.le_of_ble_eq_true rfl) rfl (by decide) (by decide)).trans ?_
  exact Eq.trans (congrArg _ (and_t (Nat.zero_le _))) (congrArg _ (and_t (Nat.zero_le _)))
theorem v163_29 {z : P0} {ls : Lcs} {st : List Value} {c n : Nat} {K : Nat → Nat × Nat} {I : Nat → Nat → Int32} {R : Nat → Nat → Option Nat} {L : Nat → Nat → Int64} {sz : Nat} {ex : Bool} {Q : Res → Mem → Prop}  {a0 : Int32} {a1 : Int32} {a2 : Int32} : X z 163 29 ls (.int a2 :: .int a1 :: .int a0 :: st) (0, 0) (K, I, R, L, sz, ex) Q = (wsum st ≤ 8 ∧ X z 106 0 [some (.int a0), some (.int a1), some (.int a2)] [] (0, 0) (K, I, R, L, sz, ex) (aftr (X z) mT 163 29 ls st (0, 0) Q)) := by
  rw [x163_29]
  refine (inv_s (As := [.int a0, .int a1, .int a2]) (rm := mi163) (ry := mi106) rfl rfl (by decide) rfl rfl (Nat.le_of_ble_eq_true rfl) rfl (by decide) (by decide)).trans ?_
  exact Eq.trans (congrArg _ (and_t (Nat.zero_le _))) (congrArg _ (and_t (Nat.zero_le _)))
theorem v163_54 {z : P0} {ls : Lcs} {st : List Value} {c n : Nat} {K : Nat → Nat × Nat} {I : Nat → Nat → Int32} {R : Nat → Nat → Option Nat} {L : Nat → Nat → Int64} {sz : Nat} {ex : Bool} {Q : Res → Mem → Prop} {x : Nat} {a0 : Int32} : X z 163 54 ls (.int a0 :: .ref x :: st) (0, 0) (K, I, R, L, sz, ex) Q = ((K x).1 = 111 ∧ wsum st ≤ 8 ∧ X z 124 0 [some (.ref x), some (.int a0), none, none, none] [] (0, 0) (K, I, R, L, sz, ex) (aftr (X z) mT 163 54 ls st (0, 0) Q)) := by
  rw [x163_54]
  refine (inv_v (As := [.int a0]) (rm := mi163) (ry := mi124) rfl rfl (by decide) rfl rfl (Nat.le_of_ble_eq_true rfl) rfl rfl).trans ?_
  refine congrArg _ ?_
  exact Eq.trans (congrArg _ (and_t (Nat.zero_le _))) (congrArg _ (and_t (Nat.zero_le _)))
theorem v164_1 {z : P0} {ls : Lcs} {st : List Value} {c n : Nat} {K : Nat → Nat × Nat} {I : Nat → Nat → Int32} {R : Nat → Nat → Option Nat} {L : Nat → Nat → Int64} {sz : Nat} {ex : Bool} {Q : Res → Mem → Prop} {x : Nat}  : X z 164 1 ls (.ref x :: st) (0, 0) (K, I, R, L, sz, ex) Q = ((K x).1 = 111 ∧ wsum st ≤ 8 ∧ X z 130 0 [some (.ref x), none] [] (0, 0) (K, I, R, L, sz, ex) (aftr (X z) mT 164 1 ls st (0, 0) Q)) := by
  rw [x164_1]
  refine (inv_v (As := []) (rm := mi164) (ry := mi130) rfl rfl (by decide) rfl rfl (Nat.le_of_ble_eq_true rfl) rfl rfl).trans ?_
  refine congrArg _ ?_
  exact Eq.trans (congrArg _ (and_t (Nat.zero_le _))) (congrArg _ (and_t (Nat.zero_le _)))
theorem v164_13 {z : P0} {ls : Lcs} {st : List Value} {c n : Nat} {K : Nat → Nat × Nat} {I : Nat → Nat → Int32} {R : Nat → Nat → Option Nat} {L : Nat → Nat → Int64} {sz : Nat} {ex : Bool} {Q : Res → Mem → Prop}  {a0 : Int32} {a1 : Int32} {a2 : Int32} : X z 164 13 ls (.int a2 :: .int a1 :: .int a0 :: st) (0, 0) (K, I, R, L, sz, ex) Q = (wsum st ≤ 8 ∧ X z 106 0 [some (.int a0), some (.int a1), some (.int a2)] [] (0, 0) (K, I, R, L, sz, ex) (aftr (X z) mT 164 13 ls st (0, 0) Q)) := by
  rw [x164_13]
  refine (inv_s (As := [.int a0, .int a1, .int a2]) (rm := mi164) (ry := mi106) rfl rfl (by decide) rfl rfl (Nat.le_of_ble_eq_true rfl) rfl (by decide) (by decide)).trans ?_
  exact Eq.trans (congrArg _ (and_t (Nat.zero_le _))) (congrArg _ (and_t (Nat.zero_le _)))
theorem v165_89 {z : P0} {ls : Lcs} {st : List Value} {c n : Nat} {K : Nat → Nat × Nat} {I : Nat → Nat → Int32} {R : Nat → Nat → Option Nat} {L : Nat → Nat → Int64} {sz : Nat} {ex : Bool} {Q : Res → Mem → Prop} {x : Nat}  : X z 165 89 ls (.ref x :: st) (0, 0) (K, I, R, L, sz, ex) Q = ((K x).1 = 111 ∧ wsum st ≤ 8 ∧ X z 111 0 [some (.ref x), none, none] [] (0, 0) (K, I, R, L, sz, ex) (aftr (X z) mT 165 89 ls st (0, 0) Q)) := by
  rw [x165_89]
  refine (inv_v (As := []) (rm := mi165) (ry := mi111) rfl rfl (by decide) rfl rfl (Nat.le_of_ble_eq_true rfl) rfl rfl).trans ?_
  refine congrArg _ ?_
  exact Eq.trans (congrArg _ (and_t (Nat.zero_le _))) (congrArg _ (and_t (Nat.zero_le _)))
theorem v165_110 {z : P0} {ls : Lcs} {st : List Value} {c n : Nat} {K : Nat → Nat × Nat} {I : Nat → Nat → Int32} {R : Nat → Nat → Option Nat} {L : Nat → Nat → Int64} {sz : Nat} {ex : Bool} {Q : Res → Mem → Prop} {x : Nat} {a0 : Int32} : X z 165 110 ls (.int a0 :: .ref x :: st) (0, 0) (K, I, R, L, sz, ex) Q = ((K x).1 = 111 ∧ wsum st ≤ 8 ∧ X z 132 0 [some (.ref x), some (.int a0), none, none, none] [] (0, 0) (K, I, R, L, sz, ex) (aftr (X z) mT 165 110 ls st (0, 0) Q)) := by
  rw [x165_110]
  refine (inv_v (As := [.int a0]) (rm := mi165) (ry := mi132) rfl rfl (by decide) rfl rfl (Nat.le_of_ble_eq_true rfl) rfl rfl).trans ?_
  refine congrArg _ ?_
  exact Eq.trans (congrArg _ (and_t (Nat.zero_le _))) (congrArg _ (and_t (Nat.zero_le _)))
theorem v165_139 {z : P0} {ls : Lcs} {st : List Value} {c n : Nat} {K : Nat → Nat × Nat} {I : Nat → Nat → Int32} {R : Nat → Nat → Option Nat} {L : Nat → Nat → Int64} {sz : Nat} {ex : Bool} {Q : Res → Mem → Prop} {x : Nat}  : X z 165 139 ls (.ref x :: st) (0, 0) (K, I, R, L, sz, ex) Q = ((K x).1 = 111 ∧ wsum st ≤ 8 ∧ X z 138 0 [some (.ref x), none, none] [] (0, 0) (K, I, R, L, sz, ex) (aftr (X z) mT 165 139 ls st (0, 0) Q)) := by
  rw [x165_139]
  refine (inv_v (As := []) (rm := mi165) (ry := mi138) rfl rfl (by decide) rfl rfl (Nat.le_of_ble_eq_true rfl) rfl rfl).trans ?_
  refine congrArg _ ?_
  exact Eq.trans (congrArg _ (and_t (Nat.zero_le _))) (congrArg _ (and_t (Nat.zero_le _)))
theorem v165_153 {z : P0} {ls : Lcs} {st : List Value} {c n : Nat} {K : Nat → Nat × Nat} {I : Nat → Nat → Int32} {R : Nat → Nat → Option Nat} {L : Nat → Nat → Int64} {sz : Nat} {ex : Bool} {Q : Res → Mem → Prop} {x : Nat} {a0 : Int32} : X z 165 153 ls (.int a0 :: .ref x :: st) (0, 0) (K, I, R, L, sz, ex) Q = ((K x).1 = 111 ∧ wsum st ≤ 8 ∧ X z 110 0 [some (.ref x), some (.int a0), none, none] [] (0, 0) (K, I, R, L, sz, ex) (aftr (X z) mT 165 153 ls st (0, 0) Q)) := by
  rw [x165_153]
  refine (inv_v (As := [.int a0]) (rm := mi165) (ry := mi110) rfl rfl (by decide) rfl rfl (Nat.le_of_ble_eq_true rfl) rfl rfl).trans ?_
  refine congrArg _ ?_
  exact Eq.trans (congrArg _ (and_t (Nat.zero_le _))) (congrArg _ (and_t (Nat.zero_le _)))
theorem v166_5 {z : P0} {ls : Lcs} {st : List Value} {c n : Nat} {K : Nat → Nat × Nat} {I : Nat → Nat → Int32} {R : Nat → Nat → Option Nat} {L : Nat → Nat → Int64} {sz : Nat} {ex : Bool} {Q : Res → Mem → Prop}  {a0 : Int32} {a1 : Int32} {a2 : Int32} : X z 166 5 ls (.int a2 :: .int a1 :: .int a0 :: st) (0, 0) (K, I, R, L, sz, ex) Q = (wsum st ≤ 8 ∧ X z 106 0 [some (.int a0), some (.int a1), some (.int a2)] [] (0, 0) (K, I, R, L, sz, ex) (aftr (X z) mT 166 5 ls st (0, 0) Q)) := by
  rw [x166_5]
  refine (inv_s (As := [.int a0, .int a1, .int a2]) (rm := mi166) (ry := mi106) rfl rfl (by decide) rfl rfl (Nat.le_of_ble_eq_true rfl) rfl (by decide) (by decide)).trans ?_
  exact Eq.trans (congrArg _ (and_t (Nat.zero_le _))) (congrArg _ (and_t (Nat.zero_le _)))
theorem v166_29 {z : P0} {ls : Lcs} {st : List Value} {c n : Nat} {K : Nat → Nat × Nat} {I : Nat → Nat → Int32} {R : Nat → Nat → Option Nat} {L : Nat → Nat → Int64} {sz : Nat} {ex : Bool} {Q : Res → Mem → Prop} {x : Nat}  : X z 166 29 ls (.ref x :: st) (0, 0) (K, I, R, L, sz, ex) Q = ((K x).1 = 111 ∧ wsum st ≤ 8 ∧ X z 130 0 [some (.ref x), none] [] (0, 0) (K, I, R, L, sz, ex) (aftr (X z) mT 166 29 ls st (0, 0) Q)) := by
  rw [x166_29]
  refine (inv_v (As := []) (rm := mi166) (ry := mi130) rfl rfl (by decide) rfl rfl (Nat.le_of_ble_eq_true rfl) rfl rfl).trans ?_
  refine congrArg _ ?_
  exact Eq.trans (congrArg _ (and_t (Nat.zero_le _))) (congrArg _ (and_t (Nat.zero_le _)))
theorem v166_34 {z : P0} {ls : Lcs} {st : List Value} {c n : Nat} {K : Nat → Nat × Nat} {I : Nat → Nat → Int32} {R : Nat → Nat → Option Nat} {L : Nat → Nat → Int64} {sz : Nat} {ex : Bool} {Q : Res → Mem → Prop} {x : Nat} {a0 : Int32} : X z 166 34 ls (.int a0 :: .ref x :: st) (0, 0) (K, I, R, L, sz, ex) Q = ((K x).1 = 111 ∧ wsum st ≤ 8 ∧ X z 165 0 [some (.ref x), some (.int a0)] [] (0, 0) (K, I, R, L, sz, ex) (aftr (X z) mT 166 34 ls st (0, 0) Q)) := by
  rw [x166_34]
  refine (inv_v (As := [.int a0]) (rm := mi166) (ry := mi165) rfl rfl (by decide) rfl rfl (Nat.le_of_ble_eq_true rfl) rfl rfl).trans ?_
  refine congrArg _ ?_
  exact Eq.trans (congrArg _ (and_t (Nat.zero_le _))) (congrArg _ (and_t (Nat.zero_le _)))
theorem v167_2 {z : P0} {ls : Lcs} {st : List Value} {c n : Nat} {K : Nat → Nat × Nat} {I : Nat → Nat → Int32} {R : Nat → Nat → Option Nat} {L : Nat → Nat → Int64} {sz : Nat} {ex : Bool} {Q : Res → Mem → Prop}  {a0 : Int32} : X z 167 2 ls (.int a0 :: st) (0, 0) (K, I, R, L, sz, ex) Q = (wsum st ≤ 8 ∧ X z 140 0 [some (.int a0)] [] (0, 0) (K, I, R, L, sz, ex) (aftr (X z) mT 167 2 ls st (0, 0) Q)) := by
  rw [x167_2]
  refine (inv_s (As := [.int a0]) (rm := mi167) (ry := mi140) rfl rfl (by decide) rfl rfl (Nat.le_of_ble_eq_true rfl) rfl (by decide) (by decide)).trans ?_
  exact Eq.trans (congrArg _ (and_t (Nat.zero_le _))) (congrArg _ (and_t (Nat.zero_le _)))
theorem v168_20 {z : P0} {ls : Lcs} {st : List Value} {c n : Nat} {K : Nat → Nat × Nat} {I : Nat → Nat → Int32} {R : Nat → Nat → Option Nat} {L : Nat → Nat → Int64} {sz : Nat} {ex : Bool} {Q : Res → Mem → Prop} {x : Nat}  : X z 168 20 ls (.ref x :: st) (0, 0) (K, I, R, L, sz, ex) Q = ((K x).1 = 111 ∧ wsum st ≤ 8 ∧ X z 130 0 [some (.ref x), none] [] (0, 0) (K, I, R, L, sz, ex) (aftr (X z) mT 168 20 ls st (0, 0) Q)) := by
  rw [x168_20]
  refine (inv_v (As := []) (rm := mi168) (ry := mi130) rfl rfl (by decide) rfl rfl (Nat.le_of_ble_eq_true rfl) rfl rfl).trans ?_
  refine congrArg _ ?_
  exact Eq.trans (congrArg _ (and_t (Nat.zero_le _))) (congrArg _ (and_t (Nat.zero_le _)))
theorem v168_25 {z : P0} {ls : Lcs} {st : List Value} {c n : Nat} {K : Nat → Nat × Nat} {I : Nat → Nat → Int32} {R : Nat → Nat → Option Nat} {L : Nat → Nat → Int64} {sz : Nat} {ex : Bool} {Q : Res → Mem → Prop} {x : Nat} {a0 : Int32} : X z 168 25 ls (.int a0 :: .ref x :: st) (0, 0) (K, I, R, L, sz, ex) Q = ((K x).1 = 111 ∧ wsum st ≤ 8 ∧ X z 132 0 [some (.ref x), some (.int a0), none, none, none] [] (0, 0) (K, I, R, L, sz, ex) (aftr (X z) mT 168 25 ls st (0, 0) Q)) := by
  rw [x168_25]
  refine (inv_v (As := [.int a0]) (rm := mi168) (ry := mi132) rfl rfl (by decide) rfl rfl (Nat.le_of_ble_eq_true rfl) rfl rfl).trans ?_
  refine congrArg _ ?_
  exact Eq.trans (congrArg _ (and_t (Nat.zero_le _))) (congrArg _ (and_t (Nat.zero_le _)))
theorem v169_2 {z : P0} {ls : Lcs} {st : List Value} {c n : Nat} {K : Nat → Nat × Nat} {I : Nat → Nat → Int32} {R : Nat → Nat → Option Nat} {L : Nat → Nat → Int64} {sz : Nat} {ex : Bool} {Q : Res → Mem → Prop}  {a0 : Int32} : X z 169 2 ls (.int a0 :: st) (0, 0) (K, I, R, L, sz, ex) Q = (wsum st ≤ 8 ∧ X z 140 0 [some (.int a0)] [] (0, 0) (K, I, R, L, sz, ex) (aftr (X z) mT 169 2 ls st (0, 0) Q)) := by
  rw [x169_2]
  refine (inv_s (As := [.int a0]) (rm := mi169) (ry := mi140) rfl rfl (by decide) rfl rfl (Nat.le_of_ble_eq_true rfl) rfl (by decide) (by decide)).trans ?_
  exact Eq.trans (congrArg _ (and_t (Nat.zero_le _))) (congrArg _ (and_t (Nat.zero_le _)))
theorem v169_14 {z : P0} {ls : Lcs} {st : List Value} {c n : Nat} {K : Nat → Nat × Nat} {I : Nat → Nat → Int32} {R : Nat → Nat → Option Nat} {L : Nat → Nat → Int64} {sz : Nat} {ex : Bool} {Q : Res → Mem → Prop}  {a0 : Int32} {a1 : Int32} : X z 169 14 ls (.int a1 :: .int a0 :: st) (0, 0) (K, I, R, L, sz, ex) Q = (wsum st ≤ 8 ∧ X z 141 0 [some (.int a0), some (.int a1)] [] (0, 0) (K, I, R, L, sz, ex) (aftr (X z) mT 169 14 ls st (0, 0) Q)) := by
  rw [x169_14]
  refine (inv_s (As := [.int a0, .int a1]) (rm := mi169) (ry := mi141) rfl rfl (by decide) rfl rfl (Nat.le_of_ble_eq_true rfl) rfl (by decide) (by decide)).trans ?_
  exact Eq.trans (congrArg _ (and_t (Nat.zero_le _))) (congrArg _ (and_t (Nat.zero_le _)))
theorem v169_23 {z : P0} {ls : Lcs} {st : List Value} {c n : Nat} {K : Nat → Nat × Nat} {I : Nat → Nat → Int32} {R : Nat → Nat → Option Nat} {L : Nat → Nat → Int64} {sz : Nat} {ex : Bool} {Q : Res → Mem → Prop}  {a0 : Int32} {a1 : Int32} {a2 : Int32} : X z 169 23 ls (.int a2 :: .int a1 :: .int a0 :: st) (0, 0) (K, I, R, L, sz, ex) Q = (wsum st ≤ 8 ∧ X z 106 0 [some (.int a0), some (.int a1), some (.int a2)] [] (0, 0) (K, I, R, L, sz, ex) (aftr (X z) mT 169 23 ls st (0, 0) Q)) := by
  rw [x169_23]
  refine (inv_s (As := [.int a0, .int a1, .int a2]) (rm := mi169) (ry := mi106) rfl rfl (by decide) rfl rfl (Nat.le_of_ble_eq_true rfl) rfl (by decide) (by decide)).trans ?_
  exact Eq.trans (congrArg _ (and_t (Nat.zero_le _))) (congrArg _ (and_t (Nat.zero_le _)))
theorem v169_52 {z : P0} {ls : Lcs} {st : List Value} {c n : Nat} {K : Nat → Nat × Nat} {I : Nat → Nat → Int32} {R : Nat → Nat → Option Nat} {L : Nat → Nat → Int64} {sz : Nat} {ex : Bool} {Q : Res → Mem → Prop} {x : Nat} {a0 : Int32} {a1 : Int32} {a2 : Int32} : X z 169 52 ls (.int a2 :: .int a1 :: .int a0 :: .ref x :: st) (0, 0) (K, I, R, L, sz, ex) Q = ((K x).1 = 111 ∧ wsum st ≤ 8 ∧ X z 168 0 [some (.ref x), some (.int a0), some (.int a1), some (.int a2), none, none] [] (0, 0) (K, I, R, L, sz, ex) (aftr (X z) mT 169 52 ls st (0, 0) Q)) := by
  rw [x169_52]
  refine (inv_v (As := [.int a0, .int a1, .int a2]) (rm := mi169) (ry := mi168) rfl rfl (by decide) rfl rfl (Nat.le_of_ble_eq_true rfl) rfl rfl).trans ?_
  refine congrArg _ ?_
  exact Eq.trans (congrArg _ (and_t (Nat.zero_le _))) (congrArg _ (and_t (Nat.zero_le _)))
theorem v170_21 {z : P0} {ls : Lcs} {st : List Value} {c n : Nat} {K : Nat → Nat × Nat} {I : Nat → Nat → Int32} {R : Nat → Nat → Option Nat} {L : Nat → Nat → Int64} {sz : Nat} {ex : Bool} {Q : Res → Mem → Prop} {x : Nat} {a0 : Int32} {a1 : Int32} {a2 : Int32} : X z 170 21 ls (.int a2 :: .int a1 :: .int a0 :: .ref x :: st) (0, 0) (K, I, R, L, sz, ex) Q = ((K x).1 = 111 ∧ wsum st ≤ 8 ∧ X z 168 0 [some (.ref x), some (.int a0), some (.int a1), some (.int a2), none, none] [] (0, 0) (K, I, R, L, sz, ex) (aftr (X z) mT 170 21 ls st (0, 0) Q)) := by
  rw [x170_21]
  refine (inv_v (As := [.int a0, .int a1, .int a2]) (rm := mi170) (ry := mi168) rfl rfl (by decide) rfl rfl (Nat.le_of_ble_eq_true rfl) rfl rfl).trans ?_
  refine congrArg _ ?_
  exact Eq.trans (congrArg _ (and_t (Nat.zero_le _))) (congrArg _ (and_t (Nat.zero_le _)))
theorem v170_31 {z : P0} {ls : Lcs} {st : List Value} {c n : Nat} {K : Nat → Nat × Nat} {I : Nat → Nat → Int32} {R : Nat → Nat → Option Nat} {L : Nat → Nat → Int64} {sz : Nat} {ex : Bool} {Q : Res → Mem → Prop} {x : Nat} {a0 : Int32} {a1 : Int32} {a2 : Int32} : X z 170 31 ls (.int a2 :: .int a1 :: .int a0 :: .ref x :: st) (0, 0) (K, I, R, L, sz, ex) Q = ((K x).1 = 111 ∧ wsum st ≤ 8 ∧ X z 168 0 [some (.ref x), some (.int a0), some (.int a1), some (.int a2), none, none] [] (0, 0) (K, I, R, L, sz, ex) (aftr (X z) mT 170 31 ls st (0, 0) Q)) := by
  rw [x170_31]
  refine (inv_v (As := [.int a0, .int a1, .int a2]) (rm := mi170) (ry := mi168) rfl rfl (by decide) rfl rfl (Nat.le_of_ble_eq_true rfl) rfl rfl).trans ?_
  refine congrArg _ ?_
  exact Eq.trans (congrArg _ (and_t (Nat.zero_le _))) (congrArg _ (and_t (Nat.zero_le _)))
theorem v171_6 {z : P0} {ls : Lcs} {st : List Value} {c n : Nat} {K : Nat → Nat × Nat} {I : Nat → Nat → Int32} {R : Nat → Nat → Option Nat} {L : Nat → Nat → Int64} {sz : Nat} {ex : Bool} {Q : Res → Mem → Prop} {x : Nat}  : X z 171 6 ls (.ref x :: st) (0, 0) (K, I, R, L, sz, ex) Q = ((K x).1 = 111 ∧ wsum st ≤ 8 ∧ X z 170 0 [some (.ref x), none, none, none, none, none, none] [] (0, 0) (K, I, R, L, sz, ex) (aftr (X z) mT 171 6 ls st (0, 0) Q)) := by
  rw [x171_6]
  refine (inv_v (As := []) (rm := mi171) (ry := mi170) rfl rfl (by decide) rfl rfl (Nat.le_of_ble_eq_true rfl) rfl rfl).trans ?_
  refine congrArg _ ?_
  exact Eq.trans (congrArg _ (and_t (Nat.zero_le _))) (congrArg _ (and_t (Nat.zero_le _)))
theorem v172_5 {z : P0} {ls : Lcs} {st : List Value} {c n : Nat} {K : Nat → Nat × Nat} {I : Nat → Nat → Int32} {R : Nat → Nat → Option Nat} {L : Nat → Nat → Int64} {sz : Nat} {ex : Bool} {Q : Res → Mem → Prop} {x : Nat} {a0 : Int32} {a1 : Int32} {a2 : Int32} : X z 172 5 ls (.int a2 :: .int a1 :: .int a0 :: .ref x :: st) (0, 0) (K, I, R, L, sz, ex) Q = ((K x).1 = 111 ∧ wsum st ≤ 8 ∧ X z 168 0 [some (.ref x), some (.int a0), some (.int a1), some (.int a2), none, none] [] (0, 0) (K, I, R, L, sz, ex) (aftr (X z) mT 172 5 ls st (0, 0) Q)) := by
  rw [x172_5]
  refine (inv_v (As := [.int a0, .int a1, .int a2]) (rm := mi172) (ry := mi168) rfl rfl (by decide) rfl rfl (Nat.le_of_ble_eq_true rfl) rfl rfl).trans ?_
  refine congrArg _ ?_
  exact Eq.trans (congrArg _ (and_t (Nat.zero_le _))) (congrArg _ (and_t (Nat.zero_le _)))
theorem v172_14 {z : P0} {ls : Lcs} {st : List Value} {c n : Nat} {K : Nat → Nat × Nat} {I : Nat → Nat → Int32} {R : Nat → Nat → Option Nat} {L : Nat → Nat → Int64} {sz : Nat} {ex : Bool} {Q : Res → Mem → Prop} {x : Nat} {a0 : Int32} {a1 : Int32} {a2 : Int32} : X z 172 14 ls (.int a2 :: .int a1 :: .int a0 :: .ref x :: st) (0, 0) (K, I, R, L, sz, ex) Q = ((K x).1 = 111 ∧ wsum st ≤ 8 ∧ X z 168 0 [some (.ref x), some (.int a0), some (.int a1), some (.int a2), none, none] [] (0, 0) (K, I, R, L, sz, ex) (aftr (X z) mT 172 14 ls st (0, 0) Q)) := by
  rw [x172_14]
  refine (inv_v (As := [.int a0, .int a1, .int a2]) (rm := mi172) (ry := mi168) rfl rfl (by decide) rfl rfl (Nat.le_of_ble_eq_true rfl) rfl rfl).trans ?_
  refine congrArg _ ?_
  exact Eq.trans (congrArg _ (and_t (Nat.zero_le _))) (congrArg _ (and_t (Nat.zero_le _)))
theorem v172_24 {z : P0} {ls : Lcs} {st : List Value} {c n : Nat} {K : Nat → Nat × Nat} {I : Nat → Nat → Int32} {R : Nat → Nat → Option Nat} {L : Nat → Nat → Int64} {sz : Nat} {ex : Bool} {Q : Res → Mem → Prop} {x : Nat} {a0 : Int32} {a1 : Int32} {a2 : Int32} : X z 172 24 ls (.int a2 :: .int a1 :: .int a0 :: .ref x :: st) (0, 0) (K, I, R, L, sz, ex) Q = ((K x).1 = 111 ∧ wsum st ≤ 8 ∧ X z 168 0 [some (.ref x), some (.int a0), some (.int a1), some (.int a2), none, none] [] (0, 0) (K, I, R, L, sz, ex) (aftr (X z) mT 172 24 ls st (0, 0) Q)) := by
  rw [x172_24]
  refine (inv_v (As := [.int a0, .int a1, .int a2]) (rm := mi172) (ry := mi168) rfl rfl (by decide) rfl rfl (Nat.le_of_ble_eq_true rfl) rfl rfl).trans ?_
  refine congrArg _ ?_
  exact Eq.trans (congrArg _ (and_t (Nat.zero_le _))) (congrArg _ (and_t (Nat.zero_le _)))
theorem v172_35 {z : P0} {ls : Lcs} {st : List Value} {c n : Nat} {K : Nat → Nat × Nat} {I : Nat → Nat → Int32} {R : Nat → Nat → Option Nat} {L : Nat → Nat → Int64} {sz : Nat} {ex : Bool} {Q : Res → Mem → Prop} {x : Nat} {a0 : Int32} {a1 : Int32} {a2 : Int32} : X z 172 35 ls (.int a2 :: .int a1 :: .int a0 :: .ref x :: st) (0, 0) (K, I, R, L, sz, ex) Q = ((K x).1 = 111 ∧ wsum st ≤ 8 ∧ X z 168 0 [some (.ref x), some (.int a0), some (.int a1), some (.int a2), none, none] [] (0, 0) (K, I, R, L, sz, ex) (aftr (X z) mT 172 35 ls st (0, 0) Q)) := by
  rw [x172_35]
  refine (inv_v (As := [.int a0, .int a1, .int a2]) (rm := mi172) (ry := mi168) rfl rfl (by decide) rfl rfl (Nat.le_of_ble_eq_true rfl) rfl rfl).trans ?_
  refine congrArg _ ?_
  exact Eq.trans (congrArg _ (and_t (Nat.zero_le _))) (congrArg _ (and_t (Nat.zero_le _)))
theorem v173_6 {z : P0} {ls : Lcs} {st : List Value} {c n : Nat} {K : Nat → Nat × Nat} {I : Nat → Nat → Int32} {R : Nat → Nat → Option Nat} {L : Nat → Nat → Int64} {sz : Nat} {ex : Bool} {Q : Res → Mem → Prop} {x : Nat}  : X z 173 6 ls (.ref x :: st) (0, 0) (K, I, R, L, sz, ex) Q = ((K x).1 = 111 ∧ wsum st ≤ 8 ∧ X z 172 0 [some (.ref x), none, none, none] [] (0, 0) (K, I, R, L, sz, ex) (aftr (X z) mT 173 6 ls st (0, 0) Q)) := by
  rw [x173_6]
  refine (inv_v (As := []) (rm := mi173) (ry := mi172) rfl rfl (by decide) rfl rfl (Nat.le_of_ble_eq_true rfl) rfl rfl).trans ?_
  refine congrArg _ ?_
  exact Eq.trans (congrArg _ (and_t (Nat.zero_le _))) (congrArg _ (and_t (Nat.zero_le _)))
theorem v174_19 {z : P0} {ls : Lcs} {st : List Value} {c n : Nat} {K : Nat → Nat × Nat} {I : Nat → Nat → Int32} {R : Nat → Nat → Option Nat} {L : Nat → Nat → Int64} {sz : Nat} {ex : Bool} {Q : Res → Mem → Prop} {x : Nat} {a0 : Int32} {a1 : Int32} : X z 174 19 ls (.int a1 :: .int a0 :: .ref x :: st) (0, 0) (K, I, R, L, sz, ex) Q = ((K x).1 = 111 ∧ wsum st ≤ 8 ∧ X z 112 0 [some (.ref x), some (.int a0), some (.int a1)] [] (0, 0) (K, I, R, L, sz, ex) (aftr (X z) mT 174 19 ls st (0, 0) Q)) := by
  rw [x174_19]
  refine (inv_v (As := [.int a0, .int a1]) (rm := mi174) (ry := mi112) rfl rfl (by decide) rfl rfl (Nat.le_of_ble_eq_true rfl) rfl rfl).trans ?_
  refine congrArg _ ?_
  exact Eq.trans (congrArg _ (and_t (Nat.zero_le _))) (congrArg _ (and_t (Nat.zero_le _)))
theorem v175_3 {z : P0} {ls : Lcs} {st : List Value} {c n : Nat} {K : Nat → Nat × Nat} {I : Nat → Nat → Int32} {R : Nat → Nat → Option Nat} {L : Nat → Nat → Int64} {sz : Nat} {ex : Bool} {Q : Res → Mem → Prop} {x : Nat} {a0 : Int32} : X z 175 3 ls (.int a0 :: .ref x :: st) (0, 0) (K, I, R, L, sz, ex) Q = ((K x).1 = 111 ∧ wsum st ≤ 8 ∧ X z 108 0 [some (.ref x), some (.int a0)] [] (0, 0) (K, I, R, L, sz, ex) (aftr (X z) mT 175 3 ls st (0, 0) Q)) := by
  rw [x175_3]
  refine (inv_v (As := [.int a0]) (rm := mi175) (ry := mi108) rfl rfl (by decide) rfl rfl (Nat.le_of_ble_eq_true rfl) rfl rfl).trans ?_
  refine congrArg _ ?_
  exact Eq.trans (congrArg _ (and_t (Nat.zero_le _))) (congrArg _ (and_t (Nat.zero_le _)))
theorem v175_30 {z : P0} {ls : Lcs} {st : List Value} {c n : Nat} {K : Nat → Nat × Nat} {I : Nat → Nat → Int32} {R : Nat → Nat → Option Nat} {L : Nat → Nat → Int64} {sz : Nat} {ex : Bool} {Q : Res → Mem → Prop} {x : Nat} {a0 : Int32} : X z 175 30 ls (.int a0 :: .ref x :: st) (0, 0) (K, I, R, L, sz, ex) Q = ((K x).1 = 111 ∧ wsum st ≤ 8 ∧ X z 174 0 [some (.ref x), some (.int a0), none] [] (0, 0) (K, I, R, L, sz, ex) (aftr (X z) mT 175 30 ls st (0, 0) Q)) := by
  rw [x175_30]
  refine (inv_v (As := [.int a0]) (rm := mi175) (ry := mi174) rfl rfl (by decide) rfl rfl (Nat.le_of_ble_eq_true rfl) rfl rfl).trans ?_
  refine congrArg _ ?_
  exact Eq.trans (congrArg _ (and_t (Nat.zero_le _))) (congrArg _ (and_t (Nat.zero_le _)))
theorem v176_16 {z : P0} {ls : Lcs} {st : List Value} {c n : Nat} {K : Nat → Nat × Nat} {I : Nat → Nat → Int32} {R : Nat → Nat → Option Nat} {L : Nat → Nat → Int64} {sz : Nat} {ex : Bool} {Q : Res → Mem → Prop} {x : Nat} {a0 : Int32} : X z 176 16 ls (.int a0 :: .ref x :: st) (0, 0) (K, I, R, L, sz, ex) Q = ((K x).1 = 111 ∧ wsum st ≤ 8 ∧ X z 132 0 [some (.ref x), some (.int a0), none, none, none] [] (0, 0) (K, I, R, L, sz, ex) (aftr (X z) mT 176 16 ls st (0, 0) Q)) := by
  rw [x176_16]
  refine (inv_v (As := [.int a0]) (rm := mi176) (ry := mi132) rfl rfl (by decide) rfl rfl (Nat.le_of_ble_eq_true rfl) rfl rfl).trans ?_
  refine congrArg _ ?_
  exact Eq.trans (congrArg _ (and_t (Nat.zero_le _))) (congrArg _ (and_t (Nat.zero_le _)))
theorem v177_6 {z : P0} {ls : Lcs} {st : List Value} {c n : Nat} {K : Nat → Nat × Nat} {I : Nat → Nat → Int32} {R : Nat → Nat → Option Nat} {L : Nat → Nat → Int64} {sz : Nat} {ex : Bool} {Q : Res → Mem → Prop} {x : Nat}  : X z 177 6 ls (.ref x :: st) (0, 0) (K, I, R, L, sz, ex) Q = ((K x).1 = 111 ∧ wsum st ≤ 8 ∧ X z 130 0 [some (.ref x), none] [] (0, 0) (K, I, R, L, sz, ex) (aftr (X z) mT 177 6 ls st (0, 0) Q)) := by
  rw [x177_6]
  refine (inv_v (As := []) (rm := mi177) (ry := mi130) rfl rfl (by decide) rfl rfl (Nat.le_of_ble_eq_true rfl) rfl rfl).trans ?_
  refine congrArg _ ?_
  exact Eq.trans (congrArg _ (and_t (Nat.zero_le _))) (congrArg _ (and_t (Nat.zero_le _)))
theorem v177_10 {z : P0} {ls : Lcs} {st : List Value} {c n : Nat} {K : Nat → Nat × Nat} {I : Nat → Nat → Int32} {R : Nat → Nat → Option Nat} {L : Nat → Nat → Int64} {sz : Nat} {ex : Bool} {Q : Res → Mem → Prop} {x : Nat}  : X z 177 10 ls (.ref x :: st) (0, 0) (K, I, R, L, sz, ex) Q = ((K x).1 = 111 ∧ wsum st ≤ 8 ∧ X z 176 0 [some (.ref x)] [] (0, 0) (K, I, R, L, sz, ex) (aftr (X z) mT 177 10 ls st (0, 0) Q)) := by
  rw [x177_10]
  refine (inv_v (As := []) (rm := mi177) (ry := mi176) rfl rfl (by decide) rfl rfl (Nat.le_of_ble_eq_true rfl) rfl rfl).trans ?_
  refine congrArg _ ?_
  exact Eq.trans (congrArg _ (and_t (Nat.zero_le _))) (congrArg _ (and_t (Nat.zero_le _)))
theorem v179_25 {z : P0} {ls : Lcs} {st : List Value} {c n : Nat} {K : Nat → Nat × Nat} {I : Nat → Nat → Int32} {R : Nat → Nat → Option Nat} {L : Nat → Nat → Int64} {sz : Nat} {ex : Bool} {Q : Res → Mem → Prop} {x : Nat} {a0 : Int32} {a1 : Int32} : X z 179 25 ls (.int a1 :: .int a0 :: .ref x :: st) (0, 0) (K, I, R, L, sz, ex) Q = ((K x).1 = 111 ∧ wsum st ≤ 8 ∧ X z 155 0 [some (.ref x), some (.int a0), some (.int a1)] [] (0, 0) (K, I, R, L, sz, ex) (aftr (X z) mT 179 25 ls st (0, 0) Q)) := by
  rw [x179_25]
  refine (inv_v (As := [.int a0, .int a1]) (rm := mi179) (ry := mi155) rfl rfl (by decide) rfl rfl (Nat.le_of_ble_eq_true rfl) rfl rfl).trans ?_
  refine congrArg _ ?_
  exact Eq.trans (congrArg _ (and_t (Nat.zero_le _))) (congrArg _ (and_t (Nat.zero_le _)))
theorem v179_29 {z : P0} {ls : Lcs} {st : List Value} {c n : Nat} {K : Nat → Nat × Nat} {I : Nat → Nat → Int32} {R : Nat → Nat → Option Nat} {L : Nat → Nat → Int64} {sz : Nat} {ex : Bool} {Q : Res → Mem → Prop} {x : Nat} {a0 : Int64} : X z 179 29 ls (.long a0 :: .ref x :: st) (0, 0) (K, I, R, L, sz, ex) Q = ((K x).1 = 111 ∧ wsum st ≤ 8 ∧ X z 178 0 [some (.ref x), some (.long a0), none] [] (0, 0) (K, I, R, L, sz, ex) (aftr (X z) mT 179 29 ls st (0, 0) Q)) := by
  rw [x179_29]
  refine (inv_v (As := [.long a0]) (rm := mi179) (ry := mi178) rfl rfl (by decide) rfl rfl (Nat.le_of_ble_eq_true rfl) rfl rfl).trans ?_
  refine congrArg _ ?_
  exact Eq.trans (congrArg _ (and_t (Nat.zero_le _))) (congrArg _ (and_t (Nat.zero_le _)))
theorem v179_71 {z : P0} {ls : Lcs} {st : List Value} {c n : Nat} {K : Nat → Nat × Nat} {I : Nat → Nat → Int32} {R : Nat → Nat → Option Nat} {L : Nat → Nat → Int64} {sz : Nat} {ex : Bool} {Q : Res → Mem → Prop} {x : Nat} {a0 : Int64} : X z 179 71 ls (.long a0 :: .ref x :: st) (0, 0) (K, I, R, L, sz, ex) Q = ((K x).1 = 111 ∧ wsum st ≤ 8 ∧ X z 178 0 [some (.ref x), some (.long a0), none] [] (0, 0) (K, I, R, L, sz, ex) (aftr (X z) mT 179 71 ls st (0, 0) Q)) := by
  rw [x179_71]
  refine (inv_v (As := [.long a0]) (rm := mi179) (ry := mi178) rfl rfl (by decide) rfl rfl (Nat.le_of_ble_eq_true rfl) rfl rfl).trans ?_
  refine congrArg _ ?_
  exact Eq.trans (congrArg _ (and_t (Nat.zero_le _))) (congrArg _ (and_t (Nat.zero_le _)))
theorem v179_83 {z : P0} {ls : Lcs} {st : List Value} {c n : Nat} {K : Nat → Nat × Nat} {I : Nat → Nat → Int32} {R : Nat → Nat → Option Nat} {L : Nat → Nat → Int64} {sz : Nat} {ex : Bool} {Q : Res → Mem → Prop} {x : Nat} {a0 : Int32} : X z 179 83 ls (.int a0 :: .ref x :: st) (0, 0) (K, I, R, L, sz, ex) Q = ((K x).1 = 111 ∧ wsum st ≤ 8 ∧ X z 174 0 [some (.ref x), some (.int a0), none] [] (0, 0) (K, I, R, L, sz, ex) (aftr (X z) mT 179 83 ls st (0, 0) Q)) := by
  rw [x179_83]
  refine (inv_v (As := [.int a0]) (rm := mi179) (ry := mi174) rfl rfl (by decide) rfl rfl (Nat.le_of_ble_eq_true rfl) rfl rfl).trans ?_
  refine congrArg _ ?_
  exact Eq.trans (congrArg _ (and_t (Nat.zero_le _))) (congrArg _ (and_t (Nat.zero_le _)))
theorem v179_87 {z : P0} {ls : Lcs} {st : List Value} {c n : Nat} {K : Nat → Nat × Nat} {I : Nat → Nat → Int32} {R : Nat → Nat → Option Nat} {L : Nat → Nat → Int64} {sz : Nat} {ex : Bool} {Q : Res → Mem → Prop} {x : Nat} {a0 : Int64} : X z 179 87 ls (.long a0 :: .ref x :: st) (0, 0) (K, I, R, L, sz, ex) Q = ((K x).1 = 111 ∧ wsum st ≤ 8 ∧ X z 178 0 [some (.ref x), some (.long a0), none] [] (0, 0) (K, I, R, L, sz, ex) (aftr (X z) mT 179 87 ls st (0, 0) Q)) := by
  rw [x179_87]
  refine (inv_v (As := [.long a0]) (rm := mi179) (ry := mi178) rfl rfl (by decide) rfl rfl (Nat.le_of_ble_eq_true rfl) rfl rfl).trans ?_
  refine congrArg _ ?_
  exact Eq.trans (congrArg _ (and_t (Nat.zero_le _))) (congrArg _ (and_t (Nat.zero_le _)))
theorem v179_133 {z : P0} {ls : Lcs} {st : List Value} {c n : Nat} {K : Nat → Nat × Nat} {I : Nat → Nat → Int32} {R : Nat → Nat → Option Nat} {L : Nat → Nat → Int64} {sz : Nat} {ex : Bool} {Q : Res → Mem → Prop} {x : Nat} {a0 : Int32} {a1 : Int32} : X z 179 133 ls (.int a1 :: .int a0 :: .ref x :: st) (0, 0) (K, I, R, L, sz, ex) Q = ((K x).1 = 111 ∧ wsum st ≤ 8 ∧ X z 159 0 [some (.ref x), some (.int a0), some (.int a1)] [] (0, 0) (K, I, R, L, sz, ex) (aftr (X z) mT 179 133 ls st (0, 0) Q)) := by
  rw [x179_133]
  refine (inv_v (As := [.int a0, .int a1]) (rm := mi179) (ry := mi159) rfl rfl (by decide) rfl rfl (Nat.le_of_ble_eq_true rfl) rfl rfl).trans ?_
  refine congrArg _ ?_
  exact Eq.trans (congrArg _ (and_t (Nat.zero_le _))) (congrArg _ (and_t (Nat.zero_le _)))
theorem v179_137 {z : P0} {ls : Lcs} {st : List Value} {c n : Nat} {K : Nat → Nat × Nat} {I : Nat → Nat → Int32} {R : Nat → Nat → Option Nat} {L : Nat → Nat → Int64} {sz : Nat} {ex : Bool} {Q : Res → Mem → Prop} {x : Nat} {a0 : Int64} : X z 179 137 ls (.long a0 :: .ref x :: st) (0, 0) (K, I, R, L, sz, ex) Q = ((K x).1 = 111 ∧ wsum st ≤ 8 ∧ X z 178 0 [some (.ref x), some (.long a0), none] [] (0, 0) (K, I, R, L, sz, ex) (aftr (X z) mT 179 137 ls st (0, 0) Q)) := by
  rw [x179_137]
  refine (inv_v (As := [.long a0]) (rm := mi179) (ry := mi178) rfl rfl (by decide) rfl rfl (Nat.le_of_ble_eq_true rfl) rfl rfl).trans ?_
  refine congrArg _ ?_
  exact Eq.trans (congrArg _ (and_t (Nat.zero_le _))) (congrArg _ (and_t (Nat.zero_le _)))
theorem v180_22 {z : P0} {ls : Lcs} {st : List Value} {c n : Nat} {K : Nat → Nat × Nat} {I : Nat → Nat → Int32} {R : Nat → Nat → Option Nat} {L : Nat → Nat → Int64} {sz : Nat} {ex : Bool} {Q : Res → Mem → Prop} {x : Nat} {a0 : Int32} {a1 : Int32} : X z 180 22 ls (.int a1 :: .int a0 :: .ref x :: st) (0, 0) (K, I, R, L, sz, ex) Q = ((K x).1 = 111 ∧ wsum st ≤ 8 ∧ X z 161 0 [some (.ref x), some (.int a0), some (.int a1)] [] (0, 0) (K, I, R, L, sz, ex) (aftr (X z) mT 180 22 ls st (0, 0) Q)) := by
  rw [x180_22]
  refine (inv_v (As := [.int a0, .int a1]) (rm := mi180) (ry := mi161) rfl rfl (by decide) rfl rfl (Nat.le_of_ble_eq_true rfl) rfl rfl).trans ?_
  refine congrArg _ ?_
  exact Eq.trans (congrArg _ (and_t (Nat.zero_le _))) (congrArg _ (and_t (Nat.zero_le _)))
theorem v180_26 {z : P0} {ls : Lcs} {st : List Value} {c n : Nat} {K : Nat → Nat × Nat} {I : Nat → Nat → Int32} {R : Nat → Nat → Option Nat} {L : Nat → Nat → Int64} {sz : Nat} {ex : Bool} {Q : Res → Mem → Prop} {x : Nat} {a0 : Int64} : X z 180 26 ls (.long a0 :: .ref x :: st) (0, 0) (K, I, R, L, sz, ex) Q = ((K x).1 = 111 ∧ wsum st ≤ 8 ∧ X z 178 0 [some (.ref x), some (.long a0), none] [] (0, 0) (K, I, R, L, sz, ex) (aftr (X z) mT 180 26 ls st (0, 0) Q)) := by
  rw [x180_26]
  refine (inv_v (As := [.long a0]) (rm := mi180) (ry := mi178) rfl rfl (by decide) rfl rfl (Nat.le_of_ble_eq_true rfl) rfl rfl).trans ?_
  refine congrArg _ ?_
  exact Eq.trans (congrArg _ (and_t (Nat.zero_le _))) (congrArg _ (and_t (Nat.zero_le _)))
theorem v180_43 {z : P0} {ls : Lcs} {st : List Value} {c n : Nat} {K : Nat → Nat × Nat} {I : Nat → Nat → Int32} {R : Nat → Nat → Option Nat} {L : Nat → Nat → Int64} {sz : Nat} {ex : Bool} {Q : Res → Mem → Prop} {x : Nat} {a0 : Int64} : X z 180 43 ls (.long a0 :: .ref x :: st) (0, 0) (K, I, R, L, sz, ex) Q = ((K x).1 = 111 ∧ wsum st ≤ 8 ∧ X z 178 0 [some (.ref x), some (.long a0), none] [] (0, 0) (K, I, R, L, sz, ex) (aftr (X z) mT 180 43 ls st (0, 0) Q)) := by
  rw [x180_43]
  refine (inv_v (As := [.long a0]) (rm := mi180) (ry := mi178) rfl rfl (by decide) rfl rfl (Nat.le_of_ble_eq_true rfl) rfl rfl).trans ?_
  refine congrArg _ ?_
  exact Eq.trans (congrArg _ (and_t (Nat.zero_le _))) (congrArg _ (and_t (Nat.zero_le _)))
theorem v180_48 {z : P0} {ls : Lcs} {st : List Value} {c n : Nat} {K : Nat → Nat × Nat} {I : Nat → Nat → Int32} {R : Nat → Nat → Option Nat} {L : Nat → Nat → Int64} {sz : Nat} {ex : Bool} {Q : Res → Mem → Prop} {x : Nat} {a0 : Int32} : X z 180 48 ls (.int a0 :: .ref x :: st) (0, 0) (K, I, R, L, sz, ex) Q = ((K x).1 = 111 ∧ wsum st ≤ 8 ∧ X z 124 0 [some (.ref x), some (.int a0), none, none, none] [] (0, 0) (K, I, R, L, sz, ex) (aftr (X z) mT 180 48 ls st (0, 0) Q)) := by
  rw [x180_48]
  refine (inv_v (As := [.int a0]) (rm := mi180) (ry := mi124) rfl rfl (by decide) rfl rfl (Nat.le_of_ble_eq_true rfl) rfl rfl).trans ?_
  refine congrArg _ ?_
  exact Eq.trans (congrArg _ (and_t (Nat.zero_le _))) (congrArg _ (and_t (Nat.zero_le _)))
theorem v180_69 {z : P0} {ls : Lcs} {st : List Value} {c n : Nat} {K : Nat → Nat × Nat} {I : Nat → Nat → Int32} {R : Nat → Nat → Option Nat} {L : Nat → Nat → Int64} {sz : Nat} {ex : Bool} {Q : Res → Mem → Prop} {x : Nat} {a0 : Int64} : X z 180 69 ls (.long a0 :: .ref x :: st) (0, 0) (K, I, R, L, sz, ex) Q = ((K x).1 = 111 ∧ wsum st ≤ 8 ∧ X z 178 0 [some (.ref x), some (.long a0), none] [] (0, 0) (K, I, R, L, sz, ex) (aftr (X z) mT 180 69 ls st (0, 0) Q)) := by
  rw [x180_69]
  refine (inv_v (As := [.long a0]) (rm := mi180) (ry := mi178) rfl rfl (by decide) rfl rfl (Nat.le_of_ble_eq_true rfl) rfl rfl).trans ?_
  refine congrArg _ ?_
  exact Eq.trans (congrArg _ (and_t (Nat.zero_le _))) (congrArg _ (and_t (Nat.zero_le _)))
theorem v181_6 {z : P0} {ls : Lcs} {st : List Value} {c n : Nat} {K : Nat → Nat × Nat} {I : Nat → Nat → Int32} {R : Nat → Nat → Option Nat} {L : Nat → Nat → Int64} {sz : Nat} {ex : Bool} {Q : Res → Mem → Prop} {x : Nat}  : X z 181 6 ls (.ref x :: st) (0, 0) (K, I, R, L, sz, ex) Q = ((K x).1 = 111 ∧ wsum st ≤ 8 ∧ X z 130 0 [some (.ref x), none] [] (0, 0) (K, I, R, L, sz, ex) (aftr (X z) mT 181 6 ls st (0, 0) Q)) := by
  rw [x181_6]
  refine (inv_v (As := []) (rm := mi181) (ry := mi130) rfl rfl (by decide) rfl rfl (Nat.le_of_ble_eq_true rfl) rfl rfl).trans ?_
  refine congrArg _ ?_
  exact Eq.trans (congrArg _ (and_t (Nat.zero_le _))) (congrArg _ (and_t (Nat.zero_le _)))
theorem v181_27 {z : P0} {ls : Lcs} {st : List Value} {c n : Nat} {K : Nat → Nat × Nat} {I : Nat → Nat → Int32} {R : Nat → Nat → Option Nat} {L : Nat → Nat → Int64} {sz : Nat} {ex : Bool} {Q : Res → Mem → Prop} {x : Nat} {a0 : Int32} : X z 181 27 ls (.int a0 :: .ref x :: st) (0, 0) (K, I, R, L, sz, ex) Q = ((K x).1 = 111 ∧ wsum st ≤ 8 ∧ X z 165 0 [some (.ref x), some (.int a0)] [] (0, 0) (K, I, R, L, sz, ex) (aftr (X z) mT 181 27 ls st (0, 0) Q)) := by
  rw [x181_27]
  refine (inv_v (As := [.int a0]) (rm := mi181) (ry := mi165) rfl rfl (by decide) rfl rfl (Nat.le_of_ble_eq_true rfl) rfl rfl).trans ?_
  refine congrArg _ ?_
  exact Eq.trans (congrArg _ (and_t (Nat.zero_le _))) (congrArg _ (and_t (Nat.zero_le _)))
theorem v181_31 {z : P0} {ls : Lcs} {st : List Value} {c n : Nat} {K : Nat → Nat × Nat} {I : Nat → Nat → Int32} {R : Nat → Nat → Option Nat} {L : Nat → Nat → Int64} {sz : Nat} {ex : Bool} {Q : Res → Mem → Prop} {x : Nat} {a0 : Int64} : X z 181 31 ls (.long a0 :: .ref x :: st) (0, 0) (K, I, R, L, sz, ex) Q = ((K x).1 = 111 ∧ wsum st ≤ 8 ∧ X z 178 0 [some (.ref x), some (.long a0), none] [] (0, 0) (K, I, R, L, sz, ex) (aftr (X z) mT 181 31 ls st (0, 0) Q)) := by
  rw [x181_31]
  refine (inv_v (As := [.long a0]) (rm := mi181) (ry := mi178) rfl rfl (by decide) rfl rfl (Nat.le_of_ble_eq_true rfl) rfl rfl).trans ?_
  refine congrArg _ ?_
  exact Eq.trans (congrArg _ (and_t (Nat.zero_le _))) (congrArg _ (and_t (Nat.zero_le _)))
theorem v181_58 {z : P0} {ls : Lcs} {st : List Value} {c n : Nat} {K : Nat → Nat × Nat} {I : Nat → Nat → Int32} {R : Nat → Nat → Option Nat} {L : Nat → Nat → Int64} {sz : Nat} {ex : Bool} {Q : Res → Mem → Prop} {x : Nat} {a0 : Int64} : X z 181 58 ls (.long a0 :: .ref x :: st) (0, 0) (K, I, R, L, sz, ex) Q = ((K x).1 = 111 ∧ wsum st ≤ 8 ∧ X z 178 0 [some (.ref x), some (.long a0), none] [] (0, 0) (K, I, R, L, sz, ex) (aftr (X z) mT 181 58 ls st (0, 0) Q)) := by
  rw [x181_58]
  refine (inv_v (As := [.long a0]) (rm := mi181) (ry := mi178) rfl rfl (by decide) rfl rfl (Nat.le_of_ble_eq_true rfl) rfl rfl).trans ?_
  refine congrArg _ ?_
  exact Eq.trans (congrArg _ (and_t (Nat.zero_le _))) (congrArg _ (and_t (Nat.zero_le _)))
theorem v181_68 {z : P0} {ls : Lcs} {st : List Value} {c n : Nat} {K : Nat → Nat × Nat} {I : Nat → Nat → Int32} {R : Nat → Nat → Option Nat} {L : Nat → Nat → Int64} {sz : Nat} {ex : Bool} {Q : Res → Mem → Prop} {x : Nat}  : X z 181 68 ls (.ref x :: st) (0, 0) (K, I, R, L, sz, ex) Q = ((K x).1 = 111 ∧ wsum st ≤ 8 ∧ X z 179 0 [some (.ref x), none, none] [] (0, 0) (K, I, R, L, sz, ex) (aftr (X z) mT 181 68 ls st (0, 0) Q)) := by
  rw [x181_68]
  refine (inv_v (As := []) (rm := mi181) (ry := mi179) rfl rfl (by decide) rfl rfl (Nat.le_of_ble_eq_true rfl) rfl rfl).trans ?_
  refine congrArg _ ?_
  exact Eq.trans (congrArg _ (and_t (Nat.zero_le _))) (congrArg _ (and_t (Nat.zero_le _)))
theorem v181_72 {z : P0} {ls : Lcs} {st : List Value} {c n : Nat} {K : Nat → Nat × Nat} {I : Nat → Nat → Int32} {R : Nat → Nat → Option Nat} {L : Nat → Nat → Int64} {sz : Nat} {ex : Bool} {Q : Res → Mem → Prop} {x : Nat}  : X z 181 72 ls (.ref x :: st) (0, 0) (K, I, R, L, sz, ex) Q = ((K x).1 = 111 ∧ wsum st ≤ 8 ∧ X z 180 0 [some (.ref x), none, none] [] (0, 0) (K, I, R, L, sz, ex) (aftr (X z) mT 181 72 ls st (0, 0) Q)) := by
  rw [x181_72]
  refine (inv_v (As := []) (rm := mi181) (ry := mi180) rfl rfl (by decide) rfl rfl (Nat.le_of_ble_eq_true rfl) rfl rfl).trans ?_
  refine congrArg _ ?_
  exact Eq.trans (congrArg _ (and_t (Nat.zero_le _))) (congrArg _ (and_t (Nat.zero_le _)))
theorem v181_77 {z : P0} {ls : Lcs} {st : List Value} {c n : Nat} {K : Nat → Nat × Nat} {I : Nat → Nat → Int32} {R : Nat → Nat → Option Nat} {L : Nat → Nat → Int64} {sz : Nat} {ex : Bool} {Q : Res → Mem → Prop} {x : Nat}  : X z 181 77 ls (.ref x :: st) (0, 0) (K, I, R, L, sz, ex) Q = ((K x).1 = 111 ∧ wsum st ≤ 8 ∧ X z 170 0 [some (.ref x), none, none, none, none, none, none] [] (0, 0) (K, I, R, L, sz, ex) (aftr (X z) mT 181 77 ls st (0, 0) Q)) := by
  rw [x181_77]
  refine (inv_v (As := []) (rm := mi181) (ry := mi170) rfl rfl (by decide) rfl rfl (Nat.le_of_ble_eq_true rfl) rfl rfl).trans ?_
  refine congrArg _ ?_
  exact Eq.trans (congrArg _ (and_t (Nat.zero_le _))) (congrArg _ (and_t (Nat.zero_le _)))
theorem v181_81 {z : P0} {ls : Lcs} {st : List Value} {c n : Nat} {K : Nat → Nat × Nat} {I : Nat → Nat → Int32} {R : Nat → Nat → Option Nat} {L : Nat → Nat → Int64} {sz : Nat} {ex : Bool} {Q : Res → Mem → Prop} {x : Nat} {a0 : Int64} : X z 181 81 ls (.long a0 :: .ref x :: st) (0, 0) (K, I, R, L, sz, ex) Q = ((K x).1 = 111 ∧ wsum st ≤ 8 ∧ X z 178 0 [some (.ref x), some (.long a0), none] [] (0, 0) (K, I, R, L, sz, ex) (aftr (X z) mT 181 81 ls st (0, 0) Q)) := by
  rw [x181_81]
  refine (inv_v (As := [.long a0]) (rm := mi181) (ry := mi178) rfl rfl (by decide) rfl rfl (Nat.le_of_ble_eq_true rfl) rfl rfl).trans ?_
  refine congrArg _ ?_
  exact Eq.trans (congrArg _ (and_t (Nat.zero_le _))) (congrArg _ (and_t (Nat.zero_le _)))
theorem v181_86 {z : P0} {ls : Lcs} {st : List Value} {c n : Nat} {K : Nat → Nat × Nat} {I : Nat → Nat → Int32} {R : Nat → Nat → Option Nat} {L : Nat → Nat → Int64} {sz : Nat} {ex : Bool} {Q : Res → Mem → Prop} {x : Nat}  : X z 181 86 ls (.ref x :: st) (0, 0) (K, I, R, L, sz, ex) Q = ((K x).1 = 111 ∧ wsum st ≤ 8 ∧ X z 172 0 [some (.ref x), none, none, none] [] (0, 0) (K, I, R, L, sz, ex) (aftr (X z) mT 181 86 ls st (0, 0) Q)) := by
  rw [x181_86]
  refine (inv_v (As := []) (rm := mi181) (ry := mi172) rfl rfl (by decide) rfl rfl (Nat.le_of_ble_eq_true rfl) rfl rfl).trans ?_
  refine congrArg _ ?_
  exact Eq.trans (congrArg _ (and_t (Nat.zero_le _))) (congrArg _ (and_t (Nat.zero_le _)))
theorem v181_90 {z : P0} {ls : Lcs} {st : List Value} {c n : Nat} {K : Nat → Nat × Nat} {I : Nat → Nat → Int32} {R : Nat → Nat → Option Nat} {L : Nat → Nat → Int64} {sz : Nat} {ex : Bool} {Q : Res → Mem → Prop} {x : Nat} {a0 : Int64} : X z 181 90 ls (.long a0 :: .ref x :: st) (0, 0) (K, I, R, L, sz, ex) Q = ((K x).1 = 111 ∧ wsum st ≤ 8 ∧ X z 178 0 [some (.ref x), some (.long a0), none] [] (0, 0) (K, I, R, L, sz, ex) (aftr (X z) mT 181 90 ls st (0, 0) Q)) := by
  rw [x181_90]
  refine (inv_v (As := [.long a0]) (rm := mi181) (ry := mi178) rfl rfl (by decide) rfl rfl (Nat.le_of_ble_eq_true rfl) rfl rfl).trans ?_
  refine congrArg _ ?_
  exact Eq.trans (congrArg _ (and_t (Nat.zero_le _))) (congrArg _ (and_t (Nat.zero_le _)))
theorem v181_94 {z : P0} {ls : Lcs} {st : List Value} {c n : Nat} {K : Nat → Nat × Nat} {I : Nat → Nat → Int32} {R : Nat → Nat → Option Nat} {L : Nat → Nat → Int64} {sz : Nat} {ex : Bool} {Q : Res → Mem → Prop} {x : Nat}  : X z 181 94 ls (.ref x :: st) (0, 0) (K, I, R, L, sz, ex) Q = ((K x).1 = 111 ∧ wsum st ≤ 8 ∧ X z 130 0 [some (.ref x), none] [] (0, 0) (K, I, R, L, sz, ex) (aftr (X z) mT 181 94 ls st (0, 0) Q)) := by
  rw [x181_94]
  refine (inv_v (As := []) (rm := mi181) (ry := mi130) rfl rfl (by decide) rfl rfl (Nat.le_of_ble_eq_true rfl) rfl rfl).trans ?_
  refine congrArg _ ?_
  exact Eq.trans (congrArg _ (and_t (Nat.zero_le _))) (congrArg _ (and_t (Nat.zero_le _)))
theorem v181_99 {z : P0} {ls : Lcs} {st : List Value} {c n : Nat} {K : Nat → Nat × Nat} {I : Nat → Nat → Int32} {R : Nat → Nat → Option Nat} {L : Nat → Nat → Int64} {sz : Nat} {ex : Bool} {Q : Res → Mem → Prop} {x : Nat}  : X z 181 99 ls (.ref x :: st) (0, 0) (K, I, R, L, sz, ex) Q = ((K x).1 = 111 ∧ wsum st ≤ 8 ∧ X z 176 0 [some (.ref x)] [] (0, 0) (K, I, R, L, sz, ex) (aftr (X z) mT 181 99 ls st (0, 0) Q)) := by
  rw [x181_99]
  refine (inv_v (As := []) (rm := mi181) (ry := mi176) rfl rfl (by decide) rfl rfl (Nat.le_of_ble_eq_true rfl) rfl rfl).trans ?_
  refine congrArg _ ?_
  exact Eq.trans (congrArg _ (and_t (Nat.zero_le _))) (congrArg _ (and_t (Nat.zero_le _)))
theorem v181_102 {z : P0} {ls : Lcs} {st : List Value} {c n : Nat} {K : Nat → Nat × Nat} {I : Nat → Nat → Int32} {R : Nat → Nat → Option Nat} {L : Nat → Nat → Int64} {sz : Nat} {ex : Bool} {Q : Res → Mem → Prop}  {a0 : UInt64} : X z 181 102 ls (.double a0 :: st) (0, 0) (K, I, R, L, sz, ex) Q = (wsum st ≤ 8 ∧ X z 183 0 [some (.double a0), none] [] (0, 0) (K, I, R, L, sz, ex) (aftr (X z) mT 181 102 ls st (0, 0) Q)) := by
  rw [x181_102]
  refine (inv_s (As := [.double a0]) (rm := mi181) (ry := mi183) rfl rfl (by decide) rfl rfl (Nat.le_of_ble_eq_true rfl) rfl (by decide) (by decide)).trans ?_
  exact Eq.trans (congrArg _ (and_t (Nat.zero_le _))) (congrArg _ (and_t (Nat.zero_le _)))
theorem v181_105 {z : P0} {ls : Lcs} {st : List Value} {c n : Nat} {K : Nat → Nat × Nat} {I : Nat → Nat → Int32} {R : Nat → Nat → Option Nat} {L : Nat → Nat → Int64} {sz : Nat} {ex : Bool} {Q : Res → Mem → Prop} {x : Nat} {a0 : Int64} : X z 181 105 ls (.long a0 :: .ref x :: st) (0, 0) (K, I, R, L, sz, ex) Q = ((K x).1 = 111 ∧ wsum st ≤ 8 ∧ X z 178 0 [some (.ref x), some (.long a0), none] [] (0, 0) (K, I, R, L, sz, ex) (aftr (X z) mT 181 105 ls st (0, 0) Q)) := by
  rw [x181_105]
  refine (inv_v (As := [.long a0]) (rm := mi181) (ry := mi178) rfl rfl (by decide) rfl rfl (Nat.le_of_ble_eq_true rfl) rfl rfl).trans ?_
  refine congrArg _ ?_
  exact Eq.trans (congrArg _ (and_t (Nat.zero_le _))) (congrArg _ (and_t (Nat.zero_le _)))
theorem v181_114 {z : P0} {ls : Lcs} {st : List Value} {c n : Nat} {K : Nat → Nat × Nat} {I : Nat → Nat → Int32} {R : Nat → Nat → Option Nat} {L : Nat → Nat → Int64} {sz : Nat} {ex : Bool} {Q : Res → Mem → Prop} {x : Nat} {a0 : Int64} : X z 181 114 ls (.long a0 :: .ref x :: st) (0, 0) (K, I, R, L, sz, ex) Q = ((K x).1 = 111 ∧ wsum st ≤ 8 ∧ X z 178 0 [some (.ref x), some (.long a0), none] [] (0, 0) (K, I, R, L, sz, ex) (aftr (X z) mT 181 114 ls st (0, 0) Q)) := by
  rw [x181_114]
  refine (inv_v (As := [.long a0]) (rm := mi181) (ry := mi178) rfl rfl (by decide) rfl rfl (Nat.le_of_ble_eq_true rfl) rfl rfl).trans ?_
  refine congrArg _ ?_
  exact Eq.trans (congrArg _ (and_t (Nat.zero_le _))) (congrArg _ (and_t (Nat.zero_le _)))
theorem v181_135 {z : P0} {ls : Lcs} {st : List Value} {c n : Nat} {K : Nat → Nat × Nat} {I : Nat → Nat → Int32} {R : Nat → Nat → Option Nat} {L : Nat → Nat → Int64} {sz : Nat} {ex : Bool} {Q : Res → Mem → Prop} {x : Nat} {a0 : Int64} : X z 181 135 ls (.long a0 :: .ref x :: st) (0, 0) (K, I, R, L, sz, ex) Q = ((K x).1 = 111 ∧ wsum st ≤ 8 ∧ X z 178 0 [some (.ref x), some (.long a0), none] [] (0, 0) (K, I, R, L, sz, ex) (aftr (X z) mT 181 135 ls st (0, 0) Q)) := by
  rw [x181_135]
  refine (inv_v (As := [.long a0]) (rm := mi181) (ry := mi178) rfl rfl (by decide) rfl rfl (Nat.le_of_ble_eq_true rfl) rfl rfl).trans ?_
  refine congrArg _ ?_
  exact Eq.trans (congrArg _ (and_t (Nat.zero_le _))) (congrArg _ (and_t (Nat.zero_le _)))
theorem v183_1 {z : P0} {ls : Lcs} {st : List Value} {c n : Nat} {K : Nat → Nat × Nat} {I : Nat → Nat → Int32} {R : Nat → Nat → Option Nat} {L : Nat → Nat → Int64} {sz : Nat} {ex : Bool} {Q : Res → Mem → Prop}  {a0 : UInt64} : X z 183 1 ls (.double a0 :: st) (0, 0) (K, I, R, L, sz, ex) Q = (wsum st ≤ 8 ∧ X z 182 0 [some (.double a0), none] [] (0, 0) (K, I, R, L, sz, ex) (aftr (X z) mT 183 1 ls st (0, 0) Q)) := by
  rw [x183_1]
  refine (inv_s (As := [.double a0]) (rm := mi183) (ry := mi182) rfl rfl (by decide) rfl rfl (Nat.le_of_ble_eq_true rfl) rfl (by decide) (by decide)).trans ?_
  exact Eq.trans (congrArg _ (and_t (Nat.zero_le _))) (congrArg _ (and_t (Nat.zero_le _)))
theorem v185_6 {z : P0} {ls : Lcs} {st : List Value} {c n : Nat} {K : Nat → Nat × Nat} {I : Nat → Nat → Int32} {R : Nat → Nat → Option Nat} {L : Nat → Nat → Int64} {sz : Nat} {ex : Bool} {Q : Res → Mem → Prop} {x : Nat}  : X z 185 6 ls (.ref x :: st) (0, 0) (K, I, R, L, sz, ex) Q = ((K x).1 = 52 ∧ wsum st ≤ 8 ∧ X z 187 0 [some (.ref x)] [] (0, 0) (K, I, R, L, sz, ex) (aftr (X z) mT 185 6 ls st (0, 0) Q)) := by
  rw [x185_6]
  refine (inv_v (As := []) (rm := mi185) (ry := mi187) rfl rfl (by decide) rfl rfl (Nat.le_of_ble_eq_true rfl) rfl rfl).trans ?_
  refine congrArg _ ?_
  exact Eq.trans (congrArg _ (and_t (Nat.zero_le _))) (congrArg _ (and_t (Nat.zero_le _)))
theorem v186_1 {z : P0} {ls : Lcs} {st : List Value} {c n : Nat} {K : Nat → Nat × Nat} {I : Nat → Nat → Int32} {R : Nat → Nat → Option Nat} {L : Nat → Nat → Int64} {sz : Nat} {ex : Bool} {Q : Res → Mem → Prop} {x : Nat}  : X z 186 1 ls (.ref x :: st) (0, 0) (K, I, R, L, sz, ex) Q = ((K x).1 = 52 ∧ wsum st ≤ 8 ∧ X z 188 0 [some (.ref x)] [] (0, 0) (K, I, R, L, sz, ex) (aftr (X z) mT 186 1 ls st (0, 0) Q)) := by
  rw [x186_1]
  refine (inv_v (As := []) (rm := mi186) (ry := mi188) rfl rfl (by decide) rfl rfl (Nat.le_of_ble_eq_true rfl) rfl rfl).trans ?_
  refine congrArg _ ?_
  exact Eq.trans (congrArg _ (and_t (Nat.zero_le _))) (congrArg _ (and_t (Nat.zero_le _)))
theorem v186_12 {z : P0} {ls : Lcs} {st : List Value} {c n : Nat} {K : Nat → Nat × Nat} {I : Nat → Nat → Int32} {R : Nat → Nat → Option Nat} {L : Nat → Nat → Int64} {sz : Nat} {ex : Bool} {Q : Res → Mem → Prop}  {a0 : Nat} {a1 : Int32} : X z 186 12 ls (.int a1 :: .ref a0 :: st) (0, 0) (K, I, R, L, sz, ex) Q = (wsum st ≤ 8 ∧ X z 190 0 [some (.ref a0), some (.int a1)] [] (0, 0) (K, I, R, L, sz, ex) (aftr (X z) mT 186 12 ls st (0, 0) Q)) := by
  rw [x186_12]
  refine (inv_s (As := [.ref a0, .int a1]) (rm := mi186) (ry := mi190) rfl rfl (by decide) rfl rfl (Nat.le_of_ble_eq_true rfl) rfl (by decide) (by decide)).trans ?_
  exact Eq.trans (congrArg _ (and_t (Nat.zero_le _))) (congrArg _ (and_t (Nat.zero_le _)))
theorem v190_3 {z : P0} {ls : Lcs} {st : List Value} {c n : Nat} {K : Nat → Nat × Nat} {I : Nat → Nat → Int32} {R : Nat → Nat → Option Nat} {L : Nat → Nat → Int64} {sz : Nat} {ex : Bool} {Q : Res → Mem → Prop}  {a0 : Int32} {a1 : Int32} : X z 190 3 ls (.int a1 :: .int a0 :: st) (0, 0) (K, I, R, L, sz, ex) Q = (wsum st ≤ 8 ∧ X z 189 0 [some (.int a0), some (.int a1)] [] (0, 0) (K, I, R, L, sz, ex) (aftr (X z) mT 190 3 ls st (0, 0) Q)) := by
  rw [x190_3]
  refine (inv_s (As := [.int a0, .int a1]) (rm := mi190) (ry := mi189) rfl rfl (by decide) rfl rfl (Nat.le_of_ble_eq_true rfl) rfl (by decide) (by decide)).trans ?_
  exact Eq.trans (congrArg _ (and_t (Nat.zero_le _))) (congrArg _ (and_t (Nat.zero_le _)))
theorem v192_5 {z : P0} {ls : Lcs} {st : List Value} {c n : Nat} {K : Nat → Nat × Nat} {I : Nat → Nat → Int32} {R : Nat → Nat → Option Nat} {L : Nat → Nat → Int64} {sz : Nat} {ex : Bool} {Q : Res → Mem → Prop} {x : Nat} {a0 : Int32} {a1 : Int32} : X z 192 5 ls (.int a1 :: .int a0 :: .ref x :: st) (c, n) (K, I, R, L, sz, ex) Q = ((K x).1 = 110 ∧ wsum st ≤ 8 ∧ c + 1 ≤ 1 ∧ n + 6 ≤ 6 ∧ X z 58 0 [some (.ref x), some (.int a0), some (.int a1), none] [] (0, 0) (K, I, R, L, sz, ex) (aftr (X z) mT 192 5 ls st (c + 1, n + 6) Q)) := by
  rw [x192_5]
  exact inv_v (As := [.int a0, .int a1]) (rm := mi192) (ry := mi58) rfl rfl (by decide) rfl rfl (Nat.le_of_ble_eq_true rfl) rfl rfl
theorem v193_3 {z : P0} {ls : Lcs} {st : List Value} {c n : Nat} {K : Nat → Nat × Nat} {I : Nat → Nat → Int32} {R : Nat → Nat → Option Nat} {L : Nat → Nat → Int64} {sz : Nat} {ex : Bool} {Q : Res → Mem → Prop} {x : Nat}  : X z 193 3 ls (.ref x :: st) (c, n) (K, I, R, L, sz, ex) Q = ((K x).1 = 110 ∧ wsum st ≤ 8 ∧ c + 1 ≤ 1 ∧ n + 6 ≤ 6 ∧ X z 59 0 [some (.ref x), none] [] (0, 0) (K, I, R, L, sz, ex) (aftr (X z) mT 193 3 ls st (c + 1, n + 6) Q)) := by
  rw [x193_3]
  exact inv_v (As := []) (rm := mi193) (ry := mi59) rfl rfl (by decide) rfl rfl (Nat.le_of_ble_eq_true rfl) rfl rfl
theorem v194_3 {z : P0} {ls : Lcs} {st : List Value} {c n : Nat} {K : Nat → Nat × Nat} {I : Nat → Nat → Int32} {R : Nat → Nat → Option Nat} {L : Nat → Nat → Int64} {sz : Nat} {ex : Bool} {Q : Res → Mem → Prop} {x : Nat}  : X z 194 3 ls (.ref x :: st) (c, n) (K, I, R, L, sz, ex) Q = ((K x).1 = 110 ∧ wsum st ≤ 8 ∧ c + 1 ≤ 1 ∧ n + 6 ≤ 6 ∧ X z 60 0 [some (.ref x)] [] (0, 0) (K, I, R, L, sz, ex) (aftr (X z) mT 194 3 ls st (c + 1, n + 6) Q)) := by
  rw [x194_3]
  exact inv_v (As := []) (rm := mi194) (ry := mi60) rfl rfl (by decide) rfl rfl (Nat.le_of_ble_eq_true rfl) rfl rfl
theorem v195_5 {z : P0} {ls : Lcs} {st : List Value} {c n : Nat} {K : Nat → Nat × Nat} {I : Nat → Nat → Int32} {R : Nat → Nat → Option Nat} {L : Nat → Nat → Int64} {sz : Nat} {ex : Bool} {Q : Res → Mem → Prop} {x : Nat} {a0 : Int32} {a1 : Int32} : X z 195 5 ls (.int a1 :: .int a0 :: .ref x :: st) (c, n) (K, I, R, L, sz, ex) Q = ((K x).1 = 110 ∧ wsum st ≤ 8 ∧ c + 1 ≤ 1 ∧ n + 6 ≤ 6 ∧ X z 61 0 [some (.ref x), some (.int a0), some (.int a1), none] [] (0, 0) (K, I, R, L, sz, ex) (aftr (X z) mT 195 5 ls st (c + 1, n + 6) Q)) := by
  rw [x195_5]
  exact inv_v (As := [.int a0, .int a1]) (rm := mi195) (ry := mi61) rfl rfl (by decide) rfl rfl (Nat.le_of_ble_eq_true rfl) rfl rfl
theorem v196_5 {z : P0} {ls : Lcs} {st : List Value} {c n : Nat} {K : Nat → Nat × Nat} {I : Nat → Nat → Int32} {R : Nat → Nat → Option Nat} {L : Nat → Nat → Int64} {sz : Nat} {ex : Bool} {Q : Res → Mem → Prop} {x : Nat} {a0 : Int32} {a1 : Int32} : X z 196 5 ls (.int a1 :: .int a0 :: .ref x :: st) (c, n) (K, I, R, L, sz, ex) Q = ((K x).1 = 110 ∧ wsum st ≤ 8 ∧ c + 1 ≤ 1 ∧ n + 6 ≤ 6 ∧ X z 62 0 [some (.ref x), some (.int a0), some (.int a1), none] [] (0, 0) (K, I, R, L, sz, ex) (aftr (X z) mT 196 5 ls st (c + 1, n + 6) Q)) := by
  rw [x196_5]
  exact inv_v (As := [.int a0, .int a1]) (rm := mi196) (ry := mi62) rfl rfl (by decide) rfl rfl (Nat.le_of_ble_eq_true rfl) rfl rfl
theorem v197_5 {z : P0} {ls : Lcs} {st : List Value} {c n : Nat} {K : Nat → Nat × Nat} {I : Nat → Nat → Int32} {R : Nat → Nat → Option Nat} {L : Nat → Nat → Int64} {sz : Nat} {ex : Bool} {Q : Res → Mem → Prop} {x : Nat} {a0 : Int32} {a1 : Int32} : X z 197 5 ls (.int a1 :: .int a0 :: .ref x :: st) (c, n) (K, I, R, L, sz, ex) Q = ((K x).1 = 110 ∧ wsum st ≤ 8 ∧ c + 1 ≤ 1 ∧ n + 6 ≤ 6 ∧ X z 63 0 [some (.ref x), some (.int a0), some (.int a1)] [] (0, 0) (K, I, R, L, sz, ex) (aftr (X z) mT 197 5 ls st (c + 1, n + 6) Q)) := by
  rw [x197_5]
  exact inv_v (As := [.int a0, .int a1]) (rm := mi197) (ry := mi63) rfl rfl (by decide) rfl rfl (Nat.le_of_ble_eq_true rfl) rfl rfl
theorem v198_5 {z : P0} {ls : Lcs} {st : List Value} {c n : Nat} {K : Nat → Nat × Nat} {I : Nat → Nat → Int32} {R : Nat → Nat → Option Nat} {L : Nat → Nat → Int64} {sz : Nat} {ex : Bool} {Q : Res → Mem → Prop} {x : Nat} {a0 : Int32} {a1 : Int32} : X z 198 5 ls (.int a1 :: .int a0 :: .ref x :: st) (c, n) (K, I, R, L, sz, ex) Q = ((K x).1 = 110 ∧ wsum st ≤ 8 ∧ c + 1 ≤ 1 ∧ n + 6 ≤ 6 ∧ X z 64 0 [some (.ref x), some (.int a0), some (.int a1), none] [] (0, 0) (K, I, R, L, sz, ex) (aftr (X z) mT 198 5 ls st (c + 1, n + 6) Q)) := by
  rw [x198_5]
  exact inv_v (As := [.int a0, .int a1]) (rm := mi198) (ry := mi64) rfl rfl (by decide) rfl rfl (Nat.le_of_ble_eq_true rfl) rfl rfl
theorem v199_3 {z : P0} {ls : Lcs} {st : List Value} {c n : Nat} {K : Nat → Nat × Nat} {I : Nat → Nat → Int32} {R : Nat → Nat → Option Nat} {L : Nat → Nat → Int64} {sz : Nat} {ex : Bool} {Q : Res → Mem → Prop} {x : Nat}  : X z 199 3 ls (.ref x :: st) (c, n) (K, I, R, L, sz, ex) Q = ((K x).1 = 110 ∧ wsum st ≤ 8 ∧ c + 1 ≤ 1 ∧ n + 6 ≤ 6 ∧ X z 65 0 [some (.ref x), none] [] (0, 0) (K, I, R, L, sz, ex) (aftr (X z) mT 199 3 ls st (c + 1, n + 6) Q)) := by
  rw [x199_3]
  exact inv_v (As := []) (rm := mi199) (ry := mi65) rfl rfl (by decide) rfl rfl (Nat.le_of_ble_eq_true rfl) rfl rfl
theorem v200_4 {z : P0} {ls : Lcs} {st : List Value} {c n : Nat} {K : Nat → Nat × Nat} {I : Nat → Nat → Int32} {R : Nat → Nat → Option Nat} {L : Nat → Nat → Int64} {sz : Nat} {ex : Bool} {Q : Res → Mem → Prop} {x : Nat} {a0 : Int32} : X z 200 4 ls (.int a0 :: .ref x :: st) (c, n) (K, I, R, L, sz, ex) Q = ((K x).1 = 110 ∧ wsum st ≤ 8 ∧ c + 1 ≤ 1 ∧ n + 6 ≤ 6 ∧ X z 66 0 [some (.ref x), some (.int a0)] [] (0, 0) (K, I, R, L, sz, ex) (aftr (X z) mT 200 4 ls st (c + 1, n + 6) Q)) := by
  rw [x200_4]
  exact inv_v (As := [.int a0]) (rm := mi200) (ry := mi66) rfl rfl (by decide) rfl rfl (Nat.le_of_ble_eq_true rfl) rfl rfl
theorem v201_4 {z : P0} {ls : Lcs} {st : List Value} {c n : Nat} {K : Nat → Nat × Nat} {I : Nat → Nat → Int32} {R : Nat → Nat → Option Nat} {L : Nat → Nat → Int64} {sz : Nat} {ex : Bool} {Q : Res → Mem → Prop} {x : Nat} {a0 : Int32} : X z 201 4 ls (.int a0 :: .ref x :: st) (c, n) (K, I, R, L, sz, ex) Q = ((K x).1 = 110 ∧ wsum st ≤ 8 ∧ c + 1 ≤ 1 ∧ n + 6 ≤ 6 ∧ X z 67 0 [some (.ref x), some (.int a0)] [] (0, 0) (K, I, R, L, sz, ex) (aftr (X z) mT 201 4 ls st (c + 1, n + 6) Q)) := by
  rw [x201_4]
  exact inv_v (As := [.int a0]) (rm := mi201) (ry := mi67) rfl rfl (by decide) rfl rfl (Nat.le_of_ble_eq_true rfl) rfl rfl
theorem v202_4 {z : P0} {ls : Lcs} {st : List Value} {c n : Nat} {K : Nat → Nat × Nat} {I : Nat → Nat → Int32} {R : Nat → Nat → Option Nat} {L : Nat → Nat → Int64} {sz : Nat} {ex : Bool} {Q : Res → Mem → Prop} {x : Nat} {a0 : Int32} : X z 202 4 ls (.int a0 :: .ref x :: st) (c, n) (K, I, R, L, sz, ex) Q = ((K x).1 = 110 ∧ wsum st ≤ 8 ∧ c + 1 ≤ 1 ∧ n + 6 ≤ 6 ∧ X z 69 0 [some (.ref x), some (.int a0)] [] (0, 0) (K, I, R, L, sz, ex) (aftr (X z) mT 202 4 ls st (c + 1, n + 6) Q)) := by
  rw [x202_4]
  exact inv_v (As := [.int a0]) (rm := mi202) (ry := mi69) rfl rfl (by decide) rfl rfl (Nat.le_of_ble_eq_true rfl) rfl rfl
theorem v203_3 {z : P0} {ls : Lcs} {st : List Value} {c n : Nat} {K : Nat → Nat × Nat} {I : Nat → Nat → Int32} {R : Nat → Nat → Option Nat} {L : Nat → Nat → Int64} {sz : Nat} {ex : Bool} {Q : Res → Mem → Prop} {x : Nat}  : X z 203 3 ls (.ref x :: st) (c, n) (K, I, R, L, sz, ex) Q = ((K x).1 = 110 ∧ wsum st ≤ 8 ∧ c + 1 ≤ 1 ∧ n + 6 ≤ 6 ∧ X z 70 0 [some (.ref x)] [] (0, 0) (K, I, R, L, sz, ex) (aftr (X z) mT 203 3 ls st (c + 1, n + 6) Q)) := by
  rw [x203_3]
  exact inv_v (As := []) (rm := mi203) (ry := mi70) rfl rfl (by decide) rfl rfl (Nat.le_of_ble_eq_true rfl) rfl rfl
theorem v204_5 {z : P0} {ls : Lcs} {st : List Value} {c n : Nat} {K : Nat → Nat × Nat} {I : Nat → Nat → Int32} {R : Nat → Nat → Option Nat} {L : Nat → Nat → Int64} {sz : Nat} {ex : Bool} {Q : Res → Mem → Prop} {x : Nat} {a0 : Int32} {a1 : Int32} : X z 204 5 ls (.int a1 :: .int a0 :: .ref x :: st) (c, n) (K, I, R, L, sz, ex) Q = ((K x).1 = 110 ∧ wsum st ≤ 8 ∧ c + 1 ≤ 1 ∧ n + 6 ≤ 6 ∧ X z 71 0 [some (.ref x), some (.int a0), some (.int a1)] [] (0, 0) (K, I, R, L, sz, ex) (aftr (X z) mT 204 5 ls st (c + 1, n + 6) Q)) := by
  rw [x204_5]
  exact inv_v (As := [.int a0, .int a1]) (rm := mi204) (ry := mi71) rfl rfl (by decide) rfl rfl (Nat.le_of_ble_eq_true rfl) rfl rfl
theorem v205_5 {z : P0} {ls : Lcs} {st : List Value} {c n : Nat} {K : Nat → Nat × Nat} {I : Nat → Nat → Int32} {R : Nat → Nat → Option Nat} {L : Nat → Nat → Int64} {sz : Nat} {ex : Bool} {Q : Res → Mem → Prop} {x : Nat} {a0 : Int32} {a1 : Int32} : X z 205 5 ls (.int a1 :: .int a0 :: .ref x :: st) (c, n) (K, I, R, L, sz, ex) Q = ((K x).1 = 110 ∧ wsum st ≤ 8 ∧ c + 1 ≤ 1 ∧ n + 6 ≤ 6 ∧ X z 72 0 [some (.ref x), some (.int a0), some (.int a1)] [] (0, 0) (K, I, R, L, sz, ex) (aftr (X z) mT 205 5 ls st (c + 1, n + 6) Q)) := by
  rw [x205_5]
  exact inv_v (As := [.int a0, .int a1]) (rm := mi205) (ry := mi72) rfl rfl (by decide) rfl rfl (Nat.le_of_ble_eq_true rfl) rfl rfl
theorem v206_5 {z : P0} {ls : Lcs} {st : List Value} {c n : Nat} {K : Nat → Nat × Nat} {I : Nat → Nat → Int32} {R : Nat → Nat → Option Nat} {L : Nat → Nat → Int64} {sz : Nat} {ex : Bool} {Q : Res → Mem → Prop} {x : Nat} {a0 : Int32} {a1 : Int32} : X z 206 5 ls (.int a1 :: .int a0 :: .ref x :: st) (c, n) (K, I, R, L, sz, ex) Q = ((K x).1 = 110 ∧ wsum st ≤ 8 ∧ c + 1 ≤ 1 ∧ n + 6 ≤ 6 ∧ X z 73 0 [some (.ref x), some (.int a0), some (.int a1), none] [] (0, 0) (K, I, R, L, sz, ex) (aftr (X z) mT 206 5 ls st (c + 1, n + 6) Q)) := by
  rw [x206_5]
  exact inv_v (As := [.int a0, .int a1]) (rm := mi206) (ry := mi73) rfl rfl (by decide) rfl rfl (Nat.le_of_ble_eq_true rfl) rfl rfl
theorem v207_5 {z : P0} {ls : Lcs} {st : List Value} {c n : Nat} {K : Nat → Nat × Nat} {I : Nat → Nat → Int32} {R : Nat → Nat → Option Nat} {L : Nat → Nat → Int64} {sz : Nat} {ex : Bool} {Q : Res → Mem → Prop} {x : Nat} {a0 : Int32} {a1 : Int32} : X z 207 5 ls (.int a1 :: .int a0 :: .ref x :: st) (c, n) (K, I, R, L, sz, ex) Q = ((K x).1 = 110 ∧ wsum st ≤ 8 ∧ c + 1 ≤ 1 ∧ n + 6 ≤ 6 ∧ X z 74 0 [some (.ref x), some (.int a0), some (.int a1)] [] (0, 0) (K, I, R, L, sz, ex) (aftr (X z) mT 207 5 ls st (c + 1, n + 6) Q)) := by
  rw [x207_5]
  exact inv_v (As := [.int a0, .int a1]) (rm := mi207) (ry := mi74) rfl rfl (by decide) rfl rfl (Nat.le_of_ble_eq_true rfl) rfl rfl
theorem v208_5 {z : P0} {ls : Lcs} {st : List Value} {c n : Nat} {K : Nat → Nat × Nat} {I : Nat → Nat → Int32} {R : Nat → Nat → Option Nat} {L : Nat → Nat → Int64} {sz : Nat} {ex : Bool} {Q : Res → Mem → Prop} {x : Nat} {a0 : Int32} {a1 : Int32} : X z 208 5 ls (.int a1 :: .int a0 :: .ref x :: st) (c, n) (K, I, R, L, sz, ex) Q = ((K x).1 = 110 ∧ wsum st ≤ 8 ∧ c + 1 ≤ 1 ∧ n + 6 ≤ 6 ∧ X z 75 0 [some (.ref x), some (.int a0), some (.int a1)] [] (0, 0) (K, I, R, L, sz, ex) (aftr (X z) mT 208 5 ls st (c + 1, n + 6) Q)) := by
  rw [x208_5]
  exact inv_v (As := [.int a0, .int a1]) (rm := mi208) (ry := mi75) rfl rfl (by decide) rfl rfl (Nat.le_of_ble_eq_true rfl) rfl rfl
theorem v209_4 {z : P0} {ls : Lcs} {st : List Value} {c n : Nat} {K : Nat → Nat × Nat} {I : Nat → Nat → Int32} {R : Nat → Nat → Option Nat} {L : Nat → Nat → Int64} {sz : Nat} {ex : Bool} {Q : Res → Mem → Prop} {x : Nat} {a0 : Int32} : X z 209 4 ls (.int a0 :: .ref x :: st) (c, n) (K, I, R, L, sz, ex) Q = ((K x).1 = 110 ∧ wsum st ≤ 8 ∧ c + 1 ≤ 1 ∧ n + 6 ≤ 6 ∧ X z 76 0 [some (.ref x), some (.int a0)] [] (0, 0) (K, I, R, L, sz, ex) (aftr (X z) mT 209 4 ls st (c + 1, n + 6) Q)) := by
  rw [x209_4]
  exact inv_v (As := [.int a0]) (rm := mi209) (ry := mi76) rfl rfl (by decide) rfl rfl (Nat.le_of_ble_eq_true rfl) rfl rfl
theorem v210_4 {z : P0} {ls : Lcs} {st : List Value} {c n : Nat} {K : Nat → Nat × Nat} {I : Nat → Nat → Int32} {R : Nat → Nat → Option Nat} {L : Nat → Nat → Int64} {sz : Nat} {ex : Bool} {Q : Res → Mem → Prop} {x : Nat} {a0 : Int32} : X z 210 4 ls (.int a0 :: .ref x :: st) (c, n) (K, I, R, L, sz, ex) Q = ((K x).1 = 110 ∧ wsum st ≤ 8 ∧ c + 1 ≤ 1 ∧ n + 6 ≤ 6 ∧ X z 77 0 [some (.ref x), some (.int a0)] [] (0, 0) (K, I, R, L, sz, ex) (aftr (X z) mT 210 4 ls st (c + 1, n + 6) Q)) := by
  rw [x210_4]
  exact inv_v (As := [.int a0]) (rm := mi210) (ry := mi77) rfl rfl (by decide) rfl rfl (Nat.le_of_ble_eq_true rfl) rfl rfl
theorem v211_4 {z : P0} {ls : Lcs} {st : List Value} {c n : Nat} {K : Nat → Nat × Nat} {I : Nat → Nat → Int32} {R : Nat → Nat → Option Nat} {L : Nat → Nat → Int64} {sz : Nat} {ex : Bool} {Q : Res → Mem → Prop} {x : Nat} {a0 : Int32} : X z 211 4 ls (.int a0 :: .ref x :: st) (c, n) (K, I, R, L, sz, ex) Q = ((K x).1 = 110 ∧ wsum st ≤ 8 ∧ c + 1 ≤ 1 ∧ n + 6 ≤ 6 ∧ X z 78 0 [some (.ref x), some (.int a0)] [] (0, 0) (K, I, R, L, sz, ex) (aftr (X z) mT 211 4 ls st (c + 1, n + 6) Q)) := by
  rw [x211_4]
  exact inv_v (As := [.int a0]) (rm := mi211) (ry := mi78) rfl rfl (by decide) rfl rfl (Nat.le_of_ble_eq_true rfl) rfl rfl
theorem v212_7 {z : P0} {ls : Lcs} {st : List Value} {c n : Nat} {K : Nat → Nat × Nat} {I : Nat → Nat → Int32} {R : Nat → Nat → Option Nat} {L : Nat → Nat → Int64} {sz : Nat} {ex : Bool} {Q : Res → Mem → Prop} {x : Nat} {a0 : Int32} {a1 : Int32} {a2 : Int32} : X z 212 7 ls (.int a2 :: .int a1 :: .int a0 :: .ref x :: st) (c, n) (K, I, R, L, sz, ex) Q = ((K x).1 = 110 ∧ wsum st ≤ 8 ∧ c + 1 ≤ 1 ∧ n + 6 ≤ 6 ∧ X z 79 0 [some (.ref x), some (.int a0), some (.int a1), some (.int a2)] [] (0, 0) (K, I, R, L, sz, ex) (aftr (X z) mT 212 7 ls st (c + 1, n + 6) Q)) := by
  rw [x212_7]
  exact inv_v (As := [.int a0, .int a1, .int a2]) (rm := mi212) (ry := mi79) rfl rfl (by decide) rfl rfl (Nat.le_of_ble_eq_true rfl) rfl rfl
theorem v213_4 {z : P0} {ls : Lcs} {st : List Value} {c n : Nat} {K : Nat → Nat × Nat} {I : Nat → Nat → Int32} {R : Nat → Nat → Option Nat} {L : Nat → Nat → Int64} {sz : Nat} {ex : Bool} {Q : Res → Mem → Prop} {x : Nat} {a0 : Int32} : X z 213 4 ls (.int a0 :: .ref x :: st) (c, n) (K, I, R, L, sz, ex) Q = ((K x).1 = 110 ∧ wsum st ≤ 8 ∧ c + 1 ≤ 1 ∧ n + 6 ≤ 6 ∧ X z 82 0 [some (.ref x), some (.int a0)] [] (0, 0) (K, I, R, L, sz, ex) (aftr (X z) mT 213 4 ls st (c + 1, n + 6) Q)) := by
  rw [x213_4]
  exact inv_v (As := [.int a0]) (rm := mi213) (ry := mi82) rfl rfl (by decide) rfl rfl (Nat.le_of_ble_eq_true rfl) rfl rfl
theorem v214_4 {z : P0} {ls : Lcs} {st : List Value} {c n : Nat} {K : Nat → Nat × Nat} {I : Nat → Nat → Int32} {R : Nat → Nat → Option Nat} {L : Nat → Nat → Int64} {sz : Nat} {ex : Bool} {Q : Res → Mem → Prop} {x : Nat}  : X z 214 4 ls (.ref x :: st) (c, n) (K, I, R, L, sz, ex) Q = ((K x).1 = 110 ∧ wsum st ≤ 8 ∧ c + 565 ≤ 601024 ∧ n + 6546 ≤ 7293034 ∧ X z 57 0 [some (.ref x), none, none] [] (0, 0) (K, I, R, L, sz, ex) (aftr (X z) mT 214 4 ls st (c + 565, n + 6546) Q)) := by
  rw [x214_4]
  exact inv_i (As := []) (rm := mi214) (ry := mi57) rfl rfl (by decide) rfl rfl (Nat.le_of_ble_eq_true rfl) rfl rfl (by decide)
theorem v214_12 {z : P0} {ls : Lcs} {st : List Value} {c n : Nat} {K : Nat → Nat × Nat} {I : Nat → Nat → Int32} {R : Nat → Nat → Option Nat} {L : Nat → Nat → Int64} {sz : Nat} {ex : Bool} {Q : Res → Mem → Prop} {x : Nat}  : X z 214 12 ls (.ref x :: st) (c, n) (K, I, R, L, sz, ex) Q = ((K x).1 = 111 ∧ wsum st ≤ 8 ∧ c + 10 ≤ 601024 ∧ n + 5891 ≤ 7293034 ∧ X z 104 0 [some (.ref x)] [] (0, 0) (K, I, R, L, sz, ex) (aftr (X z) mT 214 12 ls st (c + 10, n + 5891) Q)) := by
  rw [x214_12]
  exact inv_i (As := []) (rm := mi214) (ry := mi104) rfl rfl (by decide) rfl rfl (Nat.le_of_ble_eq_true rfl) rfl rfl (by decide)
theorem v214_174 {z : P0} {ls : Lcs} {st : List Value} {c n : Nat} {K : Nat → Nat × Nat} {I : Nat → Nat → Int32} {R : Nat → Nat → Option Nat} {L : Nat → Nat → Int64} {sz : Nat} {ex : Bool} {Q : Res → Mem → Prop}  {a0 : Nat} {a1 : Int32} {a2 : Int32} {a3 : Nat} : X z 214 174 ls (.ref a3 :: .int a2 :: .int a1 :: .ref a0 :: st) (c, n) (K, I, R, L, sz, ex) Q = (wsum st ≤ 8 ∧ c + 1 ≤ 601024 ∧ n + 6 ≤ 7293034 ∧ X z 192 0 [some (.ref a0), some (.int a1), some (.int a2), some (.ref a3), none] [] (0, 0) (K, I, R, L, sz, ex) (aftr (X z) mT 214 174 ls st (c + 1, n + 6) Q)) := by
  rw [x214_174]
  exact inv_s (As := [.ref a0, .int a1, .int a2, .ref a3]) (rm := mi214) (ry := mi192) rfl rfl (by decide) rfl rfl (Nat.le_of_ble_eq_true rfl) rfl (by decide) (by decide)
theorem v214_192 {z : P0} {ls : Lcs} {st : List Value} {c n : Nat} {K : Nat → Nat × Nat} {I : Nat → Nat → Int32} {R : Nat → Nat → Option Nat} {L : Nat → Nat → Int64} {sz : Nat} {ex : Bool} {Q : Res → Mem → Prop} {x : Nat} {a0 : Int32} {a1 : Int32} : X z 214 192 ls (.int a1 :: .int a0 :: .ref x :: st) (c, n) (K, I, R, L, sz, ex) Q = ((K x).1 = 111 ∧ wsum st ≤ 8 ∧ c + 0 ≤ 601024 ∧ n + 0 ≤ 7293034 ∧ X z 133 0 [some (.ref x), some (.int a0), some (.int a1), none, none, none] [] (0, 0) (K, I, R, L, sz, ex) (aftr (X z) mT 214 192 ls st (c + 0, n + 0) Q)) := by
  rw [x214_192]
  exact inv_v (As := [.int a0, .int a1]) (rm := mi214) (ry := mi133) rfl rfl (by decide) rfl rfl (Nat.le_of_ble_eq_true rfl) rfl rfl
theorem v214_198 {z : P0} {ls : Lcs} {st : List Value} {c n : Nat} {K : Nat → Nat × Nat} {I : Nat → Nat → Int32} {R : Nat → Nat → Option Nat} {L : Nat → Nat → Int64} {sz : Nat} {ex : Bool} {Q : Res → Mem → Prop} {x : Nat}  : X z 214 198 ls (.ref x :: st) (c, n) (K, I, R, L, sz, ex) Q = ((K x).1 = 111 ∧ wsum st ≤ 8 ∧ c + 0 ≤ 601024 ∧ n + 0 ≤ 7293034 ∧ X z 105 0 [some (.ref x)] [] (0, 0) (K, I, R, L, sz, ex) (aftr (X z) mT 214 198 ls st (c + 0, n + 0) Q)) := by
  rw [x214_198]
  exact inv_v (As := []) (rm := mi214) (ry := mi105) rfl rfl (by decide) rfl rfl (Nat.le_of_ble_eq_true rfl) rfl rfl
theorem v214_230 {z : P0} {ls : Lcs} {st : List Value} {c n : Nat} {K : Nat → Nat × Nat} {I : Nat → Nat → Int32} {R : Nat → Nat → Option Nat} {L : Nat → Nat → Int64} {sz : Nat} {ex : Bool} {Q : Res → Mem → Prop}  {a0 : Nat} {a1 : Nat} : X z 214 230 ls (.ref a1 :: .ref a0 :: st) (c, n) (K, I, R, L, sz, ex) Q = (wsum st ≤ 8 ∧ c + 1 ≤ 601024 ∧ n + 6 ≤ 7293034 ∧ X z 193 0 [some (.ref a0), some (.ref a1), none] [] (0, 0) (K, I, R, L, sz, ex) (aftr (X z) mT 214 230 ls st (c + 1, n + 6) Q)) := by
  rw [x214_230]
  exact inv_s (As := [.ref a0, .ref a1]) (rm := mi214) (ry := mi193) rfl rfl (by decide) rfl rfl (Nat.le_of_ble_eq_true rfl) rfl (by decide) (by decide)
theorem v214_236 {z : P0} {ls : Lcs} {st : List Value} {c n : Nat} {K : Nat → Nat × Nat} {I : Nat → Nat → Int32} {R : Nat → Nat → Option Nat} {L : Nat → Nat → Int64} {sz : Nat} {ex : Bool} {Q : Res → Mem → Prop} {x : Nat}  : X z 214 236 ls (.ref x :: st) (c, n) (K, I, R, L, sz, ex) Q = ((K x).1 = 111 ∧ wsum st ≤ 8 ∧ c + 0 ≤ 601024 ∧ n + 0 ≤ 7293034 ∧ X z 134 0 [some (.ref x), none, none, none] [] (0, 0) (K, I, R, L, sz, ex) (aftr (X z) mT 214 236 ls st (c + 0, n + 0) Q)) := by
  rw [x214_236]
  exact inv_v (As := []) (rm := mi214) (ry := mi134) rfl rfl (by decide) rfl rfl (Nat.le_of_ble_eq_true rfl) rfl rfl
theorem v214_242 {z : P0} {ls : Lcs} {st : List Value} {c n : Nat} {K : Nat → Nat × Nat} {I : Nat → Nat → Int32} {R : Nat → Nat → Option Nat} {L : Nat → Nat → Int64} {sz : Nat} {ex : Bool} {Q : Res → Mem → Prop} {x : Nat}  : X z 214 242 ls (.ref x :: st) (c, n) (K, I, R, L, sz, ex) Q = ((K x).1 = 111 ∧ wsum st ≤ 8 ∧ c + 0 ≤ 601024 ∧ n + 0 ≤ 7293034 ∧ X z 105 0 [some (.ref x)] [] (0, 0) (K, I, R, L, sz, ex) (aftr (X z) mT 214 242 ls st (c + 0, n + 0) Q)) := by
  rw [x214_242]
  exact inv_v (As := []) (rm := mi214) (ry := mi105) rfl rfl (by decide) rfl rfl (Nat.le_of_ble_eq_true rfl) rfl rfl
theorem v214_274 {z : P0} {ls : Lcs} {st : List Value} {c n : Nat} {K : Nat → Nat × Nat} {I : Nat → Nat → Int32} {R : Nat → Nat → Option Nat} {L : Nat → Nat → Int64} {sz : Nat} {ex : Bool} {Q : Res → Mem → Prop}  {a0 : Nat} {a1 : Nat} : X z 214 274 ls (.ref a1 :: .ref a0 :: st) (c, n) (K, I, R, L, sz, ex) Q = (wsum st ≤ 8 ∧ c + 1 ≤ 601024 ∧ n + 6 ≤ 7293034 ∧ X z 194 0 [some (.ref a0), some (.ref a1), none] [] (0, 0) (K, I, R, L, sz, ex) (aftr (X z) mT 214 274 ls st (c + 1, n + 6) Q)) := by
  rw [x214_274]
  exact inv_s (As := [.ref a0, .ref a1]) (rm := mi214) (ry := mi194) rfl rfl (by decide) rfl rfl (Nat.le_of_ble_eq_true rfl) rfl (by decide) (by decide)
theorem v214_280 {z : P0} {ls : Lcs} {st : List Value} {c n : Nat} {K : Nat → Nat × Nat} {I : Nat → Nat → Int32} {R : Nat → Nat → Option Nat} {L : Nat → Nat → Int64} {sz : Nat} {ex : Bool} {Q : Res → Mem → Prop} {x : Nat}  : X z 214 280 ls (.ref x :: st) (c, n) (K, I, R, L, sz, ex) Q = ((K x).1 = 111 ∧ wsum st ≤ 8 ∧ c + 0 ≤ 601024 ∧ n + 0 ≤ 7293034 ∧ X z 135 0 [some (.ref x), none, none, none] [] (0, 0) (K, I, R, L, sz, ex) (aftr (X z) mT 214 280 ls st (c + 0, n + 0) Q)) := by
  rw [x214_280]
  exact inv_v (As := []) (rm := mi214) (ry := mi135) rfl rfl (by decide) rfl rfl (Nat.le_of_ble_eq_true rfl) rfl rfl
theorem v214_286 {z : P0} {ls : Lcs} {st : List Value} {c n : Nat} {K : Nat → Nat × Nat} {I : Nat → Nat → Int32} {R : Nat → Nat → Option Nat} {L : Nat → Nat → Int64} {sz : Nat} {ex : Bool} {Q : Res → Mem → Prop} {x : Nat}  : X z 214 286 ls (.ref x :: st) (c, n) (K, I, R, L, sz, ex) Q = ((K x).1 = 111 ∧ wsum st ≤ 8 ∧ c + 0 ≤ 601024 ∧ n + 0 ≤ 7293034 ∧ X z 105 0 [some (.ref x)] [] (0, 0) (K, I, R, L, sz, ex) (aftr (X z) mT 214 286 ls st (c + 0, n + 0) Q)) := by
  rw [x214_286]
  exact inv_v (As := []) (rm := mi214) (ry := mi105) rfl rfl (by decide) rfl rfl (Nat.le_of_ble_eq_true rfl) rfl rfl
theorem v214_330 {z : P0} {ls : Lcs} {st : List Value} {c n : Nat} {K : Nat → Nat × Nat} {I : Nat → Nat → Int32} {R : Nat → Nat → Option Nat} {L : Nat → Nat → Int64} {sz : Nat} {ex : Bool} {Q : Res → Mem → Prop}  {a0 : Nat} {a1 : Int32} {a2 : Int32} {a3 : Nat} : X z 214 330 ls (.ref a3 :: .int a2 :: .int a1 :: .ref a0 :: st) (c, n) (K, I, R, L, sz, ex) Q = (wsum st ≤ 8 ∧ c + 1 ≤ 601024 ∧ n + 6 ≤ 7293034 ∧ X z 195 0 [some (.ref a0), some (.int a1), some (.int a2), some (.ref a3), none] [] (0, 0) (K, I, R, L, sz, ex) (aftr (X z) mT 214 330 ls st (c + 1, n + 6) Q)) := by
  rw [x214_330]
  exact inv_s (As := [.ref a0, .int a1, .int a2, .ref a3]) (rm := mi214) (ry := mi195) rfl rfl (by decide) rfl rfl (Nat.le_of_ble_eq_true rfl) rfl (by decide) (by decide)
theorem v214_348 {z : P0} {ls : Lcs} {st : List Value} {c n : Nat} {K : Nat → Nat × Nat} {I : Nat → Nat → Int32} {R : Nat → Nat → Option Nat} {L : Nat → Nat → Int64} {sz : Nat} {ex : Bool} {Q : Res → Mem → Prop} {x : Nat} {a0 : Int32} {a1 : Int32} : X z 214 348 ls (.int a1 :: .int a0 :: .ref x :: st) (c, n) (K, I, R, L, sz, ex) Q = ((K x).1 = 111 ∧ wsum st ≤ 8 ∧ c + 0 ≤ 601024 ∧ n + 0 ≤ 7293034 ∧ X z 136 0 [some (.ref x), some (.int a0), some (.int a1), none] [] (0, 0) (K, I, R, L, sz, ex) (aftr (X z) mT 214 348 ls st (c + 0, n + 0) Q)) := by
  rw [x214_348]
  exact inv_v (As := [.int a0, .int a1]) (rm := mi214) (ry := mi136) rfl rfl (by decide) rfl rfl (Nat.le_of_ble_eq_true rfl) rfl rfl
theorem v214_354 {z : P0} {ls : Lcs} {st : List Value} {c n : Nat} {K : Nat → Nat × Nat} {I : Nat → Nat → Int32} {R : Nat → Nat → Option Nat} {L : Nat → Nat → Int64} {sz : Nat} {ex : Bool} {Q : Res → Mem → Prop} {x : Nat}  : X z 214 354 ls (.ref x :: st) (c, n) (K, I, R, L, sz, ex) Q = ((K x).1 = 111 ∧ wsum st ≤ 8 ∧ c + 0 ≤ 601024 ∧ n + 0 ≤ 7293034 ∧ X z 105 0 [some (.ref x)] [] (0, 0) (K, I, R, L, sz, ex) (aftr (X z) mT 214 354 ls st (c + 0, n + 0) Q)) := by
  rw [x214_354]
  exact inv_v (As := []) (rm := mi214) (ry := mi105) rfl rfl (by decide) rfl rfl (Nat.le_of_ble_eq_true rfl) rfl rfl
theorem v214_398 {z : P0} {ls : Lcs} {st : List Value} {c n : Nat} {K : Nat → Nat × Nat} {I : Nat → Nat → Int32} {R : Nat → Nat → Option Nat} {L : Nat → Nat → Int64} {sz : Nat} {ex : Bool} {Q : Res → Mem → Prop}  {a0 : Nat} {a1 : Int32} {a2 : Int32} {a3 : Nat} : X z 214 398 ls (.ref a3 :: .int a2 :: .int a1 :: .ref a0 :: st) (c, n) (K, I, R, L, sz, ex) Q = (wsum st ≤ 8 ∧ c + 1 ≤ 601024 ∧ n + 6 ≤ 7293034 ∧ X z 196 0 [some (.ref a0), some (.int a1), some (.int a2), some (.ref a3), none] [] (0, 0) (K, I, R, L, sz, ex) (aftr (X z) mT 214 398 ls st (c + 1, n + 6) Q)) := by
  rw [x214_398]
  exact inv_s (As := [.ref a0, .int a1, .int a2, .ref a3]) (rm := mi214) (ry := mi196) rfl rfl (by decide) rfl rfl (Nat.le_of_ble_eq_true rfl) rfl (by decide) (by decide)
theorem v214_416 {z : P0} {ls : Lcs} {st : List Value} {c n : Nat} {K : Nat → Nat × Nat} {I : Nat → Nat → Int32} {R : Nat → Nat → Option Nat} {L : Nat → Nat → Int64} {sz : Nat} {ex : Bool} {Q : Res → Mem → Prop} {x : Nat} {a0 : Int32} {a1 : Int32} : X z 214 416 ls (.int a1 :: .int a0 :: .ref x :: st) (c, n) (K, I, R, L, sz, ex) Q = ((K x).1 = 111 ∧ wsum st ≤ 8 ∧ c + 0 ≤ 601024 ∧ n + 0 ≤ 7293034 ∧ X z 137 0 [some (.ref x), some (.int a0), some (.int a1), none] [] (0, 0) (K, I, R, L, sz, ex) (aftr (X z) mT 214 416 ls st (c + 0, n + 0) Q)) := by
  rw [x214_416]
  exact inv_v (As := [.int a0, .int a1]) (rm := mi214) (ry := mi137) rfl rfl (by decide) rfl rfl (Nat.le_of_ble_eq_true rfl) rfl rfl
theorem v214_422 {z : P0} {ls : Lcs} {st : List Value} {c n : Nat} {K : Nat → Nat × Nat} {I : Nat → Nat → Int32} {R : Nat → Nat → Option Nat} {L : Nat → Nat → Int64} {sz : Nat} {ex : Bool} {Q : Res → Mem → Prop} {x : Nat}  : X z 214 422 ls (.ref x :: st) (c, n) (K, I, R, L, sz, ex) Q = ((K x).1 = 111 ∧ wsum st ≤ 8 ∧ c + 0 ≤ 601024 ∧ n + 0 ≤ 7293034 ∧ X z 105 0 [some (.ref x)] [] (0, 0) (K, I, R, L, sz, ex) (aftr (X z) mT 214 422 ls st (c + 0, n + 0) Q)) := by
  rw [x214_422]
  exact inv_v (As := []) (rm := mi214) (ry := mi105) rfl rfl (by decide) rfl rfl (Nat.le_of_ble_eq_true rfl) rfl rfl
theorem v214_474 {z : P0} {ls : Lcs} {st : List Value} {c n : Nat} {K : Nat → Nat × Nat} {I : Nat → Nat → Int32} {R : Nat → Nat → Option Nat} {L : Nat → Nat → Int64} {sz : Nat} {ex : Bool} {Q : Res → Mem → Prop}  {a0 : Nat} {a1 : Int32} {a2 : Int32} {a3 : Nat} : X z 214 474 ls (.ref a3 :: .int a2 :: .int a1 :: .ref a0 :: st) (c, n) (K, I, R, L, sz, ex) Q = (wsum st ≤ 8 ∧ c + 1 ≤ 601024 ∧ n + 6 ≤ 7293034 ∧ X z 197 0 [some (.ref a0), some (.int a1), some (.int a2), some (.ref a3), none] [] (0, 0) (K, I, R, L, sz, ex) (aftr (X z) mT 214 474 ls st (c + 1, n + 6) Q)) := by
  rw [x214_474]
  exact inv_s (As := [.ref a0, .int a1, .int a2, .ref a3]) (rm := mi214) (ry := mi197) rfl rfl (by decide) rfl rfl (Nat.le_of_ble_eq_true rfl) rfl (by decide) (by decide)
theorem v214_500 {z : P0} {ls : Lcs} {st : List Value} {c n : Nat} {K : Nat → Nat × Nat} {I : Nat → Nat → Int32} {R : Nat → Nat → Option Nat} {L : Nat → Nat → Int64} {sz : Nat} {ex : Bool} {Q : Res → Mem → Prop} {x : Nat} {a0 : Int32} {a1 : Int32} : X z 214 500 ls (.int a1 :: .int a0 :: .ref x :: st) (c, n) (K, I, R, L, sz, ex) Q = ((K x).1 = 111 ∧ wsum st ≤ 8 ∧ c + 0 ≤ 601024 ∧ n + 0 ≤ 7293034 ∧ X z 139 0 [some (.ref x), some (.int a0), some (.int a1)] [] (0, 0) (K, I, R, L, sz, ex) (aftr (X z) mT 214 500 ls st (c + 0, n + 0) Q)) := by
  rw [x214_500]
  exact inv_v (As := [.int a0, .int a1]) (rm := mi214) (ry := mi139) rfl rfl (by decide) rfl rfl (Nat.le_of_ble_eq_true rfl) rfl rfl
theorem v214_506 {z : P0} {ls : Lcs} {st : List Value} {c n : Nat} {K : Nat → Nat × Nat} {I : Nat → Nat → Int32} {R : Nat → Nat → Option Nat} {L : Nat → Nat → Int64} {sz : Nat} {ex : Bool} {Q : Res → Mem → Prop} {x : Nat}  : X z 214 506 ls (.ref x :: st) (c, n) (K, I, R, L, sz, ex) Q = ((K x).1 = 111 ∧ wsum st ≤ 8 ∧ c + 0 ≤ 601024 ∧ n + 0 ≤ 7293034 ∧ X z 105 0 [some (.ref x)] [] (0, 0) (K, I, R, L, sz, ex) (aftr (X z) mT 214 506 ls st (c + 0, n + 0) Q)) := by
  rw [x214_506]
  exact inv_v (As := []) (rm := mi214) (ry := mi105) rfl rfl (by decide) rfl rfl (Nat.le_of_ble_eq_true rfl) rfl rfl
theorem v214_550 {z : P0} {ls : Lcs} {st : List Value} {c n : Nat} {K : Nat → Nat × Nat} {I : Nat → Nat → Int32} {R : Nat → Nat → Option Nat} {L : Nat → Nat → Int64} {sz : Nat} {ex : Bool} {Q : Res → Mem → Prop}  {a0 : Nat} {a1 : Int32} {a2 : Int32} {a3 : Nat} : X z 214 550 ls (.ref a3 :: .int a2 :: .int a1 :: .ref a0 :: st) (c, n) (K, I, R, L, sz, ex) Q = (wsum st ≤ 8 ∧ c + 1 ≤ 601024 ∧ n + 6 ≤ 7293034 ∧ X z 198 0 [some (.ref a0), some (.int a1), some (.int a2), some (.ref a3), none] [] (0, 0) (K, I, R, L, sz, ex) (aftr (X z) mT 214 550 ls st (c + 1, n + 6) Q)) := by
  rw [x214_550]
  exact inv_s (As := [.ref a0, .int a1, .int a2, .ref a3]) (rm := mi214) (ry := mi198) rfl rfl (by decide) rfl rfl (Nat.le_of_ble_eq_true rfl) rfl (by decide) (by decide)
theorem v214_568 {z : P0} {ls : Lcs} {st : List Value} {c n : Nat} {K : Nat → Nat × Nat} {I : Nat → Nat → Int32} {R : Nat → Nat → Option Nat} {L : Nat → Nat → Int64} {sz : Nat} {ex : Bool} {Q : Res → Mem → Prop} {x : Nat} {a0 : Int32} {a1 : Int32} : X z 214 568 ls (.int a1 :: .int a0 :: .ref x :: st) (c, n) (K, I, R, L, sz, ex) Q = ((K x).1 = 111 ∧ wsum st ≤ 8 ∧ c + 0 ≤ 601024 ∧ n + 0 ≤ 7293034 ∧ X z 142 0 [some (.ref x), some (.int a0), some (.int a1), none] [] (0, 0) (K, I, R, L, sz, ex) (aftr (X z) mT 214 568 ls st (c + 0, n + 0) Q)) := by
  rw [x214_568]
  exact inv_v (As := [.int a0, .int a1]) (rm := mi214) (ry := mi142) rfl rfl (by decide) rfl rfl (Nat.le_of_ble_eq_true rfl) rfl rfl
theorem v214_574 {z : P0} {ls : Lcs} {st : List Value} {c n : Nat} {K : Nat → Nat × Nat} {I : Nat → Nat → Int32} {R : Nat → Nat → Option Nat} {L : Nat → Nat → Int64} {sz : Nat} {ex : Bool} {Q : Res → Mem → Prop} {x : Nat}  : X z 214 574 ls (.ref x :: st) (c, n) (K, I, R, L, sz, ex) Q = ((K x).1 = 111 ∧ wsum st ≤ 8 ∧ c + 0 ≤ 601024 ∧ n + 0 ≤ 7293034 ∧ X z 105 0 [some (.ref x)] [] (0, 0) (K, I, R, L, sz, ex) (aftr (X z) mT 214 574 ls st (c + 0, n + 0) Q)) := by
  rw [x214_574]
  exact inv_v (As := []) (rm := mi214) (ry := mi105) rfl rfl (by decide) rfl rfl (Nat.le_of_ble_eq_true rfl) rfl rfl
theorem v214_606 {z : P0} {ls : Lcs} {st : List Value} {c n : Nat} {K : Nat → Nat × Nat} {I : Nat → Nat → Int32} {R : Nat → Nat → Option Nat} {L : Nat → Nat → Int64} {sz : Nat} {ex : Bool} {Q : Res → Mem → Prop}  {a0 : Nat} {a1 : Nat} : X z 214 606 ls (.ref a1 :: .ref a0 :: st) (c, n) (K, I, R, L, sz, ex) Q = (wsum st ≤ 8 ∧ c + 1 ≤ 601024 ∧ n + 6 ≤ 7293034 ∧ X z 199 0 [some (.ref a0), some (.ref a1), none] [] (0, 0) (K, I, R, L, sz, ex) (aftr (X z) mT 214 606 ls st (c + 1, n + 6) Q)) := by
  rw [x214_606]
  exact inv_s (As := [.ref a0, .ref a1]) (rm := mi214) (ry := mi199) rfl rfl (by decide) rfl rfl (Nat.le_of_ble_eq_true rfl) rfl (by decide) (by decide)
theorem v214_612 {z : P0} {ls : Lcs} {st : List Value} {c n : Nat} {K : Nat → Nat × Nat} {I : Nat → Nat → Int32} {R : Nat → Nat → Option Nat} {L : Nat → Nat → Int64} {sz : Nat} {ex : Bool} {Q : Res → Mem → Prop} {x : Nat}  : X z 214 612 ls (.ref x :: st) (c, n) (K, I, R, L, sz, ex) Q = ((K x).1 = 111 ∧ wsum st ≤ 8 ∧ c + 0 ≤ 601024 ∧ n + 0 ≤ 7293034 ∧ X z 143 0 [some (.ref x), none, none] [] (0, 0) (K, I, R, L, sz, ex) (aftr (X z) mT 214 612 ls st (c + 0, n + 0) Q)) := by
  rw [x214_612]
  exact inv_v (As := []) (rm := mi214) (ry := mi143) rfl rfl (by decide) rfl rfl (Nat.le_of_ble_eq_true rfl) rfl rfl
theorem v214_618 {z : P0} {ls : Lcs} {st : List Value} {c n : Nat} {K : Nat → Nat × Nat} {I : Nat → Nat → Int32} {R : Nat → Nat → Option Nat} {L : Nat → Nat → Int64} {sz : Nat} {ex : Bool} {Q : Res → Mem → Prop} {x : Nat}  : X z 214 618 ls (.ref x :: st) (c, n) (K, I, R, L, sz, ex) Q = ((K x).1 = 111 ∧ wsum st ≤ 8 ∧ c + 0 ≤ 601024 ∧ n + 0 ≤ 7293034 ∧ X z 105 0 [some (.ref x)] [] (0, 0) (K, I, R, L, sz, ex) (aftr (X z) mT 214 618 ls st (c + 0, n + 0) Q)) := by
  rw [x214_618]
  exact inv_v (As := []) (rm := mi214) (ry := mi105) rfl rfl (by decide) rfl rfl (Nat.le_of_ble_eq_true rfl) rfl rfl
theorem v214_656 {z : P0} {ls : Lcs} {st : List Value} {c n : Nat} {K : Nat → Nat × Nat} {I : Nat → Nat → Int32} {R : Nat → Nat → Option Nat} {L : Nat → Nat → Int64} {sz : Nat} {ex : Bool} {Q : Res → Mem → Prop}  {a0 : Nat} {a1 : Int32} {a2 : Nat} : X z 214 656 ls (.ref a2 :: .int a1 :: .ref a0 :: st) (c, n) (K, I, R, L, sz, ex) Q = (wsum st ≤ 8 ∧ c + 1 ≤ 601024 ∧ n + 6 ≤ 7293034 ∧ X z 200 0 [some (.ref a0), some (.int a1), some (.ref a2), none] [] (0, 0) (K, I, R, L, sz, ex) (aftr (X z) mT 214 656 ls st (c + 1, n + 6) Q)) := by
  rw [x214_656]
  exact inv_s (As := [.ref a0, .int a1, .ref a2]) (rm := mi214) (ry := mi200) rfl rfl (by decide) rfl rfl (Nat.le_of_ble_eq_true rfl) rfl (by decide) (by decide)
theorem v214_668 {z : P0} {ls : Lcs} {st : List Value} {c n : Nat} {K : Nat → Nat × Nat} {I : Nat → Nat → Int32} {R : Nat → Nat → Option Nat} {L : Nat → Nat → Int64} {sz : Nat} {ex : Bool} {Q : Res → Mem → Prop} {x : Nat} {a0 : Int32} : X z 214 668 ls (.int a0 :: .ref x :: st) (c, n) (K, I, R, L, sz, ex) Q = ((K x).1 = 111 ∧ wsum st ≤ 8 ∧ c + 0 ≤ 601024 ∧ n + 0 ≤ 7293034 ∧ X z 144 0 [some (.ref x), some (.int a0)] [] (0, 0) (K, I, R, L, sz, ex) (aftr (X z) mT 214 668 ls st (c + 0, n + 0) Q)) := by
  rw [x214_668]
  exact inv_v (As := [.int a0]) (rm := mi214) (ry := mi144) rfl rfl (by decide) rfl rfl (Nat.le_of_ble_eq_true rfl) rfl rfl
theorem v214_674 {z : P0} {ls : Lcs} {st : List Value} {c n : Nat} {K : Nat → Nat × Nat} {I : Nat → Nat → Int32} {R : Nat → Nat → Option Nat} {L : Nat → Nat → Int64} {sz : Nat} {ex : Bool} {Q : Res → Mem → Prop} {x : Nat}  : X z 214 674 ls (.ref x :: st) (c, n) (K, I, R, L, sz, ex) Q = ((K x).1 = 111 ∧ wsum st ≤ 8 ∧ c + 0 ≤ 601024 ∧ n + 0 ≤ 7293034 ∧ X z 105 0 [some (.ref x)] [] (0, 0) (K, I, R, L, sz, ex) (aftr (X z) mT 214 674 ls st (c + 0, n + 0) Q)) := by
  rw [x214_674]
  exact inv_v (As := []) (rm := mi214) (ry := mi105) rfl rfl (by decide) rfl rfl (Nat.le_of_ble_eq_true rfl) rfl rfl
theorem v214_712 {z : P0} {ls : Lcs} {st : List Value} {c n : Nat} {K : Nat → Nat × Nat} {I : Nat → Nat → Int32} {R : Nat → Nat → Option Nat} {L : Nat → Nat → Int64} {sz : Nat} {ex : Bool} {Q : Res → Mem → Prop}  {a0 : Nat} {a1 : Int32} {a2 : Nat} : X z 214 712 ls (.ref a2 :: .int a1 :: .ref a0 :: st) (c, n) (K, I, R, L, sz, ex) Q = (wsum st ≤ 8 ∧ c + 1 ≤ 601024 ∧ n + 6 ≤ 7293034 ∧ X z 201 0 [some (.ref a0), some (.int a1), some (.ref a2), none] [] (0, 0) (K, I, R, L, sz, ex) (aftr (X z) mT 214 712 ls st (c + 1, n + 6) Q)) := by
  rw [x214_712]
  exact inv_s (As := [.ref a0, .int a1, .ref a2]) (rm := mi214) (ry := mi201) rfl rfl (by decide) rfl rfl (Nat.le_of_ble_eq_true rfl) rfl (by decide) (by decide)
theorem v214_724 {z : P0} {ls : Lcs} {st : List Value} {c n : Nat} {K : Nat → Nat × Nat} {I : Nat → Nat → Int32} {R : Nat → Nat → Option Nat} {L : Nat → Nat → Int64} {sz : Nat} {ex : Bool} {Q : Res → Mem → Prop} {x : Nat} {a0 : Int32} : X z 214 724 ls (.int a0 :: .ref x :: st) (c, n) (K, I, R, L, sz, ex) Q = ((K x).1 = 111 ∧ wsum st ≤ 8 ∧ c + 0 ≤ 601024 ∧ n + 0 ≤ 7293034 ∧ X z 145 0 [some (.ref x), some (.int a0)] [] (0, 0) (K, I, R, L, sz, ex) (aftr (X z) mT 214 724 ls st (c + 0, n + 0) Q)) := by
  rw [x214_724]
  exact inv_v (As := [.int a0]) (rm := mi214) (ry := mi145) rfl rfl (by decide) rfl rfl (Nat.le_of_ble_eq_true rfl) rfl rfl
theorem v214_730 {z : P0} {ls : Lcs} {st : List Value} {c n : Nat} {K : Nat → Nat × Nat} {I : Nat → Nat → Int32} {R : Nat → Nat → Option Nat} {L : Nat → Nat → Int64} {sz : Nat} {ex : Bool} {Q : Res → Mem → Prop} {x : Nat}  : X z 214 730 ls (.ref x :: st) (c, n) (K, I, R, L, sz, ex) Q = ((K x).1 = 111 ∧ wsum st ≤ 8 ∧ c + 0 ≤ 601024 ∧ n + 0 ≤ 7293034 ∧ X z 105 0 [some (.ref x)] [] (0, 0) (K, I, R, L, sz, ex) (aftr (X z) mT 214 730 ls st (c + 0, n + 0) Q)) := by
  rw [x214_730]
  exact inv_v (As := []) (rm := mi214) (ry := mi105) rfl rfl (by decide) rfl rfl (Nat.le_of_ble_eq_true rfl) rfl rfl
theorem v214_761 {z : P0} {ls : Lcs} {st : List Value} {c n : Nat} {K : Nat → Nat × Nat} {I : Nat → Nat → Int32} {R : Nat → Nat → Option Nat} {L : Nat → Nat → Int64} {sz : Nat} {ex : Bool} {Q : Res → Mem → Prop} {x : Nat}  : X z 214 761 ls (.ref x :: st) (c, n) (K, I, R, L, sz, ex) Q = ((K x).1 = 110 ∧ wsum st ≤ 8 ∧ c + 0 ≤ 601024 ∧ n + 0 ≤ 7293034 ∧ X z 68 0 [some (.ref x), none] [] (0, 0) (K, I, R, L, sz, ex) (aftr (X z) mT 214 761 ls st (c + 0, n + 0) Q)) := by
  rw [x214_761]
  exact inv_v (As := []) (rm := mi214) (ry := mi68) rfl rfl (by decide) rfl rfl (Nat.le_of_ble_eq_true rfl) rfl rfl
theorem v214_765 {z : P0} {ls : Lcs} {st : List Value} {c n : Nat} {K : Nat → Nat × Nat} {I : Nat → Nat → Int32} {R : Nat → Nat → Option Nat} {L : Nat → Nat → Int64} {sz : Nat} {ex : Bool} {Q : Res → Mem → Prop} {x : Nat}  : X z 214 765 ls (.ref x :: st) (c, n) (K, I, R, L, sz, ex) Q = ((K x).1 = 111 ∧ wsum st ≤ 8 ∧ c + 0 ≤ 601024 ∧ n + 0 ≤ 7293034 ∧ X z 146 0 [some (.ref x), none] [] (0, 0) (K, I, R, L, sz, ex) (aftr (X z) mT 214 765 ls st (c + 0, n + 0) Q)) := by
  rw [x214_765]
  exact inv_v (As := []) (rm := mi214) (ry := mi146) rfl rfl (by decide) rfl rfl (Nat.le_of_ble_eq_true rfl) rfl rfl
theorem v214_781 {z : P0} {ls : Lcs} {st : List Value} {c n : Nat} {K : Nat → Nat × Nat} {I : Nat → Nat → Int32} {R : Nat → Nat → Option Nat} {L : Nat → Nat → Int64} {sz : Nat} {ex : Bool} {Q : Res → Mem → Prop}  {a0 : Nat} {a1 : Int32} {a2 : Nat} : X z 214 781 ls (.ref a2 :: .int a1 :: .ref a0 :: st) (c, n) (K, I, R, L, sz, ex) Q = (wsum st ≤ 8 ∧ c + 1 ≤ 601024 ∧ n + 6 ≤ 7293034 ∧ X z 202 0 [some (.ref a0), some (.int a1), some (.ref a2), none] [] (0, 0) (K, I, R, L, sz, ex) (aftr (X z) mT 214 781 ls st (c + 1, n + 6) Q)) := by
  rw [x214_781]
  exact inv_s (As := [.ref a0, .int a1, .ref a2]) (rm := mi214) (ry := mi202) rfl rfl (by decide) rfl rfl (Nat.le_of_ble_eq_true rfl) rfl (by decide) (by decide)
theorem v214_793 {z : P0} {ls : Lcs} {st : List Value} {c n : Nat} {K : Nat → Nat × Nat} {I : Nat → Nat → Int32} {R : Nat → Nat → Option Nat} {L : Nat → Nat → Int64} {sz : Nat} {ex : Bool} {Q : Res → Mem → Prop} {x : Nat} {a0 : Int32} : X z 214 793 ls (.int a0 :: .ref x :: st) (c, n) (K, I, R, L, sz, ex) Q = ((K x).1 = 111 ∧ wsum st ≤ 8 ∧ c + 0 ≤ 601024 ∧ n + 0 ≤ 7293034 ∧ X z 152 0 [some (.ref x), some (.int a0)] [] (0, 0) (K, I, R, L, sz, ex) (aftr (X z) mT 214 793 ls st (c + 0, n + 0) Q)) := by
  rw [x214_793]
  exact inv_v (As := [.int a0]) (rm := mi214) (ry := mi152) rfl rfl (by decide) rfl rfl (Nat.le_of_ble_eq_true rfl) rfl rfl
theorem v214_799 {z : P0} {ls : Lcs} {st : List Value} {c n : Nat} {K : Nat → Nat × Nat} {I : Nat → Nat → Int32} {R : Nat → Nat → Option Nat} {L : Nat → Nat → Int64} {sz : Nat} {ex : Bool} {Q : Res → Mem → Prop} {x : Nat}  : X z 214 799 ls (.ref x :: st) (c, n) (K, I, R, L, sz, ex) Q = ((K x).1 = 111 ∧ wsum st ≤ 8 ∧ c + 0 ≤ 601024 ∧ n + 0 ≤ 7293034 ∧ X z 105 0 [some (.ref x)] [] (0, 0) (K, I, R, L, sz, ex) (aftr (X z) mT 214 799 ls st (c + 0, n + 0) Q)) := by
  rw [x214_799]
  exact inv_v (As := []) (rm := mi214) (ry := mi105) rfl rfl (by decide) rfl rfl (Nat.le_of_ble_eq_true rfl) rfl rfl
theorem v214_831 {z : P0} {ls : Lcs} {st : List Value} {c n : Nat} {K : Nat → Nat × Nat} {I : Nat → Nat → Int32} {R : Nat → Nat → Option Nat} {L : Nat → Nat → Int64} {sz : Nat} {ex : Bool} {Q : Res → Mem → Prop}  {a0 : Nat} {a1 : Nat} : X z 214 831 ls (.ref a1 :: .ref a0 :: st) (c, n) (K, I, R, L, sz, ex) Q = (wsum st ≤ 8 ∧ c + 1 ≤ 601024 ∧ n + 6 ≤ 7293034 ∧ X z 203 0 [some (.ref a0), some (.ref a1), none] [] (0, 0) (K, I, R, L, sz, ex) (aftr (X z) mT 214 831 ls st (c + 1, n + 6) Q)) := by
  rw [x214_831]
  exact inv_s (As := [.ref a0, .ref a1]) (rm := mi214) (ry := mi203) rfl rfl (by decide) rfl rfl (Nat.le_of_ble_eq_true rfl) rfl (by decide) (by decide)
theorem v214_837 {z : P0} {ls : Lcs} {st : List Value} {c n : Nat} {K : Nat → Nat × Nat} {I : Nat → Nat → Int32} {R : Nat → Nat → Option Nat} {L : Nat → Nat → Int64} {sz : Nat} {ex : Bool} {Q : Res → Mem → Prop} {x : Nat}  : X z 214 837 ls (.ref x :: st) (c, n) (K, I, R, L, sz, ex) Q = ((K x).1 = 111 ∧ wsum st ≤ 8 ∧ c + 0 ≤ 601024 ∧ n + 0 ≤ 7293034 ∧ X z 153 0 [some (.ref x), none] [] (0, 0) (K, I, R, L, sz, ex) (aftr (X z) mT 214 837 ls st (c + 0, n + 0) Q)) := by
  rw [x214_837]
  exact inv_v (As := []) (rm := mi214) (ry := mi153) rfl rfl (by decide) rfl rfl (Nat.le_of_ble_eq_true rfl) rfl rfl
theorem v214_843 {z : P0} {ls : Lcs} {st : List Value} {c n : Nat} {K : Nat → Nat × Nat} {I : Nat → Nat → Int32} {R : Nat → Nat → Option Nat} {L : Nat → Nat → Int64} {sz : Nat} {ex : Bool} {Q : Res → Mem → Prop} {x : Nat}  : X z 214 843 ls (.ref x :: st) (c, n) (K, I, R, L, sz, ex) Q = ((K x).1 = 111 ∧ wsum st ≤ 8 ∧ c + 0 ≤ 601024 ∧ n + 0 ≤ 7293034 ∧ X z 105 0 [some (.ref x)] [] (0, 0) (K, I, R, L, sz, ex) (aftr (X z) mT 214 843 ls st (c + 0, n + 0) Q)) := by
  rw [x214_843]
  exact inv_v (As := []) (rm := mi214) (ry := mi105) rfl rfl (by decide) rfl rfl (Nat.le_of_ble_eq_true rfl) rfl rfl
theorem v214_887 {z : P0} {ls : Lcs} {st : List Value} {c n : Nat} {K : Nat → Nat × Nat} {I : Nat → Nat → Int32} {R : Nat → Nat → Option Nat} {L : Nat → Nat → Int64} {sz : Nat} {ex : Bool} {Q : Res → Mem → Prop}  {a0 : Nat} {a1 : Int32} {a2 : Int32} {a3 : Nat} : X z 214 887 ls (.ref a3 :: .int a2 :: .int a1 :: .ref a0 :: st) (c, n) (K, I, R, L, sz, ex) Q = (wsum st ≤ 8 ∧ c + 1 ≤ 601024 ∧ n + 6 ≤ 7293034 ∧ X z 204 0 [some (.ref a0), some (.int a1), some (.int a2), some (.ref a3), none] [] (0, 0) (K, I, R, L, sz, ex) (aftr (X z) mT 214 887 ls st (c + 1, n + 6) Q)) := by
  rw [x214_887]
  exact inv_s (As := [.ref a0, .int a1, .int a2, .ref a3]) (rm := mi214) (ry := mi204) rfl rfl (by decide) rfl rfl (Nat.le_of_ble_eq_true rfl) rfl (by decide) (by decide)
theorem v214_905 {z : P0} {ls : Lcs} {st : List Value} {c n : Nat} {K : Nat → Nat × Nat} {I : Nat → Nat → Int32} {R : Nat → Nat → Option Nat} {L : Nat → Nat → Int64} {sz : Nat} {ex : Bool} {Q : Res → Mem → Prop} {x : Nat} {a0 : Int32} {a1 : Int32} : X z 214 905 ls (.int a1 :: .int a0 :: .ref x :: st) (c, n) (K, I, R, L, sz, ex) Q = ((K x).1 = 111 ∧ wsum st ≤ 8 ∧ c + 0 ≤ 601024 ∧ n + 0 ≤ 7293034 ∧ X z 156 0 [some (.ref x), some (.int a0), some (.int a1)] [] (0, 0) (K, I, R, L, sz, ex) (aftr (X z) mT 214 905 ls st (c + 0, n + 0) Q)) := by
  rw [x214_905]
  exact inv_v (As := [.int a0, .int a1]) (rm := mi214) (ry := mi156) rfl rfl (by decide) rfl rfl (Nat.le_of_ble_eq_true rfl) rfl rfl
theorem v214_911 {z : P0} {ls : Lcs} {st : List Value} {c n : Nat} {K : Nat → Nat × Nat} {I : Nat → Nat → Int32} {R : Nat → Nat → Option Nat} {L : Nat → Nat → Int64} {sz : Nat} {ex : Bool} {Q : Res → Mem → Prop} {x : Nat}  : X z 214 911 ls (.ref x :: st) (c, n) (K, I, R, L, sz, ex) Q = ((K x).1 = 111 ∧ wsum st ≤ 8 ∧ c + 0 ≤ 601024 ∧ n + 0 ≤ 7293034 ∧ X z 105 0 [some (.ref x)] [] (0, 0) (K, I, R, L, sz, ex) (aftr (X z) mT 214 911 ls st (c + 0, n + 0) Q)) := by
  rw [x214_911]
  exact inv_v (As := []) (rm := mi214) (ry := mi105) rfl rfl (by decide) rfl rfl (Nat.le_of_ble_eq_true rfl) rfl rfl
theorem v214_955 {z : P0} {ls : Lcs} {st : List Value} {c n : Nat} {K : Nat → Nat × Nat} {I : Nat → Nat → Int32} {R : Nat → Nat → Option Nat} {L : Nat → Nat → Int64} {sz : Nat} {ex : Bool} {Q : Res → Mem → Prop}  {a0 : Nat} {a1 : Int32} {a2 : Int32} {a3 : Nat} : X z 214 955 ls (.ref a3 :: .int a2 :: .int a1 :: .ref a0 :: st) (c, n) (K, I, R, L, sz, ex) Q = (wsum st ≤ 8 ∧ c + 1 ≤ 601024 ∧ n + 6 ≤ 7293034 ∧ X z 205 0 [some (.ref a0), some (.int a1), some (.int a2), some (.ref a3), none] [] (0, 0) (K, I, R, L, sz, ex) (aftr (X z) mT 214 955 ls st (c + 1, n + 6) Q)) := by
  rw [x214_955]
  exact inv_s (As := [.ref a0, .int a1, .int a2, .ref a3]) (rm := mi214) (ry := mi205) rfl rfl (by decide) rfl rfl (Nat.le_of_ble_eq_true rfl) rfl (by decide) (by decide)
theorem v214_973 {z : P0} {ls : Lcs} {st : List Value} {c n : Nat} {K : Nat → Nat × Nat} {I : Nat → Nat → Int32} {R : Nat → Nat → Option Nat} {L : Nat → Nat → Int64} {sz : Nat} {ex : Bool} {Q : Res → Mem → Prop} {x : Nat} {a0 : Int32} {a1 : Int32} : X z 214 973 ls (.int a1 :: .int a0 :: .ref x :: st) (c, n) (K, I, R, L, sz, ex) Q = ((K x).1 = 111 ∧ wsum st ≤ 8 ∧ c + 0 ≤ 601024 ∧ n + 0 ≤ 7293034 ∧ X z 157 0 [some (.ref x), some (.int a0), some (.int a1)] [] (0, 0) (K, I, R, L, sz, ex) (aftr (X z) mT 214 973 ls st (c + 0, n + 0) Q)) := by
  rw [x214_973]
  exact inv_v (As := [.int a0, .int a1]) (rm := mi214) (ry := mi157) rfl rfl (by decide) rfl rfl (Nat.le_of_ble_eq_true rfl) rfl rfl
theorem v214_979 {z : P0} {ls : Lcs} {st : List Value} {c n : Nat} {K : Nat → Nat × Nat} {I : Nat → Nat → Int32} {R : Nat → Nat → Option Nat} {L : Nat → Nat → Int64} {sz : Nat} {ex : Bool} {Q : Res → Mem → Prop} {x : Nat}  : X z 214 979 ls (.ref x :: st) (c, n) (K, I, R, L, sz, ex) Q = ((K x).1 = 111 ∧ wsum st ≤ 8 ∧ c + 0 ≤ 601024 ∧ n + 0 ≤ 7293034 ∧ X z 105 0 [some (.ref x)] [] (0, 0) (K, I, R, L, sz, ex) (aftr (X z) mT 214 979 ls st (c + 0, n + 0) Q)) := by
  rw [x214_979]
  exact inv_v (As := []) (rm := mi214) (ry := mi105) rfl rfl (by decide) rfl rfl (Nat.le_of_ble_eq_true rfl) rfl rfl
theorem v214_1023 {z : P0} {ls : Lcs} {st : List Value} {c n : Nat} {K : Nat → Nat × Nat} {I : Nat → Nat → Int32} {R : Nat → Nat → Option Nat} {L : Nat → Nat → Int64} {sz : Nat} {ex : Bool} {Q : Res → Mem → Prop}  {a0 : Nat} {a1 : Int32} {a2 : Int32} {a3 : Nat} : X z 214 1023 ls (.ref a3 :: .int a2 :: .int a1 :: .ref a0 :: st) (c, n) (K, I, R, L, sz, ex) Q = (wsum st ≤ 8 ∧ c + 1 ≤ 601024 ∧ n + 6 ≤ 7293034 ∧ X z 206 0 [some (.ref a0), some (.int a1), some (.int a2), some (.ref a3), none] [] (0, 0) (K, I, R, L, sz, ex) (aftr (X z) mT 214 1023 ls st (c + 1, n + 6) Q)) := by
  rw [x214_1023]
  exact inv_s (As := [.ref a0, .int a1, .int a2, .ref a3]) (rm := mi214) (ry := mi206) rfl rfl (by decide) rfl rfl (Nat.le_of_ble_eq_true rfl) rfl (by decide) (by decide)
theorem v214_1041 {z : P0} {ls : Lcs} {st : List Value} {c n : Nat} {K : Nat → Nat × Nat} {I : Nat → Nat → Int32} {R : Nat → Nat → Option Nat} {L : Nat → Nat → Int64} {sz : Nat} {ex : Bool} {Q : Res → Mem → Prop} {x : Nat} {a0 : Int32} {a1 : Int32} : X z 214 1041 ls (.int a1 :: .int a0 :: .ref x :: st) (c, n) (K, I, R, L, sz, ex) Q = ((K x).1 = 111 ∧ wsum st ≤ 8 ∧ c + 0 ≤ 601024 ∧ n + 0 ≤ 7293034 ∧ X z 160 0 [some (.ref x), some (.int a0), some (.int a1)] [] (0, 0) (K, I, R, L, sz, ex) (aftr (X z) mT 214 1041 ls st (c + 0, n + 0) Q)) := by
  rw [x214_1041]
  exact inv_v (As := [.int a0, .int a1]) (rm := mi214) (ry := mi160) rfl rfl (by decide) rfl rfl (Nat.le_of_ble_eq_true rfl) rfl rfl
theorem v214_1047 {z : P0} {ls : Lcs} {st : List Value} {c n : Nat} {K : Nat → Nat × Nat} {I : Nat → Nat → Int32} {R : Nat → Nat → Option Nat} {L : Nat → Nat → Int64} {sz : Nat} {ex : Bool} {Q : Res → Mem → Prop} {x : Nat}  : X z 214 1047 ls (.ref x :: st) (c, n) (K, I, R, L, sz, ex) Q = ((K x).1 = 111 ∧ wsum st ≤ 8 ∧ c + 0 ≤ 601024 ∧ n + 0 ≤ 7293034 ∧ X z 105 0 [some (.ref x)] [] (0, 0) (K, I, R, L, sz, ex) (aftr (X z) mT 214 1047 ls st (c + 0, n + 0) Q)) := by
  rw [x214_1047]
  exact inv_v (As := []) (rm := mi214) (ry := mi105) rfl rfl (by decide) rfl rfl (Nat.le_of_ble_eq_true rfl) rfl rfl
theorem v214_1091 {z : P0} {ls : Lcs} {st : List Value} {c n : Nat} {K : Nat → Nat × Nat} {I : Nat → Nat → Int32} {R : Nat → Nat → Option Nat} {L : Nat → Nat → Int64} {sz : Nat} {ex : Bool} {Q : Res → Mem → Prop}  {a0 : Nat} {a1 : Int32} {a2 : Int32} {a3 : Nat} : X z 214 1091 ls (.ref a3 :: .int a2 :: .int a1 :: .ref a0 :: st) (c, n) (K, I, R, L, sz, ex) Q = (wsum st ≤ 8 ∧ c + 1 ≤ 601024 ∧ n + 6 ≤ 7293034 ∧ X z 207 0 [some (.ref a0), some (.int a1), some (.int a2), some (.ref a3), none] [] (0, 0) (K, I, R, L, sz, ex) (aftr (X z) mT 214 1091 ls st (c + 1, n + 6) Q)) := by
  rw [x214_1091]
  exact inv_s (As := [.ref a0, .int a1, .int a2, .ref a3]) (rm := mi214) (ry := mi207) rfl rfl (by decide) rfl rfl (Nat.le_of_ble_eq_true rfl) rfl (by decide) (by decide)
theorem v214_1109 {z : P0} {ls : Lcs} {st : List Value} {c n : Nat} {K : Nat → Nat × Nat} {I : Nat → Nat → Int32} {R : Nat → Nat → Option Nat} {L : Nat → Nat → Int64} {sz : Nat} {ex : Bool} {Q : Res → Mem → Prop} {x : Nat} {a0 : Int32} {a1 : Int32} : X z 214 1109 ls (.int a1 :: .int a0 :: .ref x :: st) (c, n) (K, I, R, L, sz, ex) Q = ((K x).1 = 111 ∧ wsum st ≤ 8 ∧ c + 0 ≤ 601024 ∧ n + 0 ≤ 7293034 ∧ X z 162 0 [some (.ref x), some (.int a0), some (.int a1)] [] (0, 0) (K, I, R, L, sz, ex) (aftr (X z) mT 214 1109 ls st (c + 0, n + 0) Q)) := by
  rw [x214_1109]
  exact inv_v (As := [.int a0, .int a1]) (rm := mi214) (ry := mi162) rfl rfl (by decide) rfl rfl (Nat.le_of_ble_eq_true rfl) rfl rfl
theorem v214_1115 {z : P0} {ls : Lcs} {st : List Value} {c n : Nat} {K : Nat → Nat × Nat} {I : Nat → Nat → Int32} {R : Nat → Nat → Option Nat} {L : Nat → Nat → Int64} {sz : Nat} {ex : Bool} {Q : Res → Mem → Prop} {x : Nat}  : X z 214 1115 ls (.ref x :: st) (c, n) (K, I, R, L, sz, ex) Q = ((K x).1 = 111 ∧ wsum st ≤ 8 ∧ c + 0 ≤ 601024 ∧ n + 0 ≤ 7293034 ∧ X z 105 0 [some (.ref x)] [] (0, 0) (K, I, R, L, sz, ex) (aftr (X z) mT 214 1115 ls st (c + 0, n + 0) Q)) := by
  rw [x214_1115]
  exact inv_v (As := []) (rm := mi214) (ry := mi105) rfl rfl (by decide) rfl rfl (Nat.le_of_ble_eq_true rfl) rfl rfl
theorem v214_1159 {z : P0} {ls : Lcs} {st : List Value} {c n : Nat} {K : Nat → Nat × Nat} {I : Nat → Nat → Int32} {R : Nat → Nat → Option Nat} {L : Nat → Nat → Int64} {sz : Nat} {ex : Bool} {Q : Res → Mem → Prop}  {a0 : Nat} {a1 : Int32} {a2 : Int32} {a3 : Nat} : X z 214 1159 ls (.ref a3 :: .int a2 :: .int a1 :: .ref a0 :: st) (c, n) (K, I, R, L, sz, ex) Q = (wsum st ≤ 8 ∧ c + 1 ≤ 601024 ∧ n + 6 ≤ 7293034 ∧ X z 208 0 [some (.ref a0), some (.int a1), some (.int a2), some (.ref a3), none] [] (0, 0) (K, I, R, L, sz, ex) (aftr (X z) mT 214 1159 ls st (c + 1, n + 6) Q)) := by
  rw [x214_1159]
  exact inv_s (As := [.ref a0, .int a1, .int a2, .ref a3]) (rm := mi214) (ry := mi208) rfl rfl (by decide) rfl rfl (Nat.le_of_ble_eq_true rfl) rfl (by decide) (by decide)
theorem v214_1177 {z : P0} {ls : Lcs} {st : List Value} {c n : Nat} {K : Nat → Nat × Nat} {I : Nat → Nat → Int32} {R : Nat → Nat → Option Nat} {L : Nat → Nat → Int64} {sz : Nat} {ex : Bool} {Q : Res → Mem → Prop} {x : Nat} {a0 : Int32} {a1 : Int32} : X z 214 1177 ls (.int a1 :: .int a0 :: .ref x :: st) (c, n) (K, I, R, L, sz, ex) Q = ((K x).1 = 111 ∧ wsum st ≤ 8 ∧ c + 0 ≤ 601024 ∧ n + 0 ≤ 7293034 ∧ X z 163 0 [some (.ref x), some (.int a0), some (.int a1)] [] (0, 0) (K, I, R, L, sz, ex) (aftr (X z) mT 214 1177 ls st (c + 0, n + 0) Q)) := by
  rw [x214_1177]
  exact inv_v (As := [.int a0, .int a1]) (rm := mi214) (ry := mi163) rfl rfl (by decide) rfl rfl (Nat.le_of_ble_eq_true rfl) rfl rfl
theorem v214_1183 {z : P0} {ls : Lcs} {st : List Value} {c n : Nat} {K : Nat → Nat × Nat} {I : Nat → Nat → Int32} {R : Nat → Nat → Option Nat} {L : Nat → Nat → Int64} {sz : Nat} {ex : Bool} {Q : Res → Mem → Prop} {x : Nat}  : X z 214 1183 ls (.ref x :: st) (c, n) (K, I, R, L, sz, ex) Q = ((K x).1 = 111 ∧ wsum st ≤ 8 ∧ c + 0 ≤ 601024 ∧ n + 0 ≤ 7293034 ∧ X z 105 0 [some (.ref x)] [] (0, 0) (K, I, R, L, sz, ex) (aftr (X z) mT 214 1183 ls st (c + 0, n + 0) Q)) := by
  rw [x214_1183]
  exact inv_v (As := []) (rm := mi214) (ry := mi105) rfl rfl (by decide) rfl rfl (Nat.le_of_ble_eq_true rfl) rfl rfl
theorem v214_1221 {z : P0} {ls : Lcs} {st : List Value} {c n : Nat} {K : Nat → Nat × Nat} {I : Nat → Nat → Int32} {R : Nat → Nat → Option Nat} {L : Nat → Nat → Int64} {sz : Nat} {ex : Bool} {Q : Res → Mem → Prop}  {a0 : Nat} {a1 : Int32} {a2 : Nat} : X z 214 1221 ls (.ref a2 :: .int a1 :: .ref a0 :: st) (c, n) (K, I, R, L, sz, ex) Q = (wsum st ≤ 8 ∧ c + 1 ≤ 601024 ∧ n + 6 ≤ 7293034 ∧ X z 209 0 [some (.ref a0), some (.int a1), some (.ref a2), none] [] (0, 0) (K, I, R, L, sz, ex) (aftr (X z) mT 214 1221 ls st (c + 1, n + 6) Q)) := by
  rw [x214_1221]
  exact inv_s (As := [.ref a0, .int a1, .ref a2]) (rm := mi214) (ry := mi209) rfl rfl (by decide) rfl rfl (Nat.le_of_ble_eq_true rfl) rfl (by decide) (by decide)
theorem v214_1233 {z : P0} {ls : Lcs} {st : List Value} {c n : Nat} {K : Nat → Nat × Nat} {I : Nat → Nat → Int32} {R : Nat → Nat → Option Nat} {L : Nat → Nat → Int64} {sz : Nat} {ex : Bool} {Q : Res → Mem → Prop} {x : Nat} {a0 : Int32} : X z 214 1233 ls (.int a0 :: .ref x :: st) (c, n) (K, I, R, L, sz, ex) Q = ((K x).1 = 111 ∧ wsum st ≤ 8 ∧ c + 0 ≤ 601024 ∧ n + 0 ≤ 7293034 ∧ X z 164 0 [some (.ref x), some (.int a0)] [] (0, 0) (K, I, R, L, sz, ex) (aftr (X z) mT 214 1233 ls st (c + 0, n + 0) Q)) := by
  rw [x214_1233]
  exact inv_v (As := [.int a0]) (rm := mi214) (ry := mi164) rfl rfl (by decide) rfl rfl (Nat.le_of_ble_eq_true rfl) rfl rfl
theorem v214_1239 {z : P0} {ls : Lcs} {st : List Value} {c n : Nat} {K : Nat → Nat × Nat} {I : Nat → Nat → Int32} {R : Nat → Nat → Option Nat} {L : Nat → Nat → Int64} {sz : Nat} {ex : Bool} {Q : Res → Mem → Prop} {x : Nat}  : X z 214 1239 ls (.ref x :: st) (c, n) (K, I, R, L, sz, ex) Q = ((K x).1 = 111 ∧ wsum st ≤ 8 ∧ c + 0 ≤ 601024 ∧ n + 0 ≤ 7293034 ∧ X z 105 0 [some (.ref x)] [] (0, 0) (K, I, R, L, sz, ex) (aftr (X z) mT 214 1239 ls st (c + 0, n + 0) Q)) := by
  rw [x214_1239]
  exact inv_v (As := []) (rm := mi214) (ry := mi105) rfl rfl (by decide) rfl rfl (Nat.le_of_ble_eq_true rfl) rfl rfl
theorem v214_1277 {z : P0} {ls : Lcs} {st : List Value} {c n : Nat} {K : Nat → Nat × Nat} {I : Nat → Nat → Int32} {R : Nat → Nat → Option Nat} {L : Nat → Nat → Int64} {sz : Nat} {ex : Bool} {Q : Res → Mem → Prop}  {a0 : Nat} {a1 : Int32} {a2 : Nat} : X z 214 1277 ls (.ref a2 :: .int a1 :: .ref a0 :: st) (c, n) (K, I, R, L, sz, ex) Q = (wsum st ≤ 8 ∧ c + 1 ≤ 601024 ∧ n + 6 ≤ 7293034 ∧ X z 210 0 [some (.ref a0), some (.int a1), some (.ref a2), none] [] (0, 0) (K, I, R, L, sz, ex) (aftr (X z) mT 214 1277 ls st (c + 1, n + 6) Q)) := by
  rw [x214_1277]
  exact inv_s (As := [.ref a0, .int a1, .ref a2]) (rm := mi214) (ry := mi210) rfl rfl (by decide) rfl rfl (Nat.le_of_ble_eq_true rfl) rfl (by decide) (by decide)
theorem v214_1289 {z : P0} {ls : Lcs} {st : List Value} {c n : Nat} {K : Nat → Nat × Nat} {I : Nat → Nat → Int32} {R : Nat → Nat → Option Nat} {L : Nat → Nat → Int64} {sz : Nat} {ex : Bool} {Q : Res → Mem → Prop} {x : Nat} {a0 : Int32} : X z 214 1289 ls (.int a0 :: .ref x :: st) (c, n) (K, I, R, L, sz, ex) Q = ((K x).1 = 111 ∧ wsum st ≤ 8 ∧ c + 0 ≤ 601024 ∧ n + 0 ≤ 7293034 ∧ X z 166 0 [some (.ref x), some (.int a0)] [] (0, 0) (K, I, R, L, sz, ex) (aftr (X z) mT 214 1289 ls st (c + 0, n + 0) Q)) := by
  rw [x214_1289]
  exact inv_v (As := [.int a0]) (rm := mi214) (ry := mi166) rfl rfl (by decide) rfl rfl (Nat.le_of_ble_eq_true rfl) rfl rfl
theorem v214_1295 {z : P0} {ls : Lcs} {st : List Value} {c n : Nat} {K : Nat → Nat × Nat} {I : Nat → Nat → Int32} {R : Nat → Nat → Option Nat} {L : Nat → Nat → Int64} {sz : Nat} {ex : Bool} {Q : Res → Mem → Prop} {x : Nat}  : X z 214 1295 ls (.ref x :: st) (c, n) (K, I, R, L, sz, ex) Q = ((K x).1 = 111 ∧ wsum st ≤ 8 ∧ c + 0 ≤ 601024 ∧ n + 0 ≤ 7293034 ∧ X z 105 0 [some (.ref x)] [] (0, 0) (K, I, R, L, sz, ex) (aftr (X z) mT 214 1295 ls st (c + 0, n + 0) Q)) := by
  rw [x214_1295]
  exact inv_v (As := []) (rm := mi214) (ry := mi105) rfl rfl (by decide) rfl rfl (Nat.le_of_ble_eq_true rfl) rfl rfl
theorem v214_1333 {z : P0} {ls : Lcs} {st : List Value} {c n : Nat} {K : Nat → Nat × Nat} {I : Nat → Nat → Int32} {R : Nat → Nat → Option Nat} {L : Nat → Nat → Int64} {sz : Nat} {ex : Bool} {Q : Res → Mem → Prop}  {a0 : Nat} {a1 : Int32} {a2 : Nat} : X z 214 1333 ls (.ref a2 :: .int a1 :: .ref a0 :: st) (c, n) (K, I, R, L, sz, ex) Q = (wsum st ≤ 8 ∧ c + 1 ≤ 601024 ∧ n + 6 ≤ 7293034 ∧ X z 211 0 [some (.ref a0), some (.int a1), some (.ref a2), none] [] (0, 0) (K, I, R, L, sz, ex) (aftr (X z) mT 214 1333 ls st (c + 1, n + 6) Q)) := by
  rw [x214_1333]
  exact inv_s (As := [.ref a0, .int a1, .ref a2]) (rm := mi214) (ry := mi211) rfl rfl (by decide) rfl rfl (Nat.le_of_ble_eq_true rfl) rfl (by decide) (by decide)
theorem v214_1345 {z : P0} {ls : Lcs} {st : List Value} {c n : Nat} {K : Nat → Nat × Nat} {I : Nat → Nat → Int32} {R : Nat → Nat → Option Nat} {L : Nat → Nat → Int64} {sz : Nat} {ex : Bool} {Q : Res → Mem → Prop} {x : Nat} {a0 : Int32} : X z 214 1345 ls (.int a0 :: .ref x :: st) (c, n) (K, I, R, L, sz, ex) Q = ((K x).1 = 111 ∧ wsum st ≤ 8 ∧ c + 0 ≤ 601024 ∧ n + 0 ≤ 7293034 ∧ X z 167 0 [some (.ref x), some (.int a0)] [] (0, 0) (K, I, R, L, sz, ex) (aftr (X z) mT 214 1345 ls st (c + 0, n + 0) Q)) := by
  rw [x214_1345]
  exact inv_v (As := [.int a0]) (rm := mi214) (ry := mi167) rfl rfl (by decide) rfl rfl (Nat.le_of_ble_eq_true rfl) rfl rfl
theorem v214_1351 {z : P0} {ls : Lcs} {st : List Value} {c n : Nat} {K : Nat → Nat × Nat} {I : Nat → Nat → Int32} {R : Nat → Nat → Option Nat} {L : Nat → Nat → Int64} {sz : Nat} {ex : Bool} {Q : Res → Mem → Prop} {x : Nat}  : X z 214 1351 ls (.ref x :: st) (c, n) (K, I, R, L, sz, ex) Q = ((K x).1 = 111 ∧ wsum st ≤ 8 ∧ c + 0 ≤ 601024 ∧ n + 0 ≤ 7293034 ∧ X z 105 0 [some (.ref x)] [] (0, 0) (K, I, R, L, sz, ex) (aftr (X z) mT 214 1351 ls st (c + 0, n + 0) Q)) := by
  rw [x214_1351]
  exact inv_v (As := []) (rm := mi214) (ry := mi105) rfl rfl (by decide) rfl rfl (Nat.le_of_ble_eq_true rfl) rfl rfl
theorem v214_1401 {z : P0} {ls : Lcs} {st : List Value} {c n : Nat} {K : Nat → Nat × Nat} {I : Nat → Nat → Int32} {R : Nat → Nat → Option Nat} {L : Nat → Nat → Int64} {sz : Nat} {ex : Bool} {Q : Res → Mem → Prop}  {a0 : Nat} {a1 : Int32} {a2 : Int32} {a3 : Int32} {a4 : Nat} : X z 214 1401 ls (.ref a4 :: .int a3 :: .int a2 :: .int a1 :: .ref a0 :: st) (c, n) (K, I, R, L, sz, ex) Q = (wsum st ≤ 8 ∧ c + 1 ≤ 601024 ∧ n + 6 ≤ 7293034 ∧ X z 212 0 [some (.ref a0), some (.int a1), some (.int a2), some (.int a3), some (.ref a4), none] [] (0, 0) (K, I, R, L, sz, ex) (aftr (X z) mT 214 1401 ls st (c + 1, n + 6) Q)) := by
  rw [x214_1401]
  exact inv_s (As := [.ref a0, .int a1, .int a2, .int a3, .ref a4]) (rm := mi214) (ry := mi212) rfl rfl (by decide) rfl rfl (Nat.le_of_ble_eq_true rfl) rfl (by decide) (by decide)
theorem v214_1425 {z : P0} {ls : Lcs} {st : List Value} {c n : Nat} {K : Nat → Nat × Nat} {I : Nat → Nat → Int32} {R : Nat → Nat → Option Nat} {L : Nat → Nat → Int64} {sz : Nat} {ex : Bool} {Q : Res → Mem → Prop} {x : Nat} {a0 : Int32} {a1 : Int32} {a2 : Int32} : X z 214 1425 ls (.int a2 :: .int a1 :: .int a0 :: .ref x :: st) (c, n) (K, I, R, L, sz, ex) Q = ((K x).1 = 111 ∧ wsum st ≤ 8 ∧ c + 0 ≤ 601024 ∧ n + 0 ≤ 7293034 ∧ X z 169 0 [some (.ref x), some (.int a0), some (.int a1), some (.int a2)] [] (0, 0) (K, I, R, L, sz, ex) (aftr (X z) mT 214 1425 ls st (c + 0, n + 0) Q)) := by
  rw [x214_1425]
  exact inv_v (As := [.int a0, .int a1, .int a2]) (rm := mi214) (ry := mi169) rfl rfl (by decide) rfl rfl (Nat.le_of_ble_eq_true rfl) rfl rfl
theorem v214_1431 {z : P0} {ls : Lcs} {st : List Value} {c n : Nat} {K : Nat → Nat × Nat} {I : Nat → Nat → Int32} {R : Nat → Nat → Option Nat} {L : Nat → Nat → Int64} {sz : Nat} {ex : Bool} {Q : Res → Mem → Prop} {x : Nat}  : X z 214 1431 ls (.ref x :: st) (c, n) (K, I, R, L, sz, ex) Q = ((K x).1 = 111 ∧ wsum st ≤ 8 ∧ c + 0 ≤ 601024 ∧ n + 0 ≤ 7293034 ∧ X z 105 0 [some (.ref x)] [] (0, 0) (K, I, R, L, sz, ex) (aftr (X z) mT 214 1431 ls st (c + 0, n + 0) Q)) := by
  rw [x214_1431]
  exact inv_v (As := []) (rm := mi214) (ry := mi105) rfl rfl (by decide) rfl rfl (Nat.le_of_ble_eq_true rfl) rfl rfl
theorem v214_1462 {z : P0} {ls : Lcs} {st : List Value} {c n : Nat} {K : Nat → Nat × Nat} {I : Nat → Nat → Int32} {R : Nat → Nat → Option Nat} {L : Nat → Nat → Int64} {sz : Nat} {ex : Bool} {Q : Res → Mem → Prop} {x : Nat}  : X z 214 1462 ls (.ref x :: st) (c, n) (K, I, R, L, sz, ex) Q = ((K x).1 = 110 ∧ wsum st ≤ 8 ∧ c + 0 ≤ 601024 ∧ n + 0 ≤ 7293034 ∧ X z 80 0 [some (.ref x), none, none, none, none, none, none] [] (0, 0) (K, I, R, L, sz, ex) (aftr (X z) mT 214 1462 ls st (c + 0, n + 0) Q)) := by
  rw [x214_1462]
  exact inv_v (As := []) (rm := mi214) (ry := mi80) rfl rfl (by decide) rfl rfl (Nat.le_of_ble_eq_true rfl) rfl rfl
theorem v214_1466 {z : P0} {ls : Lcs} {st : List Value} {c n : Nat} {K : Nat → Nat × Nat} {I : Nat → Nat → Int32} {R : Nat → Nat → Option Nat} {L : Nat → Nat → Int64} {sz : Nat} {ex : Bool} {Q : Res → Mem → Prop} {x : Nat}  : X z 214 1466 ls (.ref x :: st) (c, n) (K, I, R, L, sz, ex) Q = ((K x).1 = 111 ∧ wsum st ≤ 8 ∧ c + 0 ≤ 601024 ∧ n + 0 ≤ 7293034 ∧ X z 171 0 [some (.ref x)] [] (0, 0) (K, I, R, L, sz, ex) (aftr (X z) mT 214 1466 ls st (c + 0, n + 0) Q)) := by
  rw [x214_1466]
  exact inv_v (As := []) (rm := mi214) (ry := mi171) rfl rfl (by decide) rfl rfl (Nat.le_of_ble_eq_true rfl) rfl rfl
theorem v214_1475 {z : P0} {ls : Lcs} {st : List Value} {c n : Nat} {K : Nat → Nat × Nat} {I : Nat → Nat → Int32} {R : Nat → Nat → Option Nat} {L : Nat → Nat → Int64} {sz : Nat} {ex : Bool} {Q : Res → Mem → Prop} {x : Nat}  : X z 214 1475 ls (.ref x :: st) (c, n) (K, I, R, L, sz, ex) Q = ((K x).1 = 110 ∧ wsum st ≤ 8 ∧ c + 0 ≤ 601024 ∧ n + 0 ≤ 7293034 ∧ X z 81 0 [some (.ref x)] [] (0, 0) (K, I, R, L, sz, ex) (aftr (X z) mT 214 1475 ls st (c + 0, n + 0) Q)) := by
  rw [x214_1475]
  exact inv_v (As := []) (rm := mi214) (ry := mi81) rfl rfl (by decide) rfl rfl (Nat.le_of_ble_eq_true rfl) rfl rfl
theorem v214_1479 {z : P0} {ls : Lcs} {st : List Value} {c n : Nat} {K : Nat → Nat × Nat} {I : Nat → Nat → Int32} {R : Nat → Nat → Option Nat} {L : Nat → Nat → Int64} {sz : Nat} {ex : Bool} {Q : Res → Mem → Prop} {x : Nat}  : X z 214 1479 ls (.ref x :: st) (c, n) (K, I, R, L, sz, ex) Q = ((K x).1 = 111 ∧ wsum st ≤ 8 ∧ c + 0 ≤ 601024 ∧ n + 0 ≤ 7293034 ∧ X z 173 0 [some (.ref x)] [] (0, 0) (K, I, R, L, sz, ex) (aftr (X z) mT 214 1479 ls st (c + 0, n + 0) Q)) := by
  rw [x214_1479]
  exact inv_v (As := []) (rm := mi214) (ry := mi173) rfl rfl (by decide) rfl rfl (Nat.le_of_ble_eq_true rfl) rfl rfl
theorem v214_1495 {z : P0} {ls : Lcs} {st : List Value} {c n : Nat} {K : Nat → Nat × Nat} {I : Nat → Nat → Int32} {R : Nat → Nat → Option Nat} {L : Nat → Nat → Int64} {sz : Nat} {ex : Bool} {Q : Res → Mem → Prop}  {a0 : Nat} {a1 : Int32} {a2 : Nat} : X z 214 1495 ls (.ref a2 :: .int a1 :: .ref a0 :: st) (c, n) (K, I, R, L, sz, ex) Q = (wsum st ≤ 8 ∧ c + 1 ≤ 601024 ∧ n + 6 ≤ 7293034 ∧ X z 213 0 [some (.ref a0), some (.int a1), some (.ref a2), none] [] (0, 0) (K, I, R, L, sz, ex) (aftr (X z) mT 214 1495 ls st (c + 1, n + 6) Q)) := by
  rw [x214_1495]
  exact inv_s (As := [.ref a0, .int a1, .ref a2]) (rm := mi214) (ry := mi213) rfl rfl (by decide) rfl rfl (Nat.le_of_ble_eq_true rfl) rfl (by decide) (by decide)
theorem v214_1507 {z : P0} {ls : Lcs} {st : List Value} {c n : Nat} {K : Nat → Nat × Nat} {I : Nat → Nat → Int32} {R : Nat → Nat → Option Nat} {L : Nat → Nat → Int64} {sz : Nat} {ex : Bool} {Q : Res → Mem → Prop} {x : Nat} {a0 : Int32} : X z 214 1507 ls (.int a0 :: .ref x :: st) (c, n) (K, I, R, L, sz, ex) Q = ((K x).1 = 111 ∧ wsum st ≤ 8 ∧ c + 0 ≤ 601024 ∧ n + 0 ≤ 7293034 ∧ X z 175 0 [some (.ref x), some (.int a0)] [] (0, 0) (K, I, R, L, sz, ex) (aftr (X z) mT 214 1507 ls st (c + 0, n + 0) Q)) := by
  rw [x214_1507]
  exact inv_v (As := [.int a0]) (rm := mi214) (ry := mi175) rfl rfl (by decide) rfl rfl (Nat.le_of_ble_eq_true rfl) rfl rfl
theorem v214_1513 {z : P0} {ls : Lcs} {st : List Value} {c n : Nat} {K : Nat → Nat × Nat} {I : Nat → Nat → Int32} {R : Nat → Nat → Option Nat} {L : Nat → Nat → Int64} {sz : Nat} {ex : Bool} {Q : Res → Mem → Prop} {x : Nat}  : X z 214 1513 ls (.ref x :: st) (c, n) (K, I, R, L, sz, ex) Q = ((K x).1 = 111 ∧ wsum st ≤ 8 ∧ c + 0 ≤ 601024 ∧ n + 0 ≤ 7293034 ∧ X z 105 0 [some (.ref x)] [] (0, 0) (K, I, R, L, sz, ex) (aftr (X z) mT 214 1513 ls st (c + 0, n + 0) Q)) := by
  rw [x214_1513]
  exact inv_v (As := []) (rm := mi214) (ry := mi105) rfl rfl (by decide) rfl rfl (Nat.le_of_ble_eq_true rfl) rfl rfl
theorem v214_1544 {z : P0} {ls : Lcs} {st : List Value} {c n : Nat} {K : Nat → Nat × Nat} {I : Nat → Nat → Int32} {R : Nat → Nat → Option Nat} {L : Nat → Nat → Int64} {sz : Nat} {ex : Bool} {Q : Res → Mem → Prop} {x : Nat}  : X z 214 1544 ls (.ref x :: st) (c, n) (K, I, R, L, sz, ex) Q = ((K x).1 = 110 ∧ wsum st ≤ 8 ∧ c + 0 ≤ 601024 ∧ n + 0 ≤ 7293034 ∧ X z 83 0 [some (.ref x)] [] (0, 0) (K, I, R, L, sz, ex) (aftr (X z) mT 214 1544 ls st (c + 0, n + 0) Q)) := by
  rw [x214_1544]
  exact inv_v (As := []) (rm := mi214) (ry := mi83) rfl rfl (by decide) rfl rfl (Nat.le_of_ble_eq_true rfl) rfl rfl
theorem v214_1550 {z : P0} {ls : Lcs} {st : List Value} {c n : Nat} {K : Nat → Nat × Nat} {I : Nat → Nat → Int32} {R : Nat → Nat → Option Nat} {L : Nat → Nat → Int64} {sz : Nat} {ex : Bool} {Q : Res → Mem → Prop} {x : Nat}  : X z 214 1550 ls (.ref x :: st) (c, n) (K, I, R, L, sz, ex) Q = ((K x).1 = 111 ∧ wsum st ≤ 8 ∧ c + 0 ≤ 601024 ∧ n + 0 ≤ 7293034 ∧ X z 177 0 [some (.ref x)] [] (0, 0) (K, I, R, L, sz, ex) (aftr (X z) mT 214 1550 ls st (c + 0, n + 0) Q)) := by
  rw [x214_1550]
  exact inv_v (As := []) (rm := mi214) (ry := mi177) rfl rfl (by decide) rfl rfl (Nat.le_of_ble_eq_true rfl) rfl rfl
theorem v214_1585 {z : P0} {ls : Lcs} {st : List Value} {c n : Nat} {K : Nat → Nat × Nat} {I : Nat → Nat → Int32} {R : Nat → Nat → Option Nat} {L : Nat → Nat → Int64} {sz : Nat} {ex : Bool} {Q : Res → Mem → Prop} {x : Nat}  : X z 214 1585 ls (.ref x :: st) (c, n) (K, I, R, L, sz, ex) Q = ((K x).1 = 110 ∧ wsum st ≤ 8 ∧ c + 0 ≤ 601024 ∧ n + 0 ≤ 7293034 ∧ X z 84 0 [some (.ref x), none, none, none] [] (0, 0) (K, I, R, L, sz, ex) (aftr (X z) mT 214 1585 ls st (c + 0, n + 0) Q)) := by
  rw [x214_1585]
  exact inv_v (As := []) (rm := mi214) (ry := mi84) rfl rfl (by decide) rfl rfl (Nat.le_of_ble_eq_true rfl) rfl rfl
theorem v214_1589 {z : P0} {ls : Lcs} {st : List Value} {c n : Nat} {K : Nat → Nat × Nat} {I : Nat → Nat → Int32} {R : Nat → Nat → Option Nat} {L : Nat → Nat → Int64} {sz : Nat} {ex : Bool} {Q : Res → Mem → Prop} {x : Nat}  : X z 214 1589 ls (.ref x :: st) (c, n) (K, I, R, L, sz, ex) Q = ((K x).1 = 111 ∧ wsum st ≤ 8 ∧ c + 0 ≤ 601024 ∧ n + 0 ≤ 7293034 ∧ X z 181 0 [some (.ref x), none] [] (0, 0) (K, I, R, L, sz, ex) (aftr (X z) mT 214 1589 ls st (c + 0, n + 0) Q)) := by
  rw [x214_1589]
  exact inv_v (As := []) (rm := mi214) (ry := mi181) rfl rfl (by decide) rfl rfl (Nat.le_of_ble_eq_true rfl) rfl rfl
