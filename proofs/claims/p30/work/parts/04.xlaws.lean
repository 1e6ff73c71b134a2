/-! laws of the clean machine: it is a fixed point; what it says grows with Q -/
theorem stL_mono {ls : Lcs} {a : Nat} {v : Value} {f g : Lcs → Prop} (h : ∀ l, f l → g l) : stL ls a v f → stL ls a v g := fun x => ⟨x.1, x.2.1, h _ x.2.2⟩
theorem stL2_mono {ls : Lcs} {a : Nat} {v : Value} {f g : Lcs → Prop} (h : ∀ l, f l → g l) : stL2 ls a v f → stL2 ls a v g := fun x => ⟨x.1, x.2.1, h _ x.2.2⟩
theorem getL_mono {ls : Lcs} {a : Nat} {f g : Value → Prop} (h : ∀ v, f v → g v) : getL ls a f → getL ls a g := by
  unfold getL
  split
  · exact h _
  · exact id
theorem ldI_mono {f g : Int32 → Prop} (h : ∀ v, f v → g v) : ∀ v, ldI f v → ldI g v := fun v => by cases v <;> first | exact h _ | exact id
theorem ldJ_mono {f g : Int64 → Prop} (h : ∀ v, f v → g v) : ∀ v, ldJ f v → ldJ g v := fun v => by cases v <;> first | exact h _ | exact id
theorem ldD_mono {f g : UInt64 → Prop} (h : ∀ v, f v → g v) : ∀ v, ldD f v → ldD g v := fun v => by cases v <;> first | exact h _ | exact id
theorem ldA_mono {f g : Value → Prop} (h : ∀ v, f v → g v) : ∀ v, ldA f v → ldA g v := fun v => by cases v <;> first | exact h _ | exact id
theorem aftr_mono {M : Nat → Option MI} {k k' : Cont} (hk : ∀ m pc ls st cu σ Q, k m pc ls st cu σ Q → k' m pc ls st cu σ Q) {m pc : Nat} {ls : Lcs} {rest : List Value} {cu : Nat × Nat} {Q : Res → Mem → Prop} {r : Res} {σ : Mem} : aftr k M m pc ls rest cu Q r σ → aftr k' M m pc ls rest cu Q r σ := by
  unfold aftr
  rcases r with (_ | v) | x
  · exact hk _ _ _ _ _ _ _
  · exact hk _ _ _ _ _ _ _
  · dsimp only
    cases M m with
    | none => exact id
    | some r =>
      dsimp only
      cases hnd (mi_hh r) (mi_hx r) pc x with
      | none => exact id
      | some h => exact fun f q => hk _ _ _ _ _ _ _ (f q)
theorem callX_mono {M : Nat → Option MI} {k k' : Cont} (hk : ∀ m pc ls st cu σ Q, k m pc ls st cu σ Q → k' m pc ls st cu σ Q) {y m pc : Nat} {As rest : List Value} {ls : Lcs} {cu : Nat × Nat} {Q : Res → Mem → Prop} {σ : Mem} : callX k M y As rest m pc ls cu σ Q → callX k' M y As rest m pc ls cu σ Q := by
  unfold callX
  cases M y with
  | none => exact id
  | some ry =>
    cases M m with
    | none => exact id
    | some rm =>
      rintro ⟨h1, h2, h3, h4, h5, Q', h6, h7⟩
      exact ⟨h1, h2, h3, h4, h5, Q', hk _ _ _ _ _ _ _ h6, fun r τ hq => aftr_mono hk (h7 r τ hq)⟩
theorem ite_mono {c : Prop} {d : Decidable c} {p q p' q' : Prop} (h1 : p → p') (h2 : q → q') : (@ite _ c d p q) → (@ite _ c d p' q') := by
  by_cases h : c
  · rw [if_pos h, if_pos h]; exact h1
  · rw [if_neg h, if_neg h]; exact h2
set_option maxHeartbeats 4000000 in
theorem XI_mono {M : Nat → Option MI} {z : P0} {k k' : Cont} (hk : ∀ m pc ls st cu σ Q, k m pc ls st cu σ Q → k' m pc ls st cu σ Q) {e : AIn} {m pc : Nat} {ls : Lcs} {st : List Value} {cu : Nat × Nat} {σ : Mem} {Q : Res → Mem → Prop} : XI M z k e m pc ls st cu σ Q → XI M z k' e m pc ls st cu σ Q := by
  obtain ⟨ins, len, a, b, c, ts, w, q⟩ := e
  obtain ⟨K, I, R, L, sz, ex⟩ := σ
  have hk1 : ∀ {m pc ls st cu σ Q}, k m pc ls st cu σ Q → k' m pc ls st cu σ Q := fun h => hk _ _ _ _ _ _ _ h
  cases ins <;> dsimp only [XI] <;> first
    | exact id
    | exact hk1
    | exact getL_mono (ldA_mono fun _ => hk1)
    | exact getL_mono (ldI_mono fun _ => hk1)
    | exact getL_mono (ldJ_mono fun _ => hk1)
    | exact getL_mono (ldD_mono fun _ => hk1)
    | exact getL_mono (ldI_mono fun _ => stL_mono fun _ => hk1)
    | exact And.imp_right hk1
    | exact ite_mono hk1 (ite_mono hk1 hk1)
    | exact ite_mono hk1 (And.imp_right hk1)
    | exact ite_mono id (And.imp_right (And.imp_right hk1))
    | (refine ite_mono ?_ (And.imp_right (callX_mono hk))
       · split
         · rintro ⟨h1, h2, h3, h4, h5, h6, h7, h8, h9⟩; exact ⟨h1, h2, h3, h4, h5, h6, h7, h8, hk1 h9⟩
         · exact id)
    | (split <;> first
        | exact id
        | exact hk1
        | exact stL_mono fun _ => hk1
        | exact stL2_mono fun _ => hk1
        | exact And.imp_right hk1
        | exact And.imp_right (And.imp_right hk1)
        | exact And.imp_right (And.imp_right (And.imp_right hk1))
        | exact And.imp_right (And.imp_right (And.imp_right (And.imp_right hk1)))
        | exact And.imp_right (And.imp_right (And.imp_right (And.imp_right (And.imp_right hk1))))
        | exact And.imp (fun f h => hk1 (f h)) (fun f h => hk1 (f h))
        | exact fun h => h.elim (fun x => Or.inl ⟨x.1, hk1 x.2⟩) (fun x => Or.inr ⟨x.1, x.2.1, by obtain ⟨t, h1, h2⟩ := x.2.2; exact ⟨t, h1, hk1 h2⟩⟩)
        | (rintro ⟨t, h1, h2⟩; exact ⟨t, h1, hk1 h2⟩)
        | exact And.imp_right (callX_mono hk)
        | exact callX_mono hk
        | exact ite_mono (fun h => ⟨h.1, h.2.1, hk1 h.2.2⟩) (And.imp_right (callX_mono hk))
        | (rintro ⟨h1, h2, h3, h4, h5, h6, h7, h8, h9⟩; exact ⟨h1, h2, h3, h4, h5, h6, h7, h8, hk1 h9⟩))
theorem XS_mono {M : Nat → Option MI} {z : P0} {k k' : Cont} (hk : ∀ m pc ls st cu σ Q, k m pc ls st cu σ Q → k' m pc ls st cu σ Q) {m pc : Nat} {ls : Lcs} {st : List Value} {cu : Nat × Nat} {σ : Mem} {Q : Res → Mem → Prop} : XS M z k m pc ls st cu σ Q → XS M z k' m pc ls st cu σ Q := by
  unfold XS
  cases M m with
  | none => exact id
  | some r =>
    dsimp only
    cases lk (mi_tb r) pc with
    | none => exact id
    | some e => exact XI_mono hk
theorem XX_in {M : Nat → Option MI} {z : P0} {m pc : Nat} {ls : Lcs} {st : List Value} {cu : Nat × Nat} {σ : Mem} {Q : Res → Mem → Prop} (h : XS M z (XX M z) m pc ls st cu σ Q) : XX M z m pc ls st cu σ Q :=
  fun k hk => hk _ _ _ _ _ _ _ (XS_mono (fun _ _ _ _ _ _ _ h => h k hk) h)
theorem XX_out {M : Nat → Option MI} {z : P0} {m pc : Nat} {ls : Lcs} {st : List Value} {cu : Nat × Nat} {σ : Mem} {Q : Res → Mem → Prop} (h : XX M z m pc ls st cu σ Q) : XS M z (XX M z) m pc ls st cu σ Q :=
  h (XS M z (XX M z)) fun _ _ _ _ _ _ _ h => XS_mono (fun _ _ _ _ _ _ _ h => XX_in h) h
theorem X_at {z : P0} {m pc : Nat} {e : AIn} {r : MI} (h1 : mT m = some r) (h2 : lk (mi_tb r) pc = some e) : X z m pc = XI mT z (X z) e m pc := by
  funext ls st cu σ Q
  refine propext ⟨fun h => ?_, fun h => XX_in ?_⟩
  · have h := XX_out h
    unfold XS at h
    rw [h1] at h
    dsimp only at h
    rw [h2] at h
    exact h
  · unfold XS
    rw [h1]
    dsimp only
    rw [h2]
    exact h
