/-! THE REFERENCE: groups, all letters, sums -/
def GZ (b : Nat) (I : Nat → Nat → Int32) (n : Nat) (G : Nat → List Nat) : Prop := I (ad b 566) 12 = nI n ∧ ∀ k, k < n → I (ad b 570) k = nI (maskL (G k)) ∧ I (ad b 571) k = nI (G k).length
def pGr (o j : Nat) : Prop := (o = 566 ∧ j = 12) ∨ o = 570 ∨ o = 571 ∨ o = 575
def pGf (o j : Nat) : Prop := (o = 566 ∧ j = 12) ∨ o = 570 ∨ o = 571
theorem pGf_r : ∀ o j, pGf o j → pGr o j := fun o j h => by unfold pGf at h; unfold pGr; omega
theorem reas_le {A : Row} {p d : Nat} : reas A p d ≤ 3 := by unfold reas; split <;> (try split) <;> (try split) <;> omega
def pScr (o j : Nat) : Prop := (570 ≤ o ∧ o ≤ 576) ∨ (o = 566 ∧ (j = 12 ∨ (14 ≤ j ∧ j ≤ 17)))
theorem okL_of {A : Row} (hg : Good A) {n : Nat} {G : Grp} (h : OKG A n G) (hn : n ≤ A 6) {k : Nat} (hk : k < G.1) : OkL A (G.2 k) := by
  obtain ⟨b1, b2, b3, b4⟩ := h.2.2 k hk
  have h26 := hg.2.1
  refine ⟨b2, b1, fun x hx => by have := (b4 x hx).1; omega, by omega, fun hw x hx => ?_⟩
  have h1 := (b4 x hx).1
  have h2 := (b4 x hx).2.1
  rcases (hg.2.2.1 x (by omega)).2.2.1 with h3 | h3
  · unfold reas at h2
    split at h2
    · omega
    · split at h2
      · omega
      · rw [if_pos ⟨h3, hw⟩] at h2; omega
  · exact h3
theorem textF_lt {A : Row} {g : List Nat} (hg : Good A) (h : OkL A g) : ∀ (T : List Nat) (j : Bool), (∀ t ∈ T, okTok t ∧ (t = 375 → hasW A = true)) → ∀ c ∈ textF A g j T, c < 256
  | [], j, _, c, hc => by unfold textF at hc; exact absurd hc List.not_mem_nil
  | t :: r, j, ht, c, hc => by
    have ih := fun j c hc => textF_lt hg h r j (fun x hx => ht x (List.mem_cons_of_mem _ hx)) c hc
    have ht1 := ht t List.mem_cons_self
    have sq : ∀ (n : Nat) (L : List (List Nat)) (i : Nat), (∀ x ∈ L, ∀ c ∈ x, c < 256) → ∀ c ∈ seqL n i L, c < 256 := by
      intro n L
      induction L with
      | nil => intro i _ c hc; unfold seqL at hc; exact absurd hc List.not_mem_nil
      | cons x r ih2 =>
        intro i hx c hc
        rw [seqL_c] at hc
        rcases List.mem_append.mp hc with hc | hc
        · unfold sepL at hc
          split at hc
          · exact absurd hc List.not_mem_nil
          · split at hc <;> (have := List.mem_singleton.mp hc; omega)
        · rcases List.mem_append.mp hc with hc | hc
          · exact hx x List.mem_cons_self c hc
          · exact ih2 (i + 1) (fun y hy => hx y (List.mem_cons_of_mem _ hy)) c hc
    unfold textF at hc
    split at hc
    · exact ih _ c hc
    · split at hc
      · exact ih _ c hc
      · rcases List.mem_append.mp hc with hc | hc
        · split at hc
          · split at hc
            · have := List.mem_singleton.mp hc; omega
            · unfold fieldT at hc
              split at hc
              · unfold namesT at hc
                refine sq _ _ _ (fun x hx c hc => ?_) c hc
                obtain ⟨p, hp, rfl⟩ := List.mem_map.mp hx
                obtain ⟨k, hk, rfl⟩ := (segF_mem _ _).mp hc
                have := (hg.2.2.1 p (h.2.2.1 p hp)).2.2.2.2.2.2.2 k hk
                rw [Nat.zero_add]
                unfold isLet at this; omega
              · split at hc
                · unfold formT at hc
                  split at hc
                  · rcases List.mem_cons.mp hc with hc | hc
                    · rw [hc]; unfold fsign; split <;> (try split) <;> omega
                    · split at hc
                      · have := List.mem_singleton.mp hc; omega
                      · exact absurd hc List.not_mem_nil
                  · simp at hc; omega
                · split at hc
                  · next he =>
                    have hw := ht1.2 (by have := ht1.1; unfold okTok at this; omega)
                    unfold wordsT at hc
                    refine sq _ _ _ (fun x hx c hc => ?_) c hc
                    obtain ⟨w, hw1, rfl⟩ := List.mem_map.mp hx
                    obtain ⟨p, hp, rfl⟩ := nws_mem _ _ _ hw1
                    unfold wordT at hc
                    rcases List.mem_append.mp hc with hc | hc
                    · unfold artT at hc
                      split at hc
                      · simp at hc; omega
                      · split at hc <;> (simp at hc; omega)
                    · rcases List.mem_cons.mp hc with hc | hc
                      · omega
                      · obtain ⟨k, hk, rfl⟩ := (segF_mem _ _).mp hc
                        have := (hg.2.2.2.1 _ (h.2.2.2.2 hw p hp)).2.2.2 k hk
                        rw [Nat.zero_add]
                        unfold isLet at this; omega
                  · have := List.mem_singleton.mp hc
                    have := h.2.2.2.1
                    omega
          · exact absurd hc List.not_mem_nil
        · exact ih _ c hc
section RH
variable {z : P0} {KL : Nat → Nat × Nat} {RL : Nat → Nat → Option Nat} {q : Nat → Nat} {b : Nat} {I : Nat → Nat → Int32} {L : Nat → Nat → Int64} {sz : Nat} {ex : Bool} {Q : Res → Mem → Prop} {A : Row}
variable {t : List Nat} {G : Grp}
theorem pGr_z : ∀ j, ¬ pGr 567 j := fun j h => by unfold pGr at h; omega
theorem GZ.ag {n : Nat} {F : Nat → List Nat} {P : Nat → Nat → Prop} {I' : Nat → Nat → Int32} (h : GZ b I n F) (hg : Ag P b I I') (h1 : ¬ P 566 12) (h2 : ∀ j, ¬ P 570 j) (h3 : ∀ j, ¬ P 571 j) : GZ b I' n F := ⟨(hg.at h1).trans h.1, fun k hk => ⟨(hg.at (h2 k)).trans (h.2 k hk).1, (hg.at (h3 k)).trans (h.2 k hk).2⟩⟩
end RH
