/-! THE REFERENCE: all letters laid; what they come to -/
def LZ (b : Nat) (I : Nat → Nat → Int32) (A : Row) : Prop := GZ b I (grps A).1 (grps A).2 ∧ (∀ j, j < A 6 → I (ad b 575) j = nI (lof A j)) ∧ ∀ k, k < (grps A).1 → I (ad b 572) k = nI (textT A ((grps A).2 k)).length ∧ I (ad b 573) k = nI (linesT A ((grps A).2 k)) ∧ I (ad b 574) k = nI (pagesT A ((grps A).2 k))
theorem grps_le {A : Row} (hg : Good A) : (grps A).1 ≤ A 6 := (okg (A := A) (by have := hg.2.1; omega) (A 6)).1
theorem grps_ok {A : Row} (hg : Good A) {k : Nat} (hk : k < (grps A).1) : OkL A ((grps A).2 k) := okL_of hg (okg (A := A) (by have := hg.2.1; omega) (A 6)) (Nat.le_refl _) hk
theorem lay_bd {A : Row} {g : List Nat} (hg : Good A) (h : OkL A g) : linesT A g ≤ 4000 ∧ pagesT A g ≤ 4000 := by
  have h1 := layF_bd (W := A 0) (H := A 1) hg.2.1.2.2.1 (textT A g) 0 0 none 0 0 (Nat.le_refl _) (Nat.le_refl _)
  have h2 := textT_len hg h
  unfold linesT pagesT layT
  omega
theorem lof_lt {A : Row} (hg : Good A) : ∀ (n p : Nat), p < n → reas A p (A 8) = 0 → lof A p < (grp A n).1 := by
  intro n
  induction n with
  | zero => intro p hp; exact absurd hp (Nat.not_lt_zero _)
  | succ n ih =>
    intro p hp hr
    by_cases e : p = n
    · subst e
      have gl := gix_le (A := A) (G := grp A p) (p := p)
      have e1 : grp A (p + 1) = insG A (grp A p) p := by show (if _ then _ else _) = _; rw [if_pos hr]
      rw [e1]
      unfold lof insG
      rw [if_pos hr]
      dsimp only
      split <;> omega
    · have h1 := ih p (by omega) hr
      have h2 : (grp A n).1 ≤ (grp A (n + 1)).1 := by
        show _ ≤ Prod.fst (if _ then _ else _)
        split
        · unfold insG; dsimp only; split <;> omega
        · exact Nat.le_refl _
      omega
section RI
variable {z : P0} {KL : Nat → Nat × Nat} {RL : Nat → Nat → Option Nat} {q : Nat → Nat} {b : Nat} {I : Nat → Nat → Int32} {L : Nat → Nat → Int64} {sz : Nat} {ex : Bool} {Q : Res → Mem → Prop} {A : Row}
variable {t : List Nat}
theorem pScr_z : ∀ j, ¬ pScr 567 j := fun j h => by unfold pScr at h; omega
theorem pTx_s : ∀ o j, pTx o j → pScr o j := fun o j h => by unfold pTx at h; unfold pScr; omega
theorem pGr_s : ∀ o j, pGr o j → pScr o j := fun o j h => by unfold pGr at h; unfold pScr; omega
theorem pLy_s {lt : Nat} : ∀ o j, pLy lt o j → pScr o j := fun o j h => by unfold pLy at h; unfold pScr; omega
theorem LZ.ag {P : Nat → Nat → Prop} {I' : Nat → Nat → Int32} (h : LZ b I A) (hg : Ag P b I I') (hP : ∀ o j, P o j → ¬ pScr o j) : LZ b I' A := by
  have k : ∀ {o j}, (570 ≤ o ∧ o ≤ 575) → I' (ad b o) j = I (ad b o) j := fun ho => hg.at (fun x => hP _ _ x (Or.inl (by omega)))
  refine ⟨⟨(hg.at (fun x => hP _ _ x (Or.inr ⟨rfl, Or.inl rfl⟩))).trans h.1.1, fun i hi => ⟨(k (by omega)).trans (h.1.2 i hi).1, (k (by omega)).trans (h.1.2 i hi).2⟩⟩, fun j hj => (k (by omega)).trans (h.2.1 j hj), fun i hi => ⟨(k (by omega)).trans (h.2.2 i hi).1, (k (by omega)).trans (h.2.2 i hi).2.1, (k (by omega)).trans (h.2.2 i hi).2.2⟩⟩
def totF (A : Row) (w k : Nat) : Nat := bif sentB A ((grps A).2 k) then (if w = 0 then 1 else if w = 1 then ((grps A).2 k).length else if w = 2 then pagesT A ((grps A).2 k) else pagesT A ((grps A).2 k) * A 5) else 0
end RI
