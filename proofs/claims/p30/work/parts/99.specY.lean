/-! THE REFERENCE: signs, members, counts, settings, what would be -/
def ownSet (A : Row) (k v : Nat) : Row := upr A k v
def opIfSet (w : Wd) (k v t : Nat) : Ans := if k ≤ 5 then (if okV k v = true ∧ t ≤ 3 then (0, totS (upr w.1 k v) t, w) else (2, 0, w)) else (1, 0, w)
theorem toks_set {A : Row} {k v : Nat} (hk : k ≤ 5) : toks (upr A k v) = toks A := by
  unfold toks
  rw [upr_n (by omega)]
  have key : ∀ d i, segF (fun j => upr A k v (413 + j)) i d = segF (fun j => A (413 + j)) i d := by
    intro d
    induction d with
    | zero => intro i; rfl
    | succ d ih => intro i; unfold segF; rw [ih, upr_n (by omega)]
  exact key _ _
theorem Good.set {A : Row} {k v : Nat} (hg : Good A) (hk : k ≤ 5) (hv : okV k v = true) : Good (upr A k v) := by
  obtain ⟨⟨a1, a2, a3, a4⟩, h2, h3, h4, h5, h6⟩ := hg
  have n6 : upr A k v 6 = A 6 := upr_n (by omega)
  have n7 : upr A k v 7 = A 7 := upr_n (by omega)
  have n8 : upr A k v 8 = A 8 := upr_n (by omega)
  have n12 : upr A k v 12 = A 12 := upr_n (by omega)
  have nn : ∀ j, 6 ≤ j → upr A k v j = A j := fun j hj => upr_n (by omega)
  refine ⟨⟨by rw [n6]; exact a1, by rw [n7]; exact a2, by rw [n12]; exact a3, by rw [n8]; exact a4⟩, ?_, fun i hi => ?_, fun w hw => ?_, fun j hj => ?_, ?_⟩
  · unfold okV at hv
    have key : ∀ j, upr A k v j = if j = k then v else A j := fun j => rfl
    simp only [key]
    rcases (show k = 0 ∨ k = 1 ∨ k = 2 ∨ k = 3 ∨ k = 4 ∨ k = 5 by omega) with rfl | rfl | rfl | rfl | rfl | rfl <;> simp at hv ⊢ <;> omega
  · rw [n6] at hi
    have := h3 i hi
    simp only [nn (13 + i) (by omega), nn (33 + i) (by omega), nn (53 + i) (by omega), nn (73 + i) (by omega), nn (93 + i) (by omega), nn (133 + i) (by omega), n7, n8]
    refine ⟨this.1, this.2.1, this.2.2.1, this.2.2.2.1, this.2.2.2.2.1, this.2.2.2.2.2.1, this.2.2.2.2.2.2.1, fun j hj => ?_⟩
    rw [nn (153 + 8 * i + j) (by omega)]
    exact this.2.2.2.2.2.2.2 j hj
  · rw [n7] at hw
    have := h4 w hw
    simp only [nn (313 + w) (by omega), nn (323 + w) (by omega)]
    refine ⟨this.1, this.2.1, this.2.2.1, fun j hj => ?_⟩
    rw [nn (333 + 8 * w + j) (by omega)]
    exact this.2.2.2 j hj
  · rw [n12] at hj
    rw [nn (413 + j) (by omega)]
    exact h5 j hj
  · unfold raw
    rw [toks_set hk]
    exact h6
theorem upr_back {A : Row} {k v : Nat} : upr (upr A k v) k (A k) = A := by
  funext j
  unfold upr
  by_cases h : j = k
  · rw [if_pos h, h]
  · rw [if_neg h, if_neg h]
theorem okV_le {k v : Nat} (h : okV k v = true) : v ≤ 40 := by
  unfold okV at h
  split at h
  · have := of_decide_eq_true h; omega
  · split at h
    · have := of_decide_eq_true h; omega
    · split at h
      · have := of_decide_eq_true h; omega
      · split at h
        · have := of_decide_eq_true h; omega
        · have := of_decide_eq_true h; omega
section OZ
variable {z : P0} {KL : Nat → Nat × Nat} {RL : Nat → Nat → Option Nat} {q : Nat → Nat} {b : Nat} {I : Nat → Nat → Int32} {L : Nat → Nat → Int64} {sz : Nat} {ex : Bool} {Q : Res → Mem → Prop} {A : Row}
variable {n : Nat} {H : Nat → Row} {B : List Nat}
def pSt (o _j : Nat) : Prop := o = 567 ∨ (570 ≤ o ∧ o ≤ 576) ∨ (o = 566 ∧ (_j = 12 ∨ (14 ≤ _j ∧ _j ≤ 17)))
theorem pSt_r : ∀ o j, pSt o j → pRef o j := fun o j h => by unfold pSt at h; unfold pRef; omega
theorem pScr_t : ∀ o j, pScr o j → pSt o j := fun o j h => by unfold pScr at h; unfold pSt; omega
end OZ
