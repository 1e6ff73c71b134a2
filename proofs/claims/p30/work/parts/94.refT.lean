/-! THE REFERENCE: the text of a letter -/
def pTx (o j : Nat) : Prop := o = 576 ∨ (o = 566 ∧ j = 14)
def OT (b : Nat) (I : Nat → Nat → Int32) (t : List Nat) : Prop := I (ad b 566) 14 = nI t.length ∧ ∀ k, k < t.length → I (ad b 576) k = nI (t.getD k 0)
theorem getD_snoc {t : List Nat} {c k : Nat} : (t ++ [c]).getD k 0 = if k < t.length then t.getD k 0 else if k = t.length then c else 0 := by
  by_cases h : k < t.length
  · rw [if_pos h, List.getD_eq_getElem?_getD, List.getElem?_append_left h, ← List.getD_eq_getElem?_getD]
  · rw [if_neg h, List.getD_eq_getElem?_getD, List.getElem?_append_right (by omega)]
    by_cases e : k = t.length
    · rw [if_pos e, e, Nat.sub_self]; rfl
    · rw [if_neg e]
      obtain ⟨j, hj⟩ : ∃ j, k - t.length = j + 1 := ⟨k - t.length - 1, by omega⟩
      rw [hj]; rfl
section RT
variable {z : P0} {KL : Nat → Nat × Nat} {RL : Nat → Nat → Option Nat} {q : Nat → Nat} {b : Nat} {I : Nat → Nat → Int32} {L : Nat → Nat → Int64} {sz : Nat} {ex : Bool} {Q : Res → Mem → Prop} {A : Row}
variable {t : List Nat}
theorem RZ.ag {P : Nat → Nat → Prop} {I' : Nat → Nat → Int32} (h : RZ b I A) (hg : Ag P b I I') (hP : ∀ j, ¬ P 567 j) : RZ b I' A := fun k hk => ⟨(hg.at (hP k)).trans (h k hk).1, (h k hk).2⟩
theorem pTx_z : ∀ j, ¬ pTx 567 j := fun j h => by unfold pTx at h; omega
theorem pTx_o {o j : Nat} (h : o ≠ 576 ∧ o ≠ 566) : ¬ pTx o j := fun x => by unfold pTx at x; omega
theorem seqL_c {n i : Nat} {x : List Nat} {r : List (List Nat)} : seqL n i (x :: r) = sepL i n ++ (x ++ seqL n (i + 1) r) := rfl
theorem nameL_len {p : Nat} : (nameL A p).length = A (133 + p) := segF_len _ _
theorem head_min {g : List Nat} (hs : g.Pairwise (· < ·)) (hne : g ≠ []) : g.headD 0 ∈ g ∧ ∀ j, j < g.headD 0 → j ∉ g := by
  cases g with
  | nil => exact absurd rfl hne
  | cons x r =>
    rw [List.pairwise_cons] at hs
    refine ⟨List.mem_cons_self, fun j hj hm => ?_⟩
    rw [List.headD_cons] at hj
    rcases List.mem_cons.mp hm with h | h
    · omega
    · have := hs.1 j h; omega
/-- whether all have the form f, as the reference asks it -/
def sam (A : Row) (f : Nat) : Nat → List Nat → Nat
  | s, [] => s
  | s, x :: r => sam A f (if s = 0 then 0 else if A (33 + x) = f then 1 else 0) r
theorem sam_0 {f : Nat} : ∀ g, sam A f 0 g = 0
  | [] => rfl
  | x :: r => by unfold sam; rw [if_pos rfl]; exact sam_0 r
theorem sam_1 {f : Nat} : ∀ g, sam A f 1 g = if g.all (fun p => A (33 + p) == f) = true then 1 else 0
  | [] => rfl
  | x :: r => by
    unfold sam
    rw [if_neg (by omega), List.all_cons]
    by_cases h : A (33 + x) = f
    · rw [if_pos h, sam_1 r, show (A (33 + x) == f) = true from beq_iff_eq.mpr h, Bool.true_and]
    · rw [if_neg h, sam_0, show (A (33 + x) == f) = false from beq_eq_false_iff_ne.mpr h, Bool.false_and]; rfl
theorem pTx_k {lt : Nat} {x : Int32} {I' : Nat → Nat → Int32} {o : Nat} (h : Ag pTx b I I') (ho : o ≠ 576 ∧ o ≠ 566) (m : I (ad b o) lt = x) : I' (ad b o) lt = x := (h.at (pTx_o ho)).trans m
end RT
