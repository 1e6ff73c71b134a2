/-! THE CLASS: the digest -/
section CV
variable {z : P0} {KL : Nat → Nat × Nat} {RL : Nat → Nat → Option Nat} {q : Nat → Nat} {b : Nat} {I : Nat → Nat → Int32} {L : Nat → Nat → Int64} {sz : Nat} {ex : Bool} {Q : Res → Mem → Prop} {A : Row}
variable {n : Nat} {H : Nat → Row} {B : List Nat} {h : Int64}
theorem flatF_s {f : Nat → List Nat} {i d : Nat} : flatF f i (d + 1) = f i ++ flatF f (i + 1) d := rfl
theorem segF_s {f : Nat → Nat} {i d : Nat} : segF f i (d + 1) = f i :: segF f (i + 1) d := rfl
theorem MZ.ag {p : Nat} {P : Nat → Nat → Prop} {I' : Nat → Nat → Int32} (hg : Good A) (h : MZ b I p A) (ha : Ag P b I I') (hP : ∀ o j, P o j → ¬ (p ≤ o ∧ o < p + 46)) : MZ b I' p A := by
  have h6 := hg.1.1
  have gl := grps_le hg
  have k : ∀ o j, p ≤ o → o < p + 46 → I' (ad b o) j = I (ad b o) j := fun o j h1 h2 => ha.at (fun x => hP _ _ x ⟨h1, h2⟩)
  obtain ⟨⟨d0, d1⟩, d2, d3, t0, t1, t2, t3⟩ := h
  refine ⟨⟨(k _ _ (by omega) (by omega)).trans d0, fun j hj => ⟨⟨(k _ _ (by omega) (by omega)).trans (d1 j hj).1.1, fun i hi => (k _ _ (by omega) (by omega)).trans ((d1 j hj).1.2 i hi)⟩, (k _ _ (by omega) (by omega)).trans (d1 j hj).2⟩⟩, fun j hj => ⟨(k _ _ (by omega) (by omega)).trans (d2 j hj).1, (k _ _ (by omega) (by omega)).trans (d2 j hj).2.1, (k _ _ (by omega) (by omega)).trans (d2 j hj).2.2⟩, fun i hi => ⟨(k _ _ (by omega) (by omega)).trans (d3 i hi).1, (k _ _ (by omega) (by omega)).trans (d3 i hi).2⟩, (k _ _ (by omega) (by omega)).trans t0, (k _ _ (by omega) (by omega)).trans t1, (k _ _ (by omega) (by omega)).trans t2, (k _ _ (by omega) (by omega)).trans t3⟩
def wcl (A : Row) (w k : Nat) : Nat := worV A w (if k < 4 then k else 6 + k)
theorem segF_app {f : Nat → Nat} : ∀ d i e, segF f i (d + e) = segF f i d ++ segF f (i + d) e
  | 0, i, e => by rw [Nat.zero_add]; rfl
  | d + 1, i, e => by rw [show d + 1 + e = (d + e) + 1 by omega, segF_s, segF_app d (i + 1) e, segF_s, List.cons_append, show i + 1 + d = i + (d + 1) by omega]
def pDg (o j : Nat) : Prop := pCz o j
end CV
