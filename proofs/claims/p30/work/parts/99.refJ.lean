/-! THE REFERENCE: its whole state; saving -/
/-- a state: the row, how many rows are saved, the saved rows, the buffer -/
abbrev Wd : Type := Row × Nat × (Nat → Row) × List Nat
def RS (b : Nat) (I : Nat → Nat → Int32) (w : Wd) : Prop := RZ b I w.1 ∧ (I (ad b 566) 1 = nI w.2.1 ∧ w.2.1 ≤ 6) ∧ (∀ j, j < w.2.1 → ∀ k, k < 473 → I (ad b 568) (473 * j + k) = nI (w.2.2.1 j k) ∧ w.2.2.1 j k < 4294967296) ∧ I (ad b 566) 3 = nI w.2.2.2.length ∧ w.2.2.2.length ≤ 60 ∧ (∀ k, k < w.2.2.2.length → I (ad b 569) k = nI (w.2.2.2.getD k 0)) ∧ ∀ c ∈ w.2.2.2, 33 ≤ c ∧ c ≤ 126
def svN (n : Nat) : Nat := if n = 6 then 6 else n + 1
def svH (A : Row) (n : Nat) (H : Nat → Row) : Nat → Row := if n = 6 then fun j => if j = 5 then A else H (j + 1) else fun j => if j = n then A else H j
def GoodW (w : Wd) : Prop := Good w.1 ∧ ∀ j, j < w.2.1 → Good (w.2.2.1 j)
def pRef (o _j : Nat) : Prop := 566 ≤ o ∧ o ≤ 576
def pSv (o j : Nat) : Prop := o = 568 ∨ (o = 566 ∧ j = 1)
section RJ
variable {z : P0} {KL : Nat → Nat × Nat} {RL : Nat → Nat → Option Nat} {q : Nat → Nat} {b : Nat} {I : Nat → Nat → Int32} {L : Nat → Nat → Int64} {sz : Nat} {ex : Bool} {Q : Res → Mem → Prop} {A : Row}
variable {n : Nat} {H : Nat → Row} {B : List Nat}
theorem RS.rz {w : Wd} (h : RS b I w) : RZ b I w.1 := h.1
theorem RS.ag {w : Wd} {P : Nat → Nat → Prop} {I' : Nat → Nat → Int32} (h : RS b I w) (hg : Ag P b I I') (hP : ∀ o j, P o j → o ≠ 567 ∧ o ≠ 568 ∧ o ≠ 569 ∧ ¬ (o = 566 ∧ (j = 1 ∨ j = 3))) : RS b I' w := by
  obtain ⟨h1, ⟨h2, h3⟩, h4, h5, h6, h7, h8⟩ := h
  exact ⟨h1.ag hg (fun j x => (hP _ _ x).1 rfl), ⟨(hg.at (fun x => (hP _ _ x).2.2.2 ⟨rfl, Or.inl rfl⟩)).trans h2, h3⟩, fun j hj k hk => ⟨(hg.at (fun x => (hP _ _ x).2.1 rfl)).trans (h4 j hj k hk).1, (h4 j hj k hk).2⟩, (hg.at (fun x => (hP _ _ x).2.2.2 ⟨rfl, Or.inr rfl⟩)).trans h5, h6, fun k hk => (hg.at (fun x => (hP _ _ x).2.2.1 rfl)).trans (h7 k hk), h8⟩
def pThr (o j : Nat) : Prop := o = 566 ∧ j = 5
theorem agThr {v : Int32} : Ag pThr b I (up2 I (ad b 566) 5 v) := Ag.rf.up ⟨rfl, rfl⟩
theorem RS.thr {w : Wd} {v : Int32} (h : RS b I w) : RS b (up2 I (ad b 566) 5 v) w := h.ag agThr (fun o j x => by unfold pThr at x; omega)
theorem RS.scr {w : Wd} {I' : Nat → Nat → Int32} (h : RS b I w) (hg : Ag pScr b I I') : RS b I' w := h.ag hg (fun o j x => by unfold pScr at x; omega)
theorem RS.setz {k v : Nat} (h : RS b I (A, n, H, B)) (hk : k < 473) (hv : v < 4294967296) : RS b (up2 I (ad b 567) k (nI v)) (upr A k v, n, H, B) := by
  obtain ⟨h1, ⟨h2, h3⟩, h4, h5, h6, h7, h8⟩ := h
  refine ⟨fun j hj => ?_, ⟨by rw [up_n (by omega)]; exact h2, h3⟩, fun j hj i hi => ⟨by rw [up_n (by omega)]; exact (h4 j hj i hi).1, (h4 j hj i hi).2⟩, by rw [up_n (by omega)]; exact h5, h6, fun i hi => by rw [up_n (by omega)]; exact h7 i hi, h8⟩
  by_cases e : j = k
  · subst e
    show _ = nI (upr A j v j) ∧ upr A j v j < _
    rw [upr_s, up_s]
    exact ⟨rfl, hv⟩
  · show _ = nI (upr A k v j) ∧ upr A k v j < _
    rw [upr_n e, up_n (by omega)]
    exact h1 j hj
theorem RS.clr (h : RS b I (A, n, H, B)) : RS b (up2 I (ad b 566) 3 (nI 0)) (A, n, H, []) := by
  obtain ⟨h1, ⟨h2, h3⟩, h4, h5, h6, h7, h8⟩ := h
  exact ⟨fun j hj => by rw [up_n (by omega)]; exact h1 j hj, ⟨by rw [up_n (by omega)]; exact h2, h3⟩, fun j hj i hi => ⟨by rw [up_n (by omega)]; exact (h4 j hj i hi).1, (h4 j hj i hi).2⟩, up_s, Nat.zero_le _, fun k hk => absurd hk (Nat.not_lt_zero _), fun c hc => absurd hc List.not_mem_nil⟩
theorem pSv_r : ∀ o j, pSv o j → pRef o j := fun o j h => by unfold pSv at h; unfold pRef; omega
theorem pThr_r : ∀ o j, pThr o j → pRef o j := fun o j h => by unfold pThr at h; unfold pRef; omega
theorem pScr_r : ∀ o j, pScr o j → pRef o j := fun o j h => by unfold pScr at h; unfold pRef; omega
theorem n_m32 (a : Nat) : nI (a % 4294967296) = nI a := Int32.toBitVec_inj.mp (by rw [nI_bv, nI_bv]; apply BitVec.eq_of_toNat_eq; rw [BitVec.toNat_ofNat, BitVec.toNat_ofNat]; omega)
end RJ
