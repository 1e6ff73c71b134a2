/-! THE REFERENCE: lines and pages; groups; all letters -/
theorem n_z {a : Nat} (h0 : 0 < a) (h : a < 2147483648) : (¬ nI a = 0) = True := eq_true (nI_ne0 h0 h)
theorem pgs_le {H n : Nat} (h : 1 ≤ H) : pgs H n ≤ n := by
  unfold pgs
  rcases n with _ | n
  · rw [Nat.div_eq_of_lt (by omega)]; exact Nat.zero_le _
  · rw [show n + 1 + H - 1 = n + H by omega, Nat.add_div_right _ (by omega)]
    have := Nat.div_le_self n H
    omega
theorem plN_le {W p : Nat} : plN W p ≤ p + 1 := by
  unfold plN
  have := Nat.div_le_self p W
  split <;> (try split) <;> omega
theorem plc_le {W l p : Nat} {u : Option Nat} : l ≤ (plc W l u p).1 ∧ (plc W l u p).1 ≤ l + p + 1 := by
  have := plN_le (W := W) (p := p)
  unfold plc
  split
  · split <;> dsimp only <;> omega
  · dsimp only; omega
theorem pl_step {W p : Nat} (hW : 1 ≤ W) (h : W < p) : plN W p = 1 + plN W (p - W) ∧ plU W p = plU W (p - W) := by
  have e1 : p / W = (p - W) / W + 1 := Nat.div_eq_sub_div (by omega) (by omega)
  have e2 : p % W = (p - W) % W := Nat.mod_eq_sub_mod (by omega)
  unfold plN plU
  have n1 : ¬ p ≤ W := by omega
  rw [if_neg n1, if_neg n1, e1, e2]
  by_cases h2 : p - W ≤ W
  · rw [if_pos h2, if_pos h2]
    by_cases h3 : p - W = W
    · have q1 : (p - W) / W = 1 := by rw [h3, Nat.div_self (by omega)]
      have q2 : (p - W) % W = 0 := by rw [h3, Nat.mod_self]
      rw [q1, q2, if_neg (Nat.lt_irrefl 0), if_neg (Nat.lt_irrefl 0)]
      omega
    · have q1 : (p - W) / W = 0 := Nat.div_eq_of_lt (by omega)
      have q2 : (p - W) % W = p - W := Nat.mod_eq_of_lt (by omega)
      have q3 : 0 < p - W := by omega
      rw [q1, q2, if_pos q3, if_pos q3]
      omega
  · rw [if_neg h2, if_neg h2]
    refine ⟨?_, rfl⟩
    rw [Nat.add_comm 1 _]
    exact Nat.add_right_comm _ _ _
theorem layF_bd {W H : Nat} (hH : 1 ≤ H) : ∀ (r : List Nat) (p l : Nat) (u : Option Nat) (pt pg : Nat), pg ≤ pt → pt ≤ l → (layF W H r p l u pt pg).1 ≤ l + p + 1 + 2 * r.length ∧ (layF W H r p l u pt pg).2 ≤ (layF W H r p l u pt pg).1
  | [], p, l, u, pt, pg, h1, h2 => by
    have := plc_le (W := W) (l := l) (p := p) (u := u)
    have := pgs_le (H := H) (n := (plc W l u p).1 - pt) hH
    unfold layF
    dsimp only
    omega
  | c :: r, p, l, u, pt, pg, h1, h2 => by
    have h3 := plc_le (W := W) (l := l) (p := p) (u := u)
    have h4 := pgs_le (H := H) (n := (plc W l u p).1 - pt) hH
    rw [List.length_cons]
    unfold layF
    split
    · have := layF_bd (W := W) hH r 0 (plc W l u p).1 (some (plc W l u p).2) pt pg h1 (by omega); omega
    · split
      · have := layF_bd (W := W) hH r 0 (plc W l u p).1 none pt pg h1 (by omega); omega
      · split
        · have := layF_bd (W := W) hH r 0 (plc W l u p).1 none (plc W l u p).1 (pg + pgs H ((plc W l u p).1 - pt)) (by omega) (by omega); omega
        · have := layF_bd (W := W) hH r (p + 1) l u pt pg h1 h2; omega
def LY (b : Nat) (I : Nat → Nat → Int32) (l : Nat) (u : Option Nat) : Prop := match u with
  | none => I (ad b 566) 17 = nI (l + 1) ∧ I (ad b 566) 16 = nI 1 ∧ I (ad b 566) 15 = nI 0
  | some v => I (ad b 566) 17 = nI l ∧ I (ad b 566) 16 = nI 0 ∧ I (ad b 566) 15 = nI v
def pLn (o j : Nat) : Prop := o = 566 ∧ 15 ≤ j ∧ j ≤ 17
def pLy (lt o j : Nat) : Prop := (o = 566 ∧ 15 ≤ j ∧ j ≤ 17) ∨ ((o = 572 ∨ o = 573 ∨ o = 574) ∧ j = lt)
section RY
variable {z : P0} {KL : Nat → Nat × Nat} {RL : Nat → Nat → Option Nat} {q : Nat → Nat} {b : Nat} {I : Nat → Nat → Int32} {L : Nat → Nat → Int64} {sz : Nat} {ex : Bool} {Q : Res → Mem → Prop} {A : Row}
variable {t : List Nat}
theorem pLn_z : ∀ j, ¬ pLn 567 j := fun j h => by unfold pLn at h; omega
theorem pLy_z {lt : Nat} : ∀ j, ¬ pLy lt 567 j := fun j h => by unfold pLy at h; omega
theorem pLn_k {o k : Nat} {x : Int32} {I' : Nat → Nat → Int32} (h : Ag pLn b I I') (ho : ¬ (o = 566 ∧ 15 ≤ k ∧ k ≤ 17)) (m : I (ad b o) k = x) : I' (ad b o) k = x := (h.at (fun y => ho y)).trans m
theorem OT.ag {P : Nat → Nat → Prop} {I' : Nat → Nat → Int32} (h : OT b I t) (hg : Ag P b I I') (hP : ¬ P 566 14) (hP2 : ∀ j, ¬ P 576 j) : OT b I' t := ⟨(hg.at hP).trans h.1, fun k hk => (hg.at (hP2 k)).trans (h.2 k hk)⟩
theorem plU_le {W p : Nat} : plU W p ≤ p + W := by
  unfold plU
  have := Nat.mod_le p W
  split <;> (try split) <;> omega
theorem plc_u {W l p : Nat} {u : Option Nat} (hp : p ≤ 5000) (hW : W ≤ 40) : (plc W l u p).2 ≤ 10000 := by
  have := plU_le (W := W) (p := p)
  unfold plc
  split
  · split <;> dsimp only <;> omega
  · dsimp only; omega
end RY
