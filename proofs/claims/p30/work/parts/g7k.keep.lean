/-! GOOD KEPT BY EVERY CALL -/
section KP
variable {A : Row} {n : Nat} {H : Nat → Row} {B : List Nat}
theorem gW {A' : Row} {B' : List Nat} (hg : GoodW (A, n, H, B)) (h : Good A') : GoodW (A', svN n, svH A n H, B') := ⟨h, hg.sv.2⟩
theorem k_Move {p a : Nat} (hg : GoodW (A, n, H, B)) : GoodW (opMove (A, n, H, B) p a).2.2 := by
  unfold opMove
  by_cases e1 : p < A 6
  · have h6 := hg.1.1.1
    dsimp only at h6
    rw [if_pos e1]
    by_cases e2 : a ≤ 19
    · rw [if_pos e2]; exact gW hg (hg.1.up (by omega) (by omega) (by omega) (by omega) (by omega) (by omega))
    · rw [if_neg e2]; exact hg
  · rw [if_neg e1]; exact hg
theorem k_Give {p v : Nat} (hg : GoodW (A, n, H, B)) : GoodW (opGive (A, n, H, B) p v).2.2 := by
  unfold opGive
  by_cases e1 : p < A 6 ∧ (v = 4294967295 ∨ v < A 7)
  · have h6 := hg.1.1.1
    dsimp only at h6
    rw [if_pos e1]; exact gW hg (hg.1.up (by omega) (by omega) (by omega) (fun _ _ => e1.2) (by omega) (by omega))
  · rw [if_neg e1]; exact hg
theorem k_Uns {p i : Nat} (hi : i ≤ 1) (hg : GoodW (A, n, H, B)) : GoodW (opUns (A, n, H, B) p i).2.2 := by
  unfold opUns
  by_cases e1 : p < A 6
  · have h6 := hg.1.1.1
    dsimp only at h6
    rw [if_pos e1]; exact gW hg (hg.1.up (by omega) (by omega) (by omega) (by omega) (fun _ _ => hi) (by omega))
  · rw [if_neg e1]; exact hg
theorem k_Set {k v : Nat} (hg : GoodW (A, n, H, B)) : GoodW (opSet (A, n, H, B) k v).2.2 := by
  unfold opSet
  by_cases e1 : k ≤ 5
  · rw [if_pos e1]
    by_cases e2 : okV k v = true
    · rw [if_pos e2]; exact gW hg (hg.1.set e1 e2)
    · rw [if_neg e2]; exact hg
  · rw [if_neg e1]; exact hg
theorem k_Pass {d : Nat} (hg : GoodW (A, n, H, B)) : GoodW (opPass (A, n, H, B) d).2.2 := by
  unfold opPass
  by_cases e1 : 1 ≤ d ∧ d ≤ 100
  · rw [if_pos e1]
    by_cases e2 : A 8 + d ≤ 10000
    · rw [if_pos e2]; exact gW hg (hg.1.day (Nat.le_add_right _ _) e2)
    · rw [if_neg e2]; exact hg
  · rw [if_neg e1]; exact hg
theorem k_App {c : Nat} (hg : GoodW (A, n, H, B)) : GoodW (opApp (A, n, H, B) c).2.2 := by
  unfold opApp
  by_cases e1 : 33 ≤ c ∧ c ≤ 126
  · rw [if_pos e1]
    by_cases e2 : B.length < 60
    · rw [if_pos e2]; exact hg
    · rw [if_neg e2]; exact hg
  · rw [if_neg e1]; exact hg
theorem k_Clr (hg : GoodW (A, n, H, B)) : GoodW (opClr (A, n, H, B)).2.2 := hg
theorem k_Undo (hg : GoodW (A, n, H, B)) : GoodW (opUndo (A, n, H, B)).2.2 := by
  unfold opUndo
  by_cases e1 : 0 < n
  · rw [if_pos e1]
    refine ⟨hg.2 (n - 1) ?_, fun j hj => hg.2 j ?_⟩
    · show n - 1 < n; omega
    · have : j < n - 1 := hj
      show j < n; omega
  · rw [if_neg e1]; exact hg
theorem k_Send (hg : GoodW (A, n, H, B)) : GoodW (opSend (A, n, H, B)).2.2 := by
  unfold opSend
  by_cases e1 : A 12 = 0 ∨ totS A 0 = 0
  · rw [if_pos e1]; exact hg
  · rw [if_neg e1]; exact gW hg (good_send hg.1)
theorem k_AddP {a f : Nat} (hg : GoodW (A, n, H, B)) : GoodW (opAddP (A, n, H, B) a f).2.2 := by
  unfold opAddP
  by_cases e1 : (a ≤ 19 ∧ f ≤ 2) ∧ cpl 0 B = true
  · rw [if_pos e1]
    by_cases e2 : A 6 < 20
    · rw [if_pos e2]; exact gW hg (good_addP hg.1 e1.2 e1.1.1 e1.1.2 e2)
    · rw [if_neg e2]; exact hg
  · rw [if_neg e1]; exact hg
theorem k_AddW (hg : GoodW (A, n, H, B)) : GoodW (opAddW (A, n, H, B)).2.2 := by
  unfold opAddW
  by_cases e1 : cpl 1 B = true
  · rw [if_pos e1]
    by_cases e2 : A 7 < 10
    · rw [if_pos e2]; exact gW hg (good_addW hg.1 e1 e2)
    · rw [if_neg e2]; exact hg
  · rw [if_neg e1]; exact hg
theorem k_Take (hg : GoodW (A, n, H, B)) (hB : ∀ c ∈ B, 33 ≤ c ∧ c ≤ 126) (hl : B.length ≤ 60) : GoodW (opTake (A, n, H, B)).2.2 := by
  unfold opTake
  by_cases e1 : cpl 2 B = true
  · rw [if_pos e1]; exact gW hg (good_take hg.1 e1 hB hl)
  · rw [if_neg e1]; exact hg
end KP
