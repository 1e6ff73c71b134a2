/-! THE LAW: its rows when one thing changes -/
theorem upr_k {A : Row} {k v j : Nat} : upr A k v j = if j = k then v else A j := rfl
theorem Sm.up {A : Row} {k v : Nat} (h : Sm A) (hv : v < 4294967296) : Sm (upr A k v) := fun j hj => by
  unfold upr
  split
  · exact hv
  · exact h j hj
theorem Sm.uL {A : Row} {off : Nat} {L : List Nat} (h : Sm A) (hL : ∀ c ∈ L, c < 4294967296) : Sm (updL A off L) := fun j hj => by
  unfold updL
  split
  · next hk =>
    rw [List.getD_eq_getElem?_getD, List.getElem?_eq_getElem (by omega)]
    exact hL _ (List.getElem_mem _)
  · exact h j hj
theorem LwT.up {A : Row} {k v : Nat} (h : LwT A) (hk : k ≠ 6 ∧ k ≠ 7 ∧ k ≠ 12 ∧ k < 133) : LwT (upr A k v) := by
  obtain ⟨h1, h2, h3, h4, h5⟩ := h
  refine ⟨fun p hp i hi => ?_, fun w hw i hi => ?_, ?_, ?_, ?_⟩
  · rw [upr_n (by omega)] at hp
    rw [upr_n (by omega)] at hi
    rw [upr_n (by omega), upr_n (by omega)]
    exact h1 p hp i hi
  · rw [upr_n (by omega)] at hw
    rw [upr_n (by omega)] at hi
    rw [upr_n (by omega), upr_n (by omega)]
    exact h2 w hw i hi
  · rw [upr_n (by omega)]; exact h3
  · rw [upr_n (by omega)]; exact h4
  · rw [upr_n (by omega)]; exact h5
/-- the whole world between two acts: the class, the law's rows; the law counts n saved states; the day is at most D -/
def WL (KL : Nat → Nat × Nat) (RL : Nat → Nat → Option Nat) (z : P0) (b : Nat) (I : Nat → Nat → Int32) (q : Nat → Nat) (w : Wd) (n D : Nat) : Prop := CSt b I q w ∧ GoodW w ∧ Sm w.1 ∧ SZ KL RL b I z ∧ SV KL b I z ∧ Lw b I w.1 n ∧ LwT w.1 ∧ w.1 8 ≤ D
def pW (o _j : Nat) : Prop := o < 577
section LJ
variable {z : P0} {KL : Nat → Nat × Nat} {RL : Nat → Nat → Option Nat} {q : Nat → Nat} {b : Nat} {I : Nat → Nat → Int32} {L : Nat → Nat → Int64} {sz : Nat} {ex : Bool} {Q : Res → Mem → Prop} {A : Row}
variable {n : Nat} {H : Nat → Row} {B : List Nat}
theorem SV.ag {P : Nat → Nat → Prop} {I' : Nat → Nat → Int32} (h : SV KL b I z) (hg : Ag P b I I') : SV KL b I' z := by
  obtain ⟨⟨l1, l2, l3⟩, m1, m2, m3⟩ := h
  exact ⟨⟨l1, l2, fun k hk => by rw [hg.1 _ l1]; exact l3 k hk⟩, m1, m2, fun k hk => by rw [hg.1 _ m1]; exact m3 k hk⟩
theorem Lw.fld {o base p v : Nat} (hf : (o = 567 ∧ base = 13) ∨ (o = 568 ∧ base = 33) ∨ (o = 569 ∧ base = 53) ∨ (o = 570 ∧ base = 73) ∨ (o = 571 ∧ base = 93) ∨ (o = 572 ∧ base = 113)) (h : Lw b I A n) (h6 : A 6 ≤ 20) (hp : p < A 6) : Lw b (up2 I (ad b o) p (nI v)) (upr A (base + p) v) n := by
  obtain ⟨⟨⟨a0, a1, a2, a3, a4, a5, a6, a7⟩, a8⟩, b1, b2, b3⟩ := h
  have key : ∀ o' base' p', ((o' = 567 ∧ base' = 13) ∨ (o' = 568 ∧ base' = 33) ∨ (o' = 569 ∧ base' = 53) ∨ (o' = 570 ∧ base' = 73) ∨ (o' = 571 ∧ base' = 93) ∨ (o' = 572 ∧ base' = 113) ∨ (o' = 573 ∧ base' = 133)) → p' < A 6 → I (ad b o') p' = nI (A (base' + p')) → up2 I (ad b o) p (nI v) (ad b o') p' = nI (upr A (base + p) v (base' + p')) := by
    intro o' base' p' h1 h2 h3
    by_cases e : o' = o ∧ p' = p
    · have e2 : base' = base := by omega
      rw [e.1, e.2, e2, up_s, upr_s]
    · rw [up_n (by omega), upr_n (by omega)]; exact h3
  refine ⟨⟨⟨?_, ?_, ?_, ?_, ?_, ?_, ?_, ?_⟩, fun k hk => ?_⟩, fun p' hp' => ?_, fun w hw => ?_, fun k hk => ?_⟩
  · rw [up_n (by omega), upr_n (by omega)]; exact a0
  · rw [up_n (by omega), upr_n (by omega)]; exact a1
  · rw [up_n (by omega), upr_n (by omega)]; exact a2
  · rw [up_n (by omega), upr_n (by omega)]; exact a3
  · rw [up_n (by omega), upr_n (by omega)]; exact a4
  · rw [up_n (by omega), upr_n (by omega)]; exact a5
  · rw [up_n (by omega), upr_n (by omega)]; exact a6
  · rw [up_n (by omega)]; exact a7
  · rw [up_n (by omega), upr_n (by omega)]; exact a8 k hk
  · rw [upr_n (by omega)] at hp'
    obtain ⟨c1, c2, c3, c4, c5, c6, c7⟩ := b1 p' hp'
    exact ⟨key 567 13 p' (by omega) hp' c1, key 568 33 p' (by omega) hp' c2, key 569 53 p' (by omega) hp' c3, key 570 73 p' (by omega) hp' c4, key 571 93 p' (by omega) hp' c5, key 572 113 p' (by omega) hp' c6, key 573 133 p' (by omega) hp' c7⟩
  · rw [upr_n (by omega)] at hw
    rw [up_n (by omega), upr_n (by omega), upr_n (by omega)]
    exact b2 w hw
  · rw [upr_n (by omega)] at hk
    rw [up_n (by omega), upr_n (by omega)]
    exact b3 k hk
theorem Lw.set {k v : Nat} (h : Lw b I A n) (hk : k < 6) : Lw b (up2 I (ad b 566) (8 + k) (nI v)) (upr A k v) n := by
  obtain ⟨⟨⟨a0, a1, a2, a3, a4, a5, a6, a7⟩, a8⟩, b1, b2, b3⟩ := h
  refine ⟨⟨⟨?_, ?_, ?_, ?_, ?_, ?_, ?_, ?_⟩, fun k' hk' => ?_⟩, fun p' hp' => ?_, fun w hw => ?_, fun k' hk' => ?_⟩
  · rw [up_n (by omega), upr_n (by omega)]; exact a0
  · rw [up_n (by omega), upr_n (by omega)]; exact a1
  · rw [up_n (by omega), upr_n (by omega)]; exact a2
  · rw [up_n (by omega), upr_n (by omega)]; exact a3
  · rw [up_n (by omega), upr_n (by omega)]; exact a4
  · rw [up_n (by omega), upr_n (by omega)]; exact a5
  · rw [up_n (by omega), upr_n (by omega)]; exact a6
  · rw [up_n (by omega)]; exact a7
  · by_cases e : k' = k
    · rw [e, up_s, upr_s]
    · rw [up_n (by omega), upr_n e]; exact a8 k' hk'
  · rw [upr_n (by omega)] at hp'
    obtain ⟨c1, c2, c3, c4, c5, c6, c7⟩ := b1 p' hp'
    exact ⟨by rw [up_n (by omega), upr_n (by omega)]; exact c1, by rw [up_n (by omega), upr_n (by omega)]; exact c2, by rw [up_n (by omega), upr_n (by omega)]; exact c3, by rw [up_n (by omega), upr_n (by omega)]; exact c4, by rw [up_n (by omega), upr_n (by omega)]; exact c5, by rw [up_n (by omega), upr_n (by omega)]; exact c6, by rw [up_n (by omega), upr_n (by omega)]; exact c7⟩
  · rw [upr_n (by omega)] at hw
    rw [up_n (by omega), upr_n (by omega), upr_n (by omega)]
    exact b2 w hw
  · rw [upr_n (by omega)] at hk'
    rw [up_n (by omega), upr_n (by omega)]
    exact b3 k' hk'
theorem Lw.day {v : Nat} (h : Lw b I A n) : Lw b (up2 I (ad b 566) 3 (nI v)) (upr A 8 v) n := by
  obtain ⟨⟨⟨a0, a1, a2, a3, a4, a5, a6, a7⟩, a8⟩, b1, b2, b3⟩ := h
  refine ⟨⟨⟨?_, ?_, ?_, ?_, ?_, ?_, ?_, ?_⟩, fun k' hk' => ?_⟩, fun p' hp' => ?_, fun w hw => ?_, fun k' hk' => ?_⟩
  · rw [up_n (by omega), upr_n (by omega)]; exact a0
  · rw [up_n (by omega), upr_n (by omega)]; exact a1
  · rw [up_n (by omega), upr_n (by omega)]; exact a2
  · rw [up_s, upr_s]
  · rw [up_n (by omega), upr_n (by omega)]; exact a4
  · rw [up_n (by omega), upr_n (by omega)]; exact a5
  · rw [up_n (by omega), upr_n (by omega)]; exact a6
  · rw [up_n (by omega)]; exact a7
  · rw [up_n (by omega), upr_n (by omega)]; exact a8 k' hk'
  · rw [upr_n (by omega)] at hp'
    obtain ⟨c1, c2, c3, c4, c5, c6, c7⟩ := b1 p' hp'
    exact ⟨by rw [up_n (by omega), upr_n (by omega)]; exact c1, by rw [up_n (by omega), upr_n (by omega)]; exact c2, by rw [up_n (by omega), upr_n (by omega)]; exact c3, by rw [up_n (by omega), upr_n (by omega)]; exact c4, by rw [up_n (by omega), upr_n (by omega)]; exact c5, by rw [up_n (by omega), upr_n (by omega)]; exact c6, by rw [up_n (by omega), upr_n (by omega)]; exact c7⟩
  · rw [upr_n (by omega)] at hw
    rw [up_n (by omega), upr_n (by omega), upr_n (by omega)]
    exact b2 w hw
  · rw [upr_n (by omega)] at hk'
    rw [up_n (by omega), upr_n (by omega)]
    exact b3 k' hk'
/-- a new person, in the row -/
theorem addPR_v {a f s : Nat} (h6 : A 6 < 20) (hs : s ≤ 8) : (∀ j, j < 153 → addPR A a f (tyL 0 (A 6) s s) j = if j = 133 + A 6 then s else if j = 113 + A 6 then 0 else if j = 93 + A 6 then 4294967295 else if j = 73 + A 6 then 0 else if j = 53 + A 6 then 4294967295 else if j = 33 + A 6 then f else if j = 13 + A 6 then a else if j = 6 then A 6 + 1 else A j) ∧ (∀ j, 153 ≤ j → addPR A a f (tyL 0 (A 6) s s) j = if 153 + 8 * A 6 ≤ j ∧ j < 153 + 8 * A 6 + s then letN 0 (A 6) s (j - (153 + 8 * A 6)) else A j) := by
  have ll := tyL_len (kind := 0) (p := A 6) (s := s) (k := s)
  refine ⟨fun j hj => ?_, fun j hj => ?_⟩
  · unfold addPR
    rw [updL_n (by omega), ll]
    unfold perR upr
    rfl
  · unfold addPR updL
    rw [ll]
    by_cases e : 153 + 8 * A 6 ≤ j ∧ j < 153 + 8 * A 6 + s
    · rw [if_pos e, if_pos e]
      unfold tyL
      rw [segF_get _ _ _ (by omega), Nat.zero_add]
    · rw [if_neg e, if_neg e]
      unfold perR
      rw [upr_n (by omega), upr_n (by omega), upr_n (by omega), upr_n (by omega), upr_n (by omega), upr_n (by omega), upr_n (by omega), upr_n (by omega)]
theorem addW_w {pl s : Nat} (h7 : A 7 < 10) (hs : s ≤ 8) : (∀ j, j < 333 → updL (worR A (A 7) pl s) (333 + 8 * A 7) (tyL 1 (A 7) s s) j = if j = 313 + A 7 then s else if j = 323 + A 7 then pl else if j = 7 then A 7 + 1 else A j) ∧ (∀ j, 333 ≤ j → updL (worR A (A 7) pl s) (333 + 8 * A 7) (tyL 1 (A 7) s s) j = if 333 + 8 * A 7 ≤ j ∧ j < 333 + 8 * A 7 + s then letN 1 (A 7) s (j - (333 + 8 * A 7)) else A j) := by
  have ll := tyL_len (kind := 1) (p := A 7) (s := s) (k := s)
  refine ⟨fun j hj => ?_, fun j hj => ?_⟩
  · rw [updL_n (by omega)]
    unfold worR upr
    rfl
  · unfold updL
    rw [ll]
    by_cases e : 333 + 8 * A 7 ≤ j ∧ j < 333 + 8 * A 7 + s
    · rw [if_pos e, if_pos e]
      unfold tyL
      rw [segF_get _ _ _ (by omega), Nat.zero_add]
    · rw [if_neg e, if_neg e]
      unfold worR
      rw [upr_n (by omega), upr_n (by omega), upr_n (by omega)]
theorem WL.cst {w : Wd} {D : Nat} (h : WL KL RL z b I q w n D) : CSt b I q w := h.1
end LJ
