/-! THE LAW: what its small methods answer; how a text is told sign by sign -/
def atN (v : Int32) (n : Nat) : Nat := v.toBitVec.toNat / 2 % n
theorem atN_lt {v : Int32} {n : Nat} (h : 0 < n) : atN v n < n := Nat.mod_lt _ h
def letN (kind p s k : Nat) : Nat := 97 + (if kind = 0 then p + 5 * k + s else 3 * p + 7 * k + s) % 26
theorem letN_b {kind p s k : Nat} : 97 ≤ letN kind p s k ∧ letN kind p s k ≤ 122 := by
  unfold letN
  have := Nat.mod_lt (if kind = 0 then p + 5 * k + s else 3 * p + 7 * k + s) (show 0 < 26 by omega)
  omega
/-- a text's place: the piece's length, lines begun, what is used on the last one, lines of earlier pages, pages -/
abbrev LSt : Type := Nat × Nat × Option Nat × Nat × Nat
def stp (W H : Nat) (s : LSt) (c : Nat) : LSt :=
  if c = 95 then (0, (plc W s.2.1 s.2.2.1 s.1).1, some (plc W s.2.1 s.2.2.1 s.1).2, s.2.2.2.1, s.2.2.2.2)
  else if c = 47 then (0, (plc W s.2.1 s.2.2.1 s.1).1, none, s.2.2.2.1, s.2.2.2.2)
  else if c = 124 then (0, (plc W s.2.1 s.2.2.1 s.1).1, none, (plc W s.2.1 s.2.2.1 s.1).1, s.2.2.2.2 + pgs H ((plc W s.2.1 s.2.2.1 s.1).1 - s.2.2.2.1))
  else (s.1 + 1, s.2.1, s.2.2.1, s.2.2.2.1, s.2.2.2.2)
def runT (W H : Nat) (T : List Nat) : LSt := T.foldl (stp W H) (0, 0, none, 0, 0)
def hshT (T : List Nat) : Nat := T.foldl (fun h c => 31 * h + c) 0
theorem runT_snoc {W H c : Nat} {T : List Nat} : runT W H (T ++ [c]) = stp W H (runT W H T) c := by unfold runT; rw [List.foldl_append]; rfl
theorem hshT_snoc {c : Nat} {T : List Nat} : hshT (T ++ [c]) = 31 * hshT T + c := by unfold hshT; rw [List.foldl_append]; rfl
def endT (W H : Nat) (s : LSt) : Nat × Nat := ((plc W s.2.1 s.2.2.1 s.1).1, s.2.2.2.2 + pgs H ((plc W s.2.1 s.2.2.1 s.1).1 - s.2.2.2.1))
theorem layF_c {W H c p l pt pg : Nat} {u : Option Nat} {r : List Nat} : layF W H (c :: r) p l u pt pg = if c = 95 then layF W H r 0 (plc W l u p).1 (some (plc W l u p).2) pt pg else if c = 47 then layF W H r 0 (plc W l u p).1 none pt pg else if c = 124 then layF W H r 0 (plc W l u p).1 none (plc W l u p).1 (pg + pgs H ((plc W l u p).1 - pt)) else layF W H r (p + 1) l u pt pg := rfl
theorem layF_run {W H : Nat} : ∀ (T : List Nat) (s : LSt), layF W H T s.1 s.2.1 s.2.2.1 s.2.2.2.1 s.2.2.2.2 = endT W H (T.foldl (stp W H) s)
  | [], _ => rfl
  | c :: r, s => by
    rw [List.foldl_cons, ← layF_run r, layF_c]
    unfold stp
    split
    · rfl
    · split
      · rfl
      · split <;> rfl
theorem layT_run {W H : Nat} {T : List Nat} : layT W H T = endT W H (runT W H T) := layF_run T (0, 0, none, 0, 0)
theorem plc_w {W l p : Nat} {u : Option Nat} (hW : 1 ≤ W) : (plc W l u p).2 ≤ W := by
  have h1 : plU W p ≤ W := by
    have := Nat.mod_lt p (show 0 < W by omega)
    unfold plU
    split
    · assumption
    · split <;> omega
  unfold plc
  split
  · split
    · assumption
    · exact h1
  · exact h1
def BD (W N : Nat) (s : LSt) : Prop := s.1 + s.2.1 ≤ N ∧ s.2.2.2.1 ≤ s.2.1 ∧ s.2.2.2.2 ≤ s.2.2.2.1 ∧ ∀ v, s.2.2.1 = some v → v ≤ W
theorem BD_stp {W H N c : Nat} {s : LSt} (hW : 1 ≤ W) (hH : 1 ≤ H) (h : BD W N s) : BD W (N + 1) (stp W H s c) := by
  obtain ⟨h1, h2, h3, h4⟩ := h
  have p1 := plc_le (W := W) (l := s.2.1) (p := s.1) (u := s.2.2.1)
  have p2 := plc_w (W := W) (l := s.2.1) (p := s.1) (u := s.2.2.1) hW
  have p3 := pgs_le (H := H) (n := (plc W s.2.1 s.2.2.1 s.1).1 - s.2.2.2.1) hH
  unfold stp
  split
  · exact ⟨by dsimp only; omega, by dsimp only; omega, h3, fun v hv => by dsimp only at hv; injection hv with hv; omega⟩
  · split
    · exact ⟨by dsimp only; omega, by dsimp only; omega, h3, fun v hv => by dsimp only at hv; cases hv⟩
    · split
      · exact ⟨by dsimp only; omega, by dsimp only; omega, by dsimp only; omega, fun v hv => by dsimp only at hv; cases hv⟩
      · exact ⟨by dsimp only; omega, h2, h3, h4⟩
theorem runT_bd {W H : Nat} (hW : 1 ≤ W) (hH : 1 ≤ H) : ∀ (T : List Nat) (N : Nat) (s : LSt), BD W N s → BD W (N + T.length) (T.foldl (stp W H) s)
  | [], _, _, h => h
  | c :: r, N, s, h => by
    have := runT_bd hW hH r (N + 1) _ (BD_stp (c := c) hW hH h)
    rw [List.foldl_cons, List.length_cons, show N + (r.length + 1) = N + 1 + r.length by omega]
    exact this
theorem runT_b {W H : Nat} {T : List Nat} (hW : 1 ≤ W) (hH : 1 ≤ H) : BD W T.length (runT W H T) := by
  have := runT_bd hW hH T 0 (0, 0, none, 0, 0) ⟨Nat.le_refl _, Nat.le_refl _, Nat.le_refl _, fun v hv => by cases hv⟩
  rwa [Nat.zero_add] at this
theorem pgs_dm {H n : Nat} (h : 1 ≤ H) : n / H + (if n % H = 0 then 0 else 1) = pgs H n := by
  unfold pgs
  have e := Nat.div_add_mod n H
  have l := Nat.mod_lt n (show 0 < H by omega)
  by_cases h0 : n % H = 0
  · rw [if_pos h0, Nat.add_zero]
    have e1 : n = H * (n / H) := by omega
    generalize n / H = k at e1 ⊢
    rw [e1, show H * k + H - 1 = (H - 1) + H * k by omega, Nat.add_mul_div_left _ _ (by omega), Nat.div_eq_of_lt (by omega), Nat.zero_add]
  · rw [if_neg h0]
    generalize hk : n / H = k at e
    generalize hm : n % H = m at e l h0
    rw [← e, show H * k + m + H - 1 = (m - 1) + H * (k + 1) by rw [Nat.mul_add]; omega, Nat.add_mul_div_left _ _ (by omega), Nat.div_eq_of_lt (by omega), Nat.zero_add]
/-- how many numbers below n are in the mask -/
def popN (m : Nat) : Nat → Nat → Nat := sumF (fun k => if m.testBit k = true then 1 else 0)
theorem popN_g : ∀ (d p m : Nat) (g : List Nat), g.Pairwise (· < ·) → (∀ x ∈ g, p ≤ x) → (∀ x ∈ g, x < p + d) → (∀ j, p ≤ j → m.testBit j = decide (j ∈ g)) → popN m p d = g.length
  | 0, p, m, g, _, h1, h2, _ => by
    cases g with
    | nil => rfl
    | cons x r => have := h1 x List.mem_cons_self; have := h2 x List.mem_cons_self; omega
  | d + 1, p, m, g, hs, h1, h2, hb => by
    have u : popN m p (d + 1) = (if m.testBit p = true then 1 else 0) + popN m (p + 1) d := rfl
    rw [u]
    rcases sorted_cases hs h1 with ⟨r, rfl, hr⟩ | ⟨hn1, hr⟩
    · have hbp : m.testBit p = true := by rw [hb p (Nat.le_refl _)]; exact decide_eq_true List.mem_cons_self
      rw [List.pairwise_cons] at hs
      rw [if_pos hbp, List.length_cons, popN_g d (p + 1) m r hs.2 hr (fun x hx => by have := h2 x (List.mem_cons_of_mem _ hx); omega) (fun j hj => by
        rw [hb j (by omega)]
        have : ¬ j = p := by omega
        simp [this])]
      omega
    · have hbp : m.testBit p = false := by rw [hb p (Nat.le_refl _)]; exact decide_eq_false hn1
      rw [if_neg (by rw [hbp]; decide), Nat.zero_add]
      exact popN_g d (p + 1) m g hs hr (fun x hx => by have := h2 x hx; omega) (fun j hj => hb j (by omega))
theorem popN_mask {g : List Nat} (hs : g.Pairwise (· < ·)) (h2 : ∀ x ∈ g, x < 20) : popN (maskL g) 0 20 = g.length := popN_g 20 0 _ g hs (fun x _ => Nat.zero_le x) (fun x hx => by have := h2 x hx; omega) (fun j _ => maskL_t)
theorem bI_n {c : Bool} : bI c = nI (if c = true then 1 else 0) := by cases c <;> rfl
