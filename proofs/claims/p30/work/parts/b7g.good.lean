/-! THE ROWS THAT THE CALLS LEAVE ARE GOOD -/
theorem ldr_let : ∀ (m : Nat) (r : List Nat) (k : Nat), k < ldr m r → isLet (r.getD k 0)
  | 0, _, k, h => absurd h (Nat.not_lt_zero k)
  | _ + 1, [], k, h => absurd h (Nat.not_lt_zero k)
  | m + 1, c :: r, k, h => by
    unfold ldr at h
    by_cases e : letB c = true
    · rw [if_pos e] at h
      cases k with
      | zero => rw [letB, decide_eq_true_eq] at e; exact e
      | succ k => rw [List.getD_cons_succ]; exact ldr_let m r k (by omega)
    · rw [if_neg e] at h; exact absurd h (Nat.not_lt_zero k)
theorem cpl_0 {B : List Nat} (h : cpl 0 B = true) : 1 ≤ B.length ∧ B.length ≤ 8 ∧ ∀ k, k < B.length → isLet (B.getD k 0) := by
  have h0 := h
  rw [cpl_eq, Bool.and_eq_true, decide_eq_true_eq] at h
  have e3 := h.1
  have e4 : rgt 0 B = wE 0 0 B := rfl
  have e5 := wE_ldr (kind := 0) B 0 (by omega)
  rw [if_neg (fun x => absurd x.1 (by decide)), Nat.sub_zero] at e5
  have e6 : ldr 8 B = B.length := by omega
  have := (ldr_le 8 B).1
  have hne : B ≠ [] := by have := h.2; unfold whl at this; rw [if_neg (by omega), decide_eq_true_eq] at this; exact this
  refine ⟨?_, by omega, fun k hk => ldr_let 8 B k (by omega)⟩
  have := List.length_pos_iff.mpr hne
  omega
theorem cpl_1 {B : List Nat} (h : cpl 1 B = true) : 1 ≤ ldr 8 B ∧ ldr 8 B ≤ 8 ∧ ldr 8 B ≤ B.length ∧ (ldr 8 B < B.length → B.length = ldr 8 B + 1 ∧ B.getD (ldr 8 B) 0 = 42) := by
  rw [cpl_eq, Bool.and_eq_true, decide_eq_true_eq] at h
  have e3 := h.1
  have e4 : rgt 1 B = wE 1 0 B := rfl
  have e5 := wE_ldr (kind := 1) B 0 (by omega)
  have l1 := ldr_le 8 B
  have hne : B ≠ [] := by have := h.2; unfold whl at this; rw [if_neg (by omega), decide_eq_true_eq] at this; exact this
  have lp := ldr_pos (kind := 1) (by omega) hne
  refine ⟨lp, l1.1, l1.2, fun hl => ?_⟩
  rw [Nat.sub_zero] at e5
  split at e5
  · rename_i c; exact ⟨by omega, c.2.2.2⟩
  · omega
theorem Good.up {A : Row} {k v : Nat} (hg : Good A) (hk : (9 ≤ k ∧ k ≤ 11) ∨ (13 ≤ k ∧ k < 133)) (h1 : 13 ≤ k → k < 33 → v < 20) (h2 : 33 ≤ k → k < 53 → v < 3) (h3 : 53 ≤ k → k < 73 → v = 4294967295 ∨ v < A 7) (h4 : 73 ≤ k → k < 93 → v ≤ 1) (h5 : 93 ≤ k → k < 113 → v = 4294967295 ∨ v ≤ A 8) : Good (upr A k v) := by
  obtain ⟨⟨a1, a2, a3, a4⟩, b, c, d, e, f⟩ := hg
  have nn : ∀ j, (j < 9 ∨ j = 12 ∨ 133 ≤ j) → upr A k v j = A j := fun j hj => upr_n (by omega)
  refine ⟨⟨by rw [nn 6 (by omega)]; exact a1, by rw [nn 7 (by omega)]; exact a2, by rw [nn 12 (by omega)]; exact a3, by rw [nn 8 (by omega)]; exact a4⟩, by rw [nn 0 (by omega), nn 1 (by omega), nn 2 (by omega), nn 3 (by omega), nn 4 (by omega), nn 5 (by omega)]; exact b, fun i hi => ?_, fun w hw => ?_, fun j hj => ?_, ?_⟩
  · rw [nn 6 (by omega)] at hi
    obtain ⟨c1, c2, c3, c4, c5, c6, c7, c8⟩ := c i hi
    rw [nn 7 (by omega), nn 8 (by omega), nn (133 + i) (by omega)]
    refine ⟨?_, ?_, ?_, ?_, ?_, c6, c7, fun j hj => by rw [nn _ (by omega)]; exact c8 j hj⟩
    · by_cases e : k = 13 + i
      · rw [← e, upr_s]; exact h1 (by omega) (by omega)
      · rw [upr_n (by omega)]; exact c1
    · by_cases e : k = 33 + i
      · rw [← e, upr_s]; exact h2 (by omega) (by omega)
      · rw [upr_n (by omega)]; exact c2
    · by_cases e : k = 53 + i
      · rw [← e, upr_s]; exact h3 (by omega) (by omega)
      · rw [upr_n (by omega)]; exact c3
    · by_cases e : k = 73 + i
      · rw [← e, upr_s]; exact h4 (by omega) (by omega)
      · rw [upr_n (by omega)]; exact c4
    · by_cases e : k = 93 + i
      · rw [← e, upr_s]; exact h5 (by omega) (by omega)
      · rw [upr_n (by omega)]; exact c5
  · rw [nn 7 (by omega)] at hw
    rw [nn _ (by omega), nn _ (by omega)]
    exact ⟨(d w hw).1, (d w hw).2.1, (d w hw).2.2.1, fun j hj => by rw [nn _ (by omega)]; exact (d w hw).2.2.2 j hj⟩
  · rw [nn 12 (by omega)] at hj
    rw [nn _ (by omega)]; exact e j hj
  · unfold raw
    rw [toks_upr (by omega)]
    exact f
theorem Good.day {A : Row} {v : Nat} (hg : Good A) (h : A 8 ≤ v) (hv : v ≤ 10000) : Good (upr A 8 v) := by
  obtain ⟨⟨a1, a2, a3, a4⟩, b, c, d, e, f⟩ := hg
  have nn : ∀ j, j ≠ 8 → upr A 8 v j = A j := fun j hj => upr_n hj
  refine ⟨⟨by rw [nn 6 (by omega)]; exact a1, by rw [nn 7 (by omega)]; exact a2, by rw [nn 12 (by omega)]; exact a3, by rw [upr_s]; exact hv⟩, by rw [nn 0 (by omega), nn 1 (by omega), nn 2 (by omega), nn 3 (by omega), nn 4 (by omega), nn 5 (by omega)]; exact b, fun i hi => ?_, fun w hw => ?_, fun j hj => ?_, ?_⟩
  · rw [nn 6 (by omega)] at hi
    obtain ⟨c1, c2, c3, c4, c5, c6, c7, c8⟩ := c i hi
    rw [nn 7 (by omega), nn (13 + i) (by omega), nn (33 + i) (by omega), nn (53 + i) (by omega), nn (73 + i) (by omega), nn (93 + i) (by omega), nn (133 + i) (by omega), upr_s]
    exact ⟨c1, c2, c3, c4, by omega, c6, c7, fun j hj => by rw [nn _ (by omega)]; exact c8 j hj⟩
  · rw [nn 7 (by omega)] at hw
    rw [nn _ (by omega), nn _ (by omega)]
    exact ⟨(d w hw).1, (d w hw).2.1, (d w hw).2.2.1, fun j hj => by rw [nn _ (by omega)]; exact (d w hw).2.2.2 j hj⟩
  · rw [nn 12 (by omega)] at hj
    rw [nn _ (by omega)]; exact e j hj
  · unfold raw
    rw [toks_upr (by omega)]
    exact f
theorem raw_cg {A A' : Row} (h : ∀ k, (k = 12 ∨ 413 ≤ k) → A' k = A k) : raw A' = raw A := by
  have key : ∀ d i, segF (fun j => A' (413 + j)) i d = segF (fun j => A (413 + j)) i d := by
    intro d
    induction d with
    | zero => intro i; rfl
    | succ d ih => intro i; unfold segF; rw [ih, h _ (by omega)]
  unfold raw toks
  rw [h 12 (Or.inl rfl), key]
/-- what a new person, a new word leaves alone -/
def newP (A A' : Row) (p : Nat) : Prop := ∀ k, k ≠ 6 → k ≠ 13 + p → k ≠ 33 + p → k ≠ 53 + p → k ≠ 73 + p → k ≠ 93 + p → k ≠ 113 + p → k ≠ 133 + p → ¬ (153 + 8 * p ≤ k ∧ k < 161 + 8 * p) → A' k = A k
def newW (A A' : Row) (w : Nat) : Prop := ∀ k, k ≠ 7 → k ≠ 313 + w → k ≠ 323 + w → ¬ (333 + 8 * w ≤ k ∧ k < 341 + 8 * w) → A' k = A k
theorem newP_add {A : Row} {B : List Nat} {a f : Nat} (hB : B.length ≤ 8) (hp : A 6 < 20) : newP A (addPR A a f B) (A 6) := by
  intro k h1 h2 h3 h4 h5 h6 h7 h8 h9
  unfold addPR perR
  rw [updL_n (by omega), upr_n (by omega), upr_n (by omega), upr_n (by omega), upr_n (by omega), upr_n (by omega), upr_n (by omega), upr_n (by omega), upr_n (by omega)]
theorem newW_add {A : Row} {B : List Nat} (hB : ldr 8 B ≤ 8) (hp : A 7 < 10) : newW A (addWR A B) (A 7) := by
  intro k h1 h2 h3 h4
  unfold addWR worR
  have hl : (B.take (ldr 8 B)).length ≤ 8 := by rw [List.length_take]; omega
  rw [updL_n (by omega), upr_n (by omega), upr_n (by omega), upr_n (by omega)]
theorem addP_v {A : Row} {B : List Nat} {a f : Nat} (hB : B.length ≤ 8) (hp : A 6 < 20) : addPR A a f B 6 = A 6 + 1 ∧ addPR A a f B (13 + A 6) = a ∧ addPR A a f B (33 + A 6) = f ∧ addPR A a f B (53 + A 6) = 4294967295 ∧ addPR A a f B (73 + A 6) = 0 ∧ addPR A a f B (93 + A 6) = 4294967295 ∧ addPR A a f B (113 + A 6) = 0 ∧ addPR A a f B (133 + A 6) = B.length ∧ ∀ k, k < B.length → addPR A a f B (153 + 8 * A 6 + k) = B.getD k 0 := by
  unfold addPR
  refine ⟨?_, ?_, ?_, ?_, ?_, ?_, ?_, ?_, fun k hk => ?_⟩
  · unfold perR; simp (disch := omega) only [updL_n, upr_n, upr_s]
  · unfold perR; simp (disch := omega) only [updL_n, upr_n, upr_s]
  · unfold perR; simp (disch := omega) only [updL_n, upr_n, upr_s]
  · unfold perR; simp (disch := omega) only [updL_n, upr_n, upr_s]
  · unfold perR; simp (disch := omega) only [updL_n, upr_n, upr_s]
  · unfold perR; simp (disch := omega) only [updL_n, upr_n, upr_s]
  · unfold perR; simp (disch := omega) only [updL_n, upr_n, upr_s]
  · unfold perR; simp (disch := omega) only [updL_n, upr_n, upr_s]
  · unfold updL
    rw [if_pos (by omega), show 153 + 8 * A 6 + k - (153 + 8 * A 6) = k by omega]
theorem addW_v {A : Row} {B : List Nat} (hB : ldr 8 B ≤ 8) (hl : ldr 8 B ≤ B.length) (hp : A 7 < 10) : addWR A B 7 = A 7 + 1 ∧ addWR A B (313 + A 7) = ldr 8 B ∧ addWR A B (323 + A 7) = (if ldr 8 B < B.length then 1 else 0) ∧ ∀ k, k < ldr 8 B → addWR A B (333 + 8 * A 7 + k) = B.getD k 0 := by
  unfold addWR
  have e : (B.take (ldr 8 B)).length = ldr 8 B := by rw [List.length_take]; omega
  refine ⟨?_, ?_, ?_, fun k hk => ?_⟩
  · unfold worR; simp (disch := omega) only [updL_n, upr_n, upr_s]
  · unfold worR; simp (disch := omega) only [updL_n, upr_n, upr_s]
  · unfold worR; simp (disch := omega) only [updL_n, upr_n, upr_s]
  · unfold updL
    rw [e, if_pos (by omega), show 333 + 8 * A 7 + k - (333 + 8 * A 7) = k by omega, List.getD_eq_getElem?_getD, List.getElem?_take, if_pos hk, ← List.getD_eq_getElem?_getD]
theorem good_addP {A : Row} {B : List Nat} {a f : Nat} (hg : Good A) (hc : cpl 0 B = true) (ha : a ≤ 19) (hf : f ≤ 2) (hp : A 6 < 20) : Good (addPR A a f B) := by
  obtain ⟨c1, c2, c3⟩ := cpl_0 hc
  have hn := newP_add (A := A) (a := a) (f := f) c2 hp
  obtain ⟨v1, v2, v3, v4, v5, v6, v7, v8, v9⟩ := addP_v (A := A) (a := a) (f := f) c2 hp
  obtain ⟨⟨a1, a2, a3, a4⟩, hs, hP, d, e, g⟩ := hg
  generalize addPR A a f B = A' at hn v1 v2 v3 v4 v5 v6 v7 v8 v9 ⊢
  have nn : ∀ k, (7 ≤ k ∧ k ≤ 12) ∨ 313 ≤ k ∨ k < 6 → A' k = A k := fun k hk => hn k (by omega) (by omega) (by omega) (by omega) (by omega) (by omega) (by omega) (by omega) (by omega)
  refine ⟨⟨by omega, by rw [nn 7 (by omega)]; exact a2, by rw [nn 12 (by omega)]; exact a3, by rw [nn 8 (by omega)]; exact a4⟩, by rw [nn 0 (by omega), nn 1 (by omega), nn 2 (by omega), nn 3 (by omega), nn 4 (by omega), nn 5 (by omega)]; exact hs, fun i hi => ?_, fun w hw => ?_, fun j hj => ?_, ?_⟩
  · by_cases ei : i = A 6
    · subst ei
      rw [v2, v3, v4, v5, v6, v8]
      exact ⟨by omega, by omega, Or.inl rfl, by omega, Or.inl rfl, c1, c2, fun k hk => by rw [v9 k hk]; exact c3 k hk⟩
    · have q : ∀ k, k = 13 + i ∨ k = 33 + i ∨ k = 53 + i ∨ k = 73 + i ∨ k = 93 + i ∨ k = 113 + i ∨ k = 133 + i → A' k = A k := fun k hk => hn k (by omega) (by omega) (by omega) (by omega) (by omega) (by omega) (by omega) (by omega) (by omega)
      have := hP i (by omega)
      rw [q (13 + i) (by omega), q (33 + i) (by omega), q (53 + i) (by omega), q (73 + i) (by omega), q (93 + i) (by omega), q (133 + i) (by omega), nn 7 (by omega), nn 8 (by omega)]
      refine ⟨this.1, this.2.1, this.2.2.1, this.2.2.2.1, this.2.2.2.2.1, this.2.2.2.2.2.1, this.2.2.2.2.2.2.1, fun k hk => ?_⟩
      have := this.2.2.2.2.2.2
      rw [hn _ (by omega) (by omega) (by omega) (by omega) (by omega) (by omega) (by omega) (by omega) (by omega)]
      exact this.2 k hk
  · rw [nn 7 (by omega)] at hw
    rw [nn _ (by omega), nn _ (by omega)]
    exact ⟨(d w hw).1, (d w hw).2.1, (d w hw).2.2.1, fun j hj => by rw [nn _ (by omega)]; exact (d w hw).2.2.2 j hj⟩
  · rw [nn 12 (by omega)] at hj
    rw [nn _ (by omega)]; exact e j hj
  · rw [raw_cg (fun k hk => nn k (by omega))]; exact g
theorem good_addW {A : Row} {B : List Nat} (hg : Good A) (hc : cpl 1 B = true) (hp : A 7 < 10) : Good (addWR A B) := by
  obtain ⟨c1, c2, c3, c4⟩ := cpl_1 hc
  have hn := newW_add (A := A) c2 hp
  obtain ⟨v1, v2, v3, v4⟩ := addW_v (A := A) c2 c3 hp
  obtain ⟨⟨a1, a2, a3, a4⟩, hs, hP, d, e, g⟩ := hg
  generalize addWR A B = A' at hn v1 v2 v3 v4 ⊢
  have nn : ∀ k, k ≠ 7 → k < 313 ∨ 413 ≤ k → A' k = A k := fun k h7 hk => hn k (by omega) (by omega) (by omega) (by omega)
  refine ⟨⟨by rw [nn 6 (by omega) (by omega)]; exact a1, by omega, by rw [nn 12 (by omega) (by omega)]; exact a3, by rw [nn 8 (by omega) (by omega)]; exact a4⟩, by rw [nn 0 (by omega) (by omega), nn 1 (by omega) (by omega), nn 2 (by omega) (by omega), nn 3 (by omega) (by omega), nn 4 (by omega) (by omega), nn 5 (by omega) (by omega)]; exact hs, fun i hi => ?_, fun w hw => ?_, fun j hj => ?_, ?_⟩
  · rw [nn 6 (by omega) (by omega)] at hi
    have := hP i hi
    rw [nn (13 + i) (by omega) (by omega), nn (33 + i) (by omega) (by omega), nn (53 + i) (by omega) (by omega), nn (73 + i) (by omega) (by omega), nn (93 + i) (by omega) (by omega), nn (133 + i) (by omega) (by omega), v1, nn 8 (by omega) (by omega)]
    have h9 := this.2.2.2.2.2.2
    refine ⟨this.1, this.2.1, by omega, this.2.2.2.1, this.2.2.2.2.1, this.2.2.2.2.2.1, h9.1, fun k hk => ?_⟩
    rw [nn _ (by omega) (by omega)]
    exact h9.2 k hk
  · by_cases ew : w = A 7
    · subst ew
      rw [v2, v3]
      exact ⟨c1, c2, by split <;> omega, fun k hk => by rw [v4 k hk]; exact ldr_let 8 B k hk⟩
    · have h9 := d w (by omega)
      rw [hn (313 + w) (by omega) (by omega) (by omega) (by omega), hn (323 + w) (by omega) (by omega) (by omega) (by omega)]
      exact ⟨h9.1, h9.2.1, h9.2.2.1, fun j hj => by rw [hn _ (by omega) (by omega) (by omega) (by omega)]; exact h9.2.2.2 j hj⟩
  · rw [nn 12 (by omega) (by omega)] at hj
    rw [nn _ (by omega) (by omega)]; exact e j hj
  · rw [raw_cg (fun k hk => nn k (by omega) (by omega))]; exact g
theorem segF_getD {T : List Nat} {f : Nat → Nat} : ∀ d i, i + d = T.length → (∀ k, k < T.length → f k = T.getD k 0) → segF f i d = T.drop i
  | 0, i, h, _ => by unfold segF; rw [List.drop_of_length_le (by omega)]
  | d + 1, i, h, hf => by
    unfold segF
    rw [segF_getD d (i + 1) (by omega) hf, hf i (by omega), List.drop_eq_getElem_cons (by omega : i < T.length), List.getD_eq_getElem?_getD, List.getElem?_eq_getElem (by omega)]
    rfl
theorem toks_take {A : Row} {T : List Nat} : toks (takeR A T) = T := by
  unfold toks
  rw [takeR_12, segF_getD (T := T) _ _ (by omega) (fun k hk => takeR_k hk), List.drop_zero]
theorem cpl_2 {B : List Nat} (h : cpl 2 B = true) : leW 0 B = 0 := by
  unfold cpl at h
  rw [if_pos rfl, Bool.and_eq_true, decide_eq_true_eq] at h
  exact of_decide_eq_true h.2
theorem tk_ok {B : List Nat} (h : cpl 2 B = true) (hB : ∀ c ∈ B, 33 ≤ c ∧ c ≤ 126) : (∀ t ∈ tkw 0 B, okTok t) ∧ (tkw 0 B).flatMap exT = B ∧ (tkw 0 B).length ≤ B.length := tkw_all B.length B 0 (Nat.le_refl _) (Or.inl rfl) (cpl_2 h) (fun c hc => by have := hB c hc; omega)
theorem raw_take {A : Row} {B : List Nat} (h : cpl 2 B = true) (hB : ∀ c ∈ B, 33 ≤ c ∧ c ≤ 126) : raw (takeR A (tkw 0 B)) = B := by
  unfold raw
  rw [toks_take]
  exact (tk_ok h hB).2.1
theorem good_take {A : Row} {B : List Nat} (hg : Good A) (h : cpl 2 B = true) (hB : ∀ c ∈ B, 33 ≤ c ∧ c ≤ 126) (hl : B.length ≤ 60) : Good (takeR A (tkw 0 B)) := by
  obtain ⟨t1, t2, t3⟩ := tk_ok h hB
  have hr := raw_take (A := A) h hB
  obtain ⟨⟨a1, a2, a3, a4⟩, hs, hP, d, e, g⟩ := hg
  have e12 : takeR A (tkw 0 B) 12 = (tkw 0 B).length := takeR_12
  have ek : ∀ k, k < (tkw 0 B).length → takeR A (tkw 0 B) (413 + k) = (tkw 0 B).getD k 0 := fun k hk => takeR_k hk
  have nn : ∀ k, k ≠ 12 ∧ k < 413 → takeR A (tkw 0 B) k = A k := fun k hk => takeR_n hk
  generalize takeR A (tkw 0 B) = A' at hr e12 ek nn ⊢
  refine ⟨⟨by rw [nn 6 (by omega)]; exact a1, by rw [nn 7 (by omega)]; exact a2, by omega, by rw [nn 8 (by omega)]; exact a4⟩, by rw [nn 0 (by omega), nn 1 (by omega), nn 2 (by omega), nn 3 (by omega), nn 4 (by omega), nn 5 (by omega)]; exact hs, fun i hi => ?_, fun w hw => ?_, fun j hj => ?_, ?_⟩
  · rw [nn 6 (by omega)] at hi
    have := hP i hi
    rw [nn (13 + i) (by omega), nn (33 + i) (by omega), nn (53 + i) (by omega), nn (73 + i) (by omega), nn (93 + i) (by omega), nn (133 + i) (by omega), nn 7 (by omega), nn 8 (by omega)]
    have h9 := this.2.2.2.2.2.2
    refine ⟨this.1, this.2.1, this.2.2.1, this.2.2.2.1, this.2.2.2.2.1, this.2.2.2.2.2.1, h9.1, fun k hk => ?_⟩
    rw [nn _ (by omega)]
    exact h9.2 k hk
  · rw [nn 7 (by omega)] at hw
    have h9 := d w hw
    rw [nn (313 + w) (by omega), nn (323 + w) (by omega)]
    exact ⟨h9.1, h9.2.1, h9.2.2.1, fun j hj => by rw [nn _ (by omega)]; exact h9.2.2.2 j hj⟩
  · rw [ek j (by omega)]
    refine t1 _ ?_
    rw [List.getD_eq_getElem?_getD, List.getElem?_eq_getElem (by omega)]
    exact List.getElem_mem _
  · rw [hr]; exact hl
