/-! THE LAW'S START: the environment -/
section W1
variable {s : State} {y : Nat}
def strA (s : State) (y n : Nat) : Nat := match strs.find? (fun q => q.2.2.2 == n) with
  | some q => (match (gT q.1 q.2.1).eval #[.ref y] s none [] s with
    | some (.ref a) => a
    | _ => 0)
  | none => 0
theorem strs_find : ∀ q ∈ strs, strs.find? (fun r => r.2.2.2 == q.2.2.2) = some q ∧ 3 ≤ q.2.2.2 := by decide +kernel
theorem txl_in : ∀ q ∈ txl, ∃ r ∈ strs, r.1 = q.1 ∧ r.2.1 = q.2.1 ∧ r.2.2.2 = q.2.2.2 := by decide +kernel
theorem strA_of (hn : ∀ c ∈ nwl, c.before #[.ref y] s = true) {q : Nat × Nat × String × Nat} (hq : q ∈ strs) : (gT q.1 q.2.1).eval #[.ref y] s none [] s = some (.ref (strA s y q.2.2.2)) := by
  obtain ⟨a, c, cA, kA, q1, -⟩ := Cond.exactly_spec (hn _ (n_ex q hq))
  unfold strA
  rw [(strs_find q hq).1]
  dsimp only
  rw [q1]
theorem tx_of (hn : ∀ c ∈ nwl, c.before #[.ref y] s = true) {q : Nat × Nat × List Nat × Nat} (hq : q ∈ txl) : ∃ v, TX0s s (strA s y q.2.2.2) v ∧ AR s v .byte q.2.2.1.length (fun k => nI (q.2.2.1.getD k 0)) := by
  obtain ⟨r, hr, e1, e2, e3⟩ := txl_in q hq
  have he := strA_of hn hr
  have hx := hn _ (n_ex r hr)
  rw [e1, e2] at hx he
  rw [e3] at he
  obtain ⟨h1, h2, h3, h4⟩ := n_tx q hq
  have hl : q.2.2.1.length < 2147483648 := by
    have : ∀ q ∈ txl, q.2.2.1.length < 2147483648 := by decide +kernel
    exact this q hq
  obtain ⟨v, hv, hA⟩ := AR_of hl (hn _ h2) (hn _ h3) (fun k hk => hn _ (h4 k hk))
  exact ⟨v, ⟨va_Oof hx he lo_ok, vk_OFof he (va_eqt (hn _ h1)) lo_ok, vk_OFof he hv lo_ok⟩, hA⟩
theorem kn0 (hts : ∀ w ∈ lw_tbl, w.before #[.ref y] s = true) : ∃ D : va_G, va_K D vCl [] s := by
  have h : ∀ c, ∃ (cC : ClassId) (iS : Nat → Nat), c < 11 → u_Kn s (clsN c) (TXc c) (nXc c) cC iS := by
    intro c
    by_cases hc : c < 11
    · obtain ⟨cC, iS, h⟩ := u_known hts (uw_in hc) (hts _ (w_in c hc))
      exact ⟨cC, iS, fun _ => h⟩
    · exact ⟨0, fun _ => 0, fun h => absurd h hc⟩
  refine ⟨(fun c => Classical.choose (h c), fun c => Classical.choose (Classical.choose_spec (h c))), fun c q hq => ?_, fun k q h => by simp at h⟩
  have hc : c < 11 := (List.getElem?_eq_some_iff.mp hq).1
  have h1 := Classical.choose_spec (Classical.choose_spec (h c)) hc
  rw [vCl_at hc] at hq
  cases hq
  exact h1
theorem world0 {L : Nat} {xs : Nat → Int32} (hts : ∀ w ∈ lw_tbl, w.before #[.ref y] s = true) (hX : va_X y L xs s s.heap) (hL : L ≤ 260) (hgv : (Jvm.Cond.and given_1 narrow_1).before #[.ref y] s = true) : ∃ (D : va_G) (z : P0), EW D s.heap.size z s s.heap ∧ K0 s y = (50, L) ∧ y < s.heap.size ∧ z.1 0 < s.heap.size ∧ K0 s (z.1 0) = (50, 6) ∧ (∀ k, k < 6 → In0 s (z.1 0) k = nI (A0 k)) ∧ SZ (K0 s) (Re0 s) s.heap.size (In0 s) z ∧ SV (K0 s) s.heap.size (In0 s) z := by
  have hn : ∀ c ∈ nwl, c.before #[.ref y] s = true := flat_of_before _ hgv
  obtain ⟨D, hD⟩ := kn0 hts
  obtain ⟨w1, w2, w3, w4, w5, w6, w7, w8, w9, w10, w11⟩ := w_ls
  obtain ⟨m1, m2, m3, m4⟩ := n_mis
  obtain ⟨tF, eF, aF⟩ := AR_of (A := #[.ref y]) (by omega) (hn _ n_F.1) (hn _ n_F.2.1) (fun k hk => hn _ (n_F.2.2 k hk))
  obtain ⟨tL, eL, aL⟩ := AR_of (A := #[.ref y]) (by omega) (hn _ n_L.1) (hn _ n_L.2.1) (fun k hk => hn _ (n_L.2.2 k hk))
  obtain ⟨tM, eM, aM⟩ := AR_of (A := #[.ref y]) (by omega) (hn _ n_M.1) (hn _ n_M.2.1) (fun k hk => hn _ (n_M.2.2 k hk))
  have hZ : ∃ v : Value, v.category = 1 ∧ va_Z "jdk/internal/util/Preconditions" "SIOOBE_FORMATTER" "Ljava/util/function/BiFunction;" v (fun q => s.heap.size ≤ q) s s.heap := by
    rcases va_Zqof (hts _ w7) (hts _ w8) (hn _ m2) lo_ok with h | ⟨t, h⟩
    · exact ⟨.null, rfl, h⟩
    · exact ⟨.ref t, rfl, h⟩
  obtain ⟨zv, hzc, hzv⟩ := hZ
  have aY : AR s y .int L xs := by
    obtain ⟨cell, h1, h2, h3, h4, h5⟩ := hX
    exact ⟨cell, h1, h2, h3, h4, by omega, h5⟩
  let z : P0 := (fun n => if n = 0 then tF else if n = 1 then tL else if n = 2 then tM else strA s y n, zv)
  have z0 : z.1 0 = tF := rfl
  have z1 : z.1 1 = tL := rfl
  have z2 : z.1 2 = tM := rfl
  have z3 : ∀ n, 3 ≤ n → z.1 n = strA s y n := fun n h => by
    show (if n = 0 then tF else if n = 1 then tL else if n = 2 then tM else strA s y n) = _
    rw [if_neg (by omega), if_neg (by omega), if_neg (by omega)]
  have kF : K0 s tF = (50, 6) := K0_of (Or.inl ⟨rfl, _, aF⟩)
  have kL : K0 s tL = (50, 6) := K0_of (Or.inl ⟨rfl, _, aL⟩)
  have kM : K0 s tM = (50, 6) := K0_of (Or.inl ⟨rfl, _, aM⟩)
  have so : ∀ q ∈ txl, SO (K0 s) (Re0 s) s.heap.size (In0 s) (z.1 q.2.2.2) q.2.2.1 := by
    intro q hq
    have h3 : ∀ q ∈ txl, 3 ≤ q.2.2.2 ∧ q.2.2.1.length ≤ 10 ∧ ∀ c ∈ q.2.2.1, c < 128 := by decide +kernel
    obtain ⟨v, t1, t2⟩ := tx_of hn hq
    rw [z3 _ (h3 q hq).1]
    exact ⟨t1.lt, by rw [K0_of (k := (52, 0)) (Or.inr (Or.inr ⟨rfl, v, t1⟩))], t1.in52, ⟨v, t2.lt, Re0_of t1, K0_of (Or.inr (Or.inl ⟨rfl, _, t2⟩)), fun k hk => t2.in51 hk⟩, (h3 q hq).2⟩
  refine ⟨D, z, ⟨fun w hw ho => okW_of ho (hts w hw), hD, va_Zof (hts _ w1) (hts _ w4) eF lo_ok, va_Zof (hts _ w2) (hts _ w4) eL lo_ok, va_Zof (hts _ w3) (hts _ w4) eM lo_ok, va_Zof (hts _ w5) (hts _ w6) (va_eqt (hn _ m1)) lo_ok, hzv, vx_Zqof (hts _ w9) (hts _ w11) (hn _ m3) lo_ok, vx_Zqof (hts _ w10) (hts _ w11) (hn _ m4) lo_ok, fun q hq => ?_, fun i j hi hj hne h => absurd h noH, fun C hC => ?_, Nat.le_refl _⟩, K0_of (Or.inl ⟨rfl, _, aY⟩), aY.lt, aF.lt, kF, fun k hk => aF.in50 hk, ⟨hzc, so (1, 78, [97, 108, 108], 100) (by decide), so (9, 41, [115, 111, 109, 101], 101) (by decide), so (9, 43, [97, 110], 102) (by decide), so (9, 45, [97], 103) (by decide)⟩, ⟨aL.lt, kL, fun k hk => aL.in50 hk⟩, ⟨aM.lt, kM, fun k hk => aM.in50 hk⟩⟩
  · rw [z3 _ (strs_find q hq).2]
    have h1 := hts _ (w_sr q hq)
    have h2 := strA_of hn hq
    exact vk_R.of (A := #[.ref y]) h1 h2
  · exact va_AO.of (hts _ (w_ao C hC))
end W1
