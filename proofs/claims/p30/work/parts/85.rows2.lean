/-! rows: what is made, lengths, copies, statics, strings -/
theorem ins0 : Cond.instantiable (clsN 0) (nXc 0) ∈ lw_tbl ∧ Cond.initialized (clsN 0) ∈ lw_tbl := ⟨List.mem_of_getElem? (i := 214) (by decide +kernel), List.mem_of_getElem? (i := 28) (by decide +kernel)⟩
theorem ins1 : Cond.instantiable (clsN 1) (nXc 1) ∈ lw_tbl ∧ Cond.initialized (clsN 1) ∈ lw_tbl := ⟨List.mem_of_getElem? (i := 233) (by decide +kernel), List.mem_of_getElem? (i := 29) (by decide +kernel)⟩
theorem ins2 : Cond.instantiable (clsN 2) (nXc 2) ∈ lw_tbl ∧ Cond.initialized (clsN 2) ∈ lw_tbl := ⟨List.mem_of_getElem? (i := 283) (by decide +kernel), List.mem_of_getElem? (i := 32) (by decide +kernel)⟩
theorem ins3 : Cond.instantiable (clsN 3) (nXc 3) ∈ lw_tbl ∧ Cond.initialized (clsN 3) ∈ lw_tbl := ⟨List.mem_of_getElem? (i := 197) (by decide +kernel), List.mem_of_getElem? (i := 27) (by decide +kernel)⟩
theorem ins4 : Cond.instantiable (clsN 4) (nXc 4) ∈ lw_tbl ∧ Cond.initialized (clsN 4) ∈ lw_tbl := ⟨List.mem_of_getElem? (i := 63) (by decide +kernel), List.mem_of_getElem? (i := 23) (by decide +kernel)⟩
theorem ins5 : Cond.instantiable (clsN 5) (nXc 5) ∈ lw_tbl ∧ Cond.initialized (clsN 5) ∈ lw_tbl := ⟨List.mem_of_getElem? (i := 252) (by decide +kernel), List.mem_of_getElem? (i := 30) (by decide +kernel)⟩
theorem ins6 : Cond.instantiable (clsN 6) (nXc 6) ∈ lw_tbl ∧ Cond.initialized (clsN 6) ∈ lw_tbl := ⟨List.mem_of_getElem? (i := 276) (by decide +kernel), List.mem_of_getElem? (i := 31) (by decide +kernel)⟩
theorem ins7 : Cond.instantiable (clsN 7) (nXc 7) ∈ lw_tbl ∧ Cond.initialized (clsN 7) ∈ lw_tbl := ⟨List.mem_of_getElem? (i := 81) (by decide +kernel), List.mem_of_getElem? (i := 24) (by decide +kernel)⟩
theorem ins8 : Cond.instantiable (clsN 8) (nXc 8) ∈ lw_tbl ∧ Cond.initialized (clsN 8) ∈ lw_tbl := ⟨List.mem_of_getElem? (i := 53) (by decide +kernel), List.mem_of_getElem? (i := 22) (by decide +kernel)⟩
theorem ins9 : Cond.instantiable (clsN 9) (nXc 9) ∈ lw_tbl ∧ Cond.initialized (clsN 9) ∈ lw_tbl := ⟨List.mem_of_getElem? (i := 126) (by decide +kernel), List.mem_of_getElem? (i := 25) (by decide +kernel)⟩
theorem ins10 : Cond.instantiable (clsN 10) (nXc 10) ∈ lw_tbl ∧ Cond.initialized (clsN 10) ∈ lw_tbl := ⟨List.mem_of_getElem? (i := 45) (by decide +kernel), List.mem_of_getElem? (i := 21) (by decide +kernel)⟩
theorem inst_ok {a : Nat} (ha : a < 11) : Cond.instantiable (clsN a) (nXc a) ∈ lw_tbl ∧ Cond.initialized (clsN a) ∈ lw_tbl :=
  lt11 (P := fun a => Cond.instantiable (clsN a) (nXc a) ∈ lw_tbl ∧ Cond.initialized (clsN a) ∈ lw_tbl) ha ins0 ins1 ins2 ins3 ins4 ins5 ins6 ins7 ins8 ins9 ins10
theorem ty9 {a : Nat} (ha : a < 11) : ∀ k, k < nXc a → tcF (tyc a k) ≠ 9 :=
  lt11 (P := fun a => ∀ k, k < nXc a → tcF (tyc a k) ≠ 9) ha (by decide) (by decide) (by decide) (by decide) (by decide) (by decide) (by decide) (by decide) (by decide) (by decide) (by decide)
theorem dflt_of {t : FieldType} (h : tcF t ≠ 9) : defaultValue t = fvl (tcF t) 0 none 0 := by
  cases t <;> first | rfl | exact absurd rfl h
theorem arrc_int : Cond.arrayClass .int ∈ lw_tbl := List.mem_of_getElem? (i := 80) (by decide +kernel)
theorem vp_in_n {i : Int32} {n : Nat} (h : vp_in i n) : ¬ i < 0 := fun q => h (Or.inl q)
section RW2
variable {D : va_G} {base : Nat} {z : P0} {r : MI} {p : Program} {l : Launch} {e : Env} {R : Room} {s : State} {m : MethodId} {args : Array Value} {below : List Frame} {meth : Method} {c : Code} {H : Heap} {locs : List Loc} {cells slots : Nat} {Z : State → Prop} {pc : Nat} {arr : Array Slot} {rest : List Value}
variable {K : Nat → Nat × Nat} {I : Nat → Nat → Int32} {Rr : Nat → Nat → Option Nat} {L : Nat → Nat → Int64} {sz : Nat} {ex : Bool}
theorem va_S_new {base : Nat} {H0 H H1 : Heap} {locs : List Loc} (hS : va_S (fun q => base ≤ q) H0 H locs) (z1 : H1.size = H.size + 1) (o1 : ∀ q : Nat, q < H.size → H1[q]? = H[q]?) : va_S (fun q => base ≤ q) H0 H1 locs :=
  ⟨Nat.le_trans hS.1 (by omega), fun x h1 h2 => (o1 x (Nat.lt_of_lt_of_le h1 hS.1)).trans (hS.2.1 x h1 h2), hS.2.2⟩
theorem r_new (C : Cx l D base z r p e R s m args below meth c) (hH : HR D base (K, I, Rr, L, sz, true) s H) (hS : va_S (fun q => base ≤ q) s.heap H locs) {i a : Nat} (ha : a < 11) (hw : Cond.classLink (clsN (mi_cn r)) i (clsN a) ∈ lw_tbl) (hc1 : cells + 1 ≤ mi_mc r) (hc2 : slots + nXc a ≤ mi_ms r) (hd : decode (mi_by r) pc = .ok (.new i, 3))
    (k : ∀ H1, HR D base (upK K sz (100 + a, 0), I, Rr, L, sz + 1, true) s H1 → va_S (fun q => base ≤ q) s.heap H1 locs → W p l e R s m args below meth c H1 locs (cells + 1) (slots + nXc a) Z (F0 m (pc + 3) arr (.ref sz :: rest))) : W p l e R s m args below meth c H locs cells slots Z (F0 m pc arr rest) := by
  obtain ⟨c1, c2, c3, c4, c5, c6, c7, c8, c9, c10, c11, c12, hE, c14⟩ := C
  obtain ⟨Lv, cA, hw9⟩ := HR_w.mp hH
  obtain ⟨h1, h2, h3, h4, h5, h6, h7, h8, h9⟩ := id hw9
  obtain ⟨e1, e2⟩ := h9 rfl
  dsimp only at e1 e2
  have hcl := vCl_at ha
  have hKn := hE.2.1.1 a _ hcl
  refine W.newcK (own := clsN (mi_cn r)) c1 c2 c5 (hE.1.use hw rfl) (hE.1.use (inst_ok ha).1 rfl) (hE.1.use (inst_ok ha).2 rfl) rfl hd (Nat.le_trans hc1 c11) (Nat.le_trans hc2 c12) hKn.2.1 e1 fun H1 kC hkC g1 z1 o1 => ?_
  rw [← e1] at z1 o1
  refine k H1 (hw9.new (c := 0) (Nat.le_trans hE.2.2.2.2.2.2.2.2.2.2.2.2 hS.1) (Or.inr (by omega)) (fun q1 q2 => by omega) ?_ z1 o1) (va_S_new hS z1 o1)
  rw [celE_o (a := a) (by simp [upK])]
  refine ⟨_, hcl, (u_born (tyc a) (hE.1.hts (A := args)) (uw_ok ha) hKn hkC g1 (tyc_ok ha)).to fun j hj => ?_⟩
  rw [dflt_of (ty9 ha j hj)]
  have hz := (e2 sz (Nat.le_refl _)).2 j
  simp [vp_V, hj, hz.1, hz.2.1, hz.2.2]
theorem r_newa (C : Cx l D base z r p e R s m args below meth c) (hH : HR D base (K, I, Rr, L, sz, true) s H) (hS : va_S (fun q => base ≤ q) s.heap H locs) {ty : ArrayType} {a : Nat} (ha : a = 20 ∧ ty = .int) {n : Int32} (hn : ¬ n < 0) (hb : n.toNatClampNeg ≤ 3000) (hc1 : cells + 1 ≤ mi_mc r) (hc2 : slots + n.toNatClampNeg ≤ mi_ms r) (hd : decode (mi_by r) pc = .ok (.newarray ty, 2))
    (k : ∀ H1, HR D base (upK K sz (a, n.toNatClampNeg), I, Rr, L, sz + 1, true) s H1 → va_S (fun q => base ≤ q) s.heap H1 locs → W p l e R s m args below meth c H1 locs (cells + 1) (slots + n.toNatClampNeg) Z (F0 m (pc + 2) arr (.ref sz :: rest))) : W p l e R s m args below meth c H locs cells slots Z (F0 m pc arr (.int n :: rest)) := by
  obtain ⟨c1, c2, c3, c4, c5, c6, c7, c8, c9, c10, c11, c12, hE, c14⟩ := C
  obtain ⟨Lv, cA, hw9⟩ := HR_w.mp hH
  obtain ⟨h1, h2, h3, h4, h5, h6, h7, h8, h9⟩ := id hw9
  obtain ⟨e1, e2⟩ := h9 rfl
  dsimp only at e1 e2
  have hz := (e2 sz (Nat.le_refl _)).2
  obtain ⟨rfl, rfl⟩ := ha
  · refine va_newaK (atype := .int) c1 c2 (hE.1.use arrc_int rfl) rfl hd rfl hn rfl (by show n.toNatClampNeg * componentBytes .int ≤ _; have h4 : componentBytes .int = 4 := rfl; rw [h4]; omega) (Nat.le_trans hc1 c11) (Nat.le_trans hc2 c12) e1 fun H1 cA1 g1 z1 o1 hAr hNm => ?_
    rw [← e1] at z1 o1
    refine k H1 (hw9.new (c := cA1) (Nat.le_trans hE.2.2.2.2.2.2.2.2.2.2.2.2 hS.1) (Or.inl (by omega)) (fun q1 q2 => ⟨hAr, hNm⟩) ?_ z1 o1) (va_S_new hS z1 o1)
    rw [celE_i (by simp [upK])]
    show H1[sz]? = some (vp_cell _ _)
    rw [g1]
    simp only [vp_cell_i, upK, if_true]
    congr 2
    funext j
    rw [(hz j).1]
    rfl
theorem r_anew (C : Cx l D base z r p e R s m args below meth c) (hH : HR D base (K, I, Rr, L, sz, true) s H) (hS : va_S (fun q => base ≤ q) s.heap H locs) {i a : Nat} {Cn : String} (ha : a = 22 ∨ a = 23 ∨ a = 24 ∨ a = 25) (hCn : arrTy a = .object Cn) (hCm : Cn ∈ [RX2, RX7, RX8, RX9]) (hw : Cond.classLink (clsN (mi_cn r)) i Cn ∈ lw_tbl) {n : Int32} (hn : ¬ n < 0) (hb : n.toNatClampNeg ≤ 3000) (hc1 : cells + 1 ≤ mi_mc r) (hc2 : slots + n.toNatClampNeg ≤ mi_ms r) (hd : decode (mi_by r) pc = .ok (.anewarray i, 3))
    (k : ∀ H1, HR D base (upK K sz (a, n.toNatClampNeg), I, Rr, L, sz + 1, true) s H1 → va_S (fun q => base ≤ q) s.heap H1 locs → W p l e R s m args below meth c H1 locs (cells + 1) (slots + n.toNatClampNeg) Z (F0 m (pc + 3) arr (.ref sz :: rest))) : W p l e R s m args below meth c H locs cells slots Z (F0 m pc arr (.int n :: rest)) := by
  obtain ⟨c1, c2, c3, c4, c5, c6, c7, c8, c9, c10, c11, c12, hE, c14⟩ := C
  obtain ⟨Lv, cA, hw9⟩ := HR_w.mp hH
  obtain ⟨h1, h2, h3, h4, h5, h6, h7, h8, h9⟩ := id hw9
  obtain ⟨e1, e2⟩ := h9 rfl
  dsimp only at e1 e2
  have hz := (e2 sz (Nat.le_refl _)).2
  refine W.anew (own := clsN (mi_cn r)) c1 c2 c5 (hE.1.use hw rfl) (va_AO.use (hE.2.2.2.2.2.2.2.2.2.2.2.1 Cn hCm)) rfl hd rfl hn (by omega) (Nat.le_trans hc1 c11) (Nat.le_trans hc2 c12) fun cA1 kA comp f1 f2 f3 f4 => ?_
  generalize hH1 : H.push ({ cls := cA1, slots := Array.replicate n.toNatClampNeg .null, vm := .none } : Cell) = H1
  have z1 : H1.size = H.size + 1 := by rw [← hH1, Array.size_push]
  have g1 : H1[H.size]? = some (arrV cA1 n.toNatClampNeg (fun _ => .null)) := by rw [← hH1, Array.getElem?_push_size, ← arrV_new]
  have o1 : ∀ q : Nat, q < H.size → H1[q]? = H[q]? := fun q hq => by rw [← hH1, Array.getElem?_push, if_neg (Nat.ne_of_lt hq)]
  have hAr : ArrOfT s cA1 (.object Cn) := fun N z => ⟨(fun k h => by cases h), kA, f2, comp, f3⟩
  rw [e1] at g1 ⊢
  refine k H1 (hw9.new (c := cA1) (Nat.le_trans hE.2.2.2.2.2.2.2.2.2.2.2.2 hS.1) (Or.inl (by omega)) (fun q1 q2 => by rw [hCn]; exact ⟨hAr, kA, comp, f2, f3, f4, f1⟩) ?_ z1 o1) (va_S_new hS z1 o1)
  rw [celE_r (by simp only [upK, if_true]; omega)]
  show H1[sz]? = some (vp_cell _ _)
  rw [g1]
  simp only [vp_cell_q, upK, if_true]
  congr 2
  funext j
  rw [(hz j).2.1]
  rfl
theorem r_alen (C : Cx l D base z r p e R s m args below meth c) (hH : HR D base (K, I, Rr, L, sz, ex) s H) (hS : va_S (fun q => base ≤ q) s.heap H locs) {x : Nat} (hx : isArr (K x).1 = true) (hd : decode (mi_by r) pc = .ok (.arraylength, 1))
    (k : W p l e R s m args below meth c H locs cells slots Z (F0 m (pc + 1) arr (.int (Int32.ofNat (K x).2) :: rest))) : W p l e R s m args below meth c H locs cells slots Z (F0 m pc arr (.ref x :: rest)) := by
  obtain ⟨c1, c2, c3, c4, c5, c6, c7, c8, c9, c10, c11, c12, hE, c14⟩ := C
  obtain ⟨Lv, cA, h1, h2, h3, h4, h5, h6, -⟩ := hH
  simp only [isArr, Bool.or_eq_true, beq_iff_eq] at hx
  by_cases hlv : (K x).1 ≤ 25
  · have hm : x ∈ Lv := (h1 x).mpr (Or.inl (by show 20 ≤ (K x).1 ∧ (K x).1 ≤ 25; omega))
    obtain ⟨a1, a2⟩ := h4 x (by show 20 ≤ (K x).1; omega) hlv
    have hat := va_pl_at h2 hm
    by_cases q1 : (K x).1 = 20
    · rw [celE_i (σ := (K, I, Rr, L, sz, ex)) q1] at hat
      exact W.alen (n := Int32.ofNat (K x).2) c1 c2 hat (a1 (K x).2 (fun j => .int (I x j))) (by show (arrV _ _ _).slots.size.toInt32 = _; rw [arrV_size] <;> rfl) rfl rfl hd k
    · by_cases q2 : (K x).1 = 21
      · rw [celE_j (σ := (K, I, Rr, L, sz, ex)) q2] at hat
        exact W.alen (n := Int32.ofNat (K x).2) c1 c2 hat (a1 (K x).2 (fun j => .long (L x j))) (by show (arrV _ _ _).slots.size.toInt32 = _; rw [arrV_size] <;> rfl) rfl rfl hd k
      · rw [celE_r (σ := (K, I, Rr, L, sz, ex)) (by show (K x).1 = 22 ∨ (K x).1 = 23 ∨ (K x).1 = 24 ∨ (K x).1 = 25; omega)] at hat
        exact W.alen (n := Int32.ofNat (K x).2) c1 c2 hat (a1 (K x).2 (fun j => va_rf (Rr x j))) (by show (arrV _ _ _).slots.size.toInt32 = _; rw [arrV_size] <;> rfl) rfl rfl hd k
  · rcases (show (K x).1 = 50 ∨ (K x).1 = 51 by omega) with q | q
    · obtain ⟨cell, g1, g2, g3, g4, g5, g6, g7⟩ := h5 x q
      exact W.alen (n := Int32.ofNat (K x).2) c1 c2 g1 g2 g5 rfl rfl hd k
    · obtain ⟨cell, g1, g2, g3, g4, g5, g6, g7⟩ := h6 x q
      exact W.alen (n := Int32.ofNat (K x).2) c1 c2 g1 g2 g5 rfl rfl hd k
theorem nn32 (z : Int32) (hz : ¬ z < 0) : z.toInt = (z.toNatClampNeg : Int) := by
  have hz0 : (0 : Int) ≤ z.toInt := by
    have := Int32.not_lt.mp hz
    simpa using Int32.le_iff_toInt_le.mp this
  show z.toInt = ((z.toInt.toNat : Nat) : Int)
  omega
theorem wsum_eq (l : List Value) : (l.map fun v => v.category).sum = wsum l := by
  induction l with
  | nil => rfl
  | cons v l ih => simp [wsum, ih]
theorem ac_nat : Cond.native arraycopyName ∈ lw_tbl := List.mem_of_getElem? (i := 147) (by decide +kernel)
theorem ac_sta : Cond.static arraycopyName ∈ lw_tbl := List.mem_of_getElem? (i := 146) (by decide +kernel)
theorem ac_ini : Cond.initialized "java/lang/System" ∈ lw_tbl := List.mem_of_getElem? (i := 26) (by decide +kernel)
theorem r_copy (C : Cx l D base z r p e R s m args below meth c) (hH : HR D base (K, I, Rr, L, sz, ex) s H) (hS : va_S (fun q => base ≤ q) s.heap H locs) {i x y : Nat} (hw : Cond.methodLink (clsN (mi_cn r)) i arraycopyName ∈ lw_tbl) {sp dp n : Int32} (hx : (K x).1 = 20 ∨ (K x).1 = 50) (hy : (K y).1 = 20) (h1 : ¬ sp < 0) (h2 : ¬ dp < 0) (h3 : ¬ n < 0) (h4 : sp.toNatClampNeg + n.toNatClampNeg ≤ (K x).2) (h5 : dp.toNatClampNeg + n.toNatClampNeg ≤ (K y).2)
    (hwr : wsum rest ≤ 8) (hml : arr.size = c.maxLocals) (hht : 1 ≤ mi_ht r) (hd : decode (mi_by r) pc = .ok (.invokestatic i, 3))
    (k : ∀ H1 locs1, HR D base (K, cpI I x sp.toNatClampNeg y dp.toNatClampNeg n.toNatClampNeg, Rr, L, sz, ex) s H1 → va_S (fun q => base ≤ q) s.heap H1 locs1 → W p l e R s m args below meth c H1 locs1 cells slots Z (F0 m (pc + 3) arr rest)) : W p l e R s m args below meth c H locs cells slots Z (F0 m pc arr (.int n :: .int dp :: .ref y :: .int sp :: .ref x :: rest)) := by
  obtain ⟨c1, c2, c3, c4, c5, c6, c7, c8, c9, c10, c11, c12, hE, c14⟩ := C
  obtain ⟨Lv, cA, hw9⟩ := HR_w.mp hH
  obtain ⟨g1, g2, g3, g4, g5, g6, -⟩ := id hw9
  have hlive : live (K y).1 := Or.inl (by omega)
  have hm : y ∈ Lv := (g1 y).mpr hlive
  have hyb : base ≤ y := va_pl_base g3 hm
  have hat := va_pl_at g2 hm
  rw [celE_i (σ := (K, I, Rr, L, sz, ex)) hy] at hat
  have hc1 : H[y]? = some (vp_cell (cA y) ((K y).2, .inl (I y))) := hat
  obtain ⟨a1, a2⟩ := g4 y (by show 20 ≤ (K y).1; omega) (by show (K y).1 ≤ 25; omega)
  have ey : arrTy (K y).1 = .int := by rw [hy]; rfl
  dsimp only at a1 a2
  rw [ey] at a1 a2
  obtain ⟨-, k1, hk1, cm1, hkk1⟩ := a1 (K y).2 (fun j => .int (I y j))
  -- the source cell
  obtain ⟨scr, hs1, hs2, hs3, hs4, hs5⟩ : ∃ scr : Cell, H[x]? = some scr ∧ s.isArrayOf scr .int ∧ scr.vm ≠ .unknown ∧ (K x).2 ≤ scr.slots.size ∧ ∀ j : Nat, j < (K x).2 → scr.slots[j]? = some (.int (I x j)) := by
    rcases hx with hx | hx
    · have hmx : x ∈ Lv := (g1 x).mpr (Or.inl (by show 20 ≤ (K x).1 ∧ (K x).1 ≤ 25; omega))
      have hatx := va_pl_at g2 hmx
      rw [celE_i (σ := (K, I, Rr, L, sz, ex)) hx] at hatx
      obtain ⟨b1, b2⟩ := g4 x (by show 20 ≤ (K x).1; omega) (by show (K x).1 ≤ 25; omega)
      have exx : arrTy (K x).1 = .int := by rw [hx]; rfl
      dsimp only at b1 b2
      rw [exx] at b1 b2
      refine ⟨_, hatx, b1 (K x).2 (fun j => .int (I x j)), (fun h => by cases h), by show _ ≤ (arrV _ _ _).slots.size; rw [arrV_size]; exact Nat.le_refl _, fun j hj => ?_⟩
      show (arrV _ _ _).slots[_]? = _
      rw [arrV_read _ _ hj]
    · obtain ⟨cell, q1, q2, q3, q4, q5, q6, q7⟩ := g5 x hx
      exact ⟨cell, q1, q2, q3, q4, q6⟩
  obtain ⟨hs6, k0, hk0, cm0, hkk0⟩ := hs2
  have hloc : (rest.map fun v => v.category).sum + (nativeFrameWords "java/lang/System" "arraycopy" 5 + 11) ≤ R.locals := by
    have hw2 : nativeFrameWords "java/lang/System" "arraycopy" 5 ≤ 12 := by decide
    rw [wsum_eq]
    omega
  intro T hT X
  obtain ⟨vm', X', step⟩ := X.arraycopy (own := clsN (mi_cn r)) c1 c5 (hE.1.use hw rfl) (hE.1.use ac_nat rfl) (hE.1.use ac_sta rfl) (hE.1.use ac_ini rfl) (src := x) (dst := y) (cs := scr) (cd := vp_cell (cA y) ((K y).2, .inl (I y))) (srcPos := sp) (destPos := dp) (n := n) (by rw [hT]; exact hs1) (by rw [hT]; exact hc1)
    hs6 (fun _ h => by cases h) hs3 (fun h => by cases h) hk0 hk1 hkk0 hkk1 (by simp [refKind]) h1 h2 h3
    (by rw [nn32 sp h1, nn32 n h3]; omega)
    (by rw [nn32 dp h2, nn32 n h3]; show ¬ _ > ((arrV (cA y) (K y).2 (fun j => .int (I y j))).slots.size : Int); rw [arrV_size]; omega)
    (fun vm₁ _ i hi => by
      have e : scr.slots.getD (sp.toNatClampNeg + i) .null = .int (I x (sp.toNatClampNeg + i)) := by
        rw [Array.getD_eq_getD_getElem?, hs5 _ (by omega)]
        rfl
      refine ⟨?_, ?_⟩
      · rw [e]
        rfl
      · rw [e]
        exact trivial)
    (g := F0 m pc arr (.int n :: .int dp :: .ref y :: .int sp :: .ref x :: rest)) rfl hml (rest := rest) rfl (by rw [c2]; exact hd) (by omega) (by show 2 * 0 + _ + _ ≤ _; omega)
  have e1 : copied scr (vp_cell (cA y) ((K y).2, .inl (I y))) sp dp n = vp_cell (cA y) ((K y).2, .inl (va_cpy (I x) (I y) sp.toNatClampNeg dp.toNatClampNeg n.toNatClampNeg)) := va_copiedX (fun z => .int z) scr (cA y) (I x) (I y) hs5 h4
  rw [e1] at X' step
  have hl : y < H.size := (Array.getElem?_eq_some_iff.mp hc1).1
  have hheap : ((T.setVm vm').setCell y (vp_cell (cA y) ((K y).2, .inl (va_cpy (I x) (I y) sp.toNatClampNeg dp.toNatClampNeg n.toNatClampNeg)))).heap = H.setIfInBounds y (vp_cell (cA y) ((K y).2, .inl (va_cpy (I x) (I y) sp.toNatClampNeg dp.toNatClampNeg n.toNatClampNeg))) := by rw [← hT]; rfl
  have oq : ∀ q : Nat, q ≠ y → (H.setIfInBounds y (vp_cell (cA y) ((K y).2, .inl (va_cpy (I x) (I y) sp.toNatClampNeg dp.toNatClampNeg n.toNatClampNeg))))[q]? = H[q]? := fun q hq => by simp [Array.getElem?_setIfInBounds, Ne.symm hq]
  have hz : (H.setIfInBounds y (vp_cell (cA y) ((K y).2, .inl (va_cpy (I x) (I y) sp.toNatClampNeg dp.toNatClampNeg n.toNatClampNeg)))).size = H.size := by simp
  obtain ⟨t, b1, b2⟩ := k _ _ (hw9.set (τ := (K, cpI I x sp.toNatClampNeg y dp.toNatClampNeg n.toNatClampNeg, Rr, L, sz, ex)) hlive rfl (fun b hb => ⟨cpI_ne hb, rfl, rfl⟩) rfl (by
      rw [celE_i (σ := (K, cpI I x sp.toNatClampNeg y dp.toNatClampNeg n.toNatClampNeg, Rr, L, sz, ex)) hy]
      show (H.setIfInBounds y _)[y]? = some _
      have ec : va_cpy (I x) (I y) sp.toNatClampNeg dp.toNatClampNeg n.toNatClampNeg = cpI I x sp.toNatClampNeg y dp.toNatClampNeg n.toNatClampNeg y := by
        funext j
        simp [va_cpy, cpI]
      rw [ec]
      simp [Array.getElem?_setIfInBounds, hl]) hz oq) ⟨by rw [hz]; exact hS.1, fun q q1 q2 => by
      rw [oq q (fun e => q2 (by rw [e]; exact hyb))]
      exact hS.2.1 q q1 q2, fun q hq => by
      rcases List.mem_append.mp hq with h | h
      · exact hS.2.2 q h
      · obtain ⟨z, -, hz⟩ := List.mem_map.mp h
        rw [← hz]
        exact hyb⟩ _ hheap X'
  exact ⟨t, step t b1, b2⟩
theorem sv_word0 : Cond.fieldLink "java/lang/String" 15 "java/lang/String" "coder" "B" ∈ lw_tbl := List.mem_of_getElem? (i := 900) (by decide +kernel)
theorem sv_word1 : Cond.fieldLink "java/lang/String" 9 "java/lang/String" "value" "[B" ∈ lw_tbl := List.mem_of_getElem? (i := 899) (by decide +kernel)
theorem r_sgetf (C : Cx l D base z r p e R s m args below meth c) (hH : HR D base (K, I, Rr, L, sz, ex) s H) (hS : va_S (fun q => base ≤ q) s.heap H locs) {i b cc x : Nat} (hcn : mi_cn r = 15) (hbc : (b = 0 ∧ i = 15 ∧ cc = 0) ∨ (b = 1 ∧ i = 9 ∧ cc = 3)) (hx : (K x).1 = 52) (hd : decode (mi_by r) pc = .ok (.getfield i, 3))
    (k : W p l e R s m args below meth c H locs cells slots Z (F0 m (pc + 3) arr (fvl cc (I x b) (Rr x b) (L x b) :: rest))) : W p l e R s m args below meth c H locs cells slots Z (F0 m pc arr (.ref x :: rest)) := by
  obtain ⟨c1, c2, c3, c4, c5, c6, c7, c8, c9, c10, c11, c12, hE, c14⟩ := C
  obtain ⟨Lv, cA, g1, g2, g3, g4, g5, g6, g7, -⟩ := hH
  obtain ⟨q1, q2, q3⟩ := g7 x hx
  have hro := ro_conv hS hE.2.2.2.2.2.2.2.2.2.2.2.2
  rw [hcn] at c5
  rcases hbc with ⟨rfl, rfl, rfl⟩ | ⟨rfl, rfl, rfl⟩
  · exact vk_getf (own := "java/lang/String") (ref := "java/lang/String") c1 c2 (q2.kept hro) hS c5 (hE.1.use sv_word0 rfl) (fun _ h => h) hd k
  · exact vk_getf (own := "java/lang/String") (ref := "java/lang/String") c1 c2 (q3.kept hro) hS c5 (hE.1.use sv_word1 rfl) (fun _ h => h) hd k
theorem r_gets (C : Cx l D base z r p e R s m args below meth c) (hS : va_S (fun q => base ≤ q) s.heap H locs) {i a : Nat} (ha : a < 5) (hw : gsW (mi_cn r) i a ∈ lw_tbl) (hd : decode (mi_by r) pc = .ok (.getstatic i, 3))
    (k : W p l e R s m args below meth c H locs cells slots Z (F0 m (pc + 3) arr ((if a < 3 then .ref (z.1 a) else if a = 3 then .int 1 else z.2) :: rest))) : W p l e R s m args below meth c H locs cells slots Z (F0 m pc arr rest) := by
  obtain ⟨c1, c2, c3, c4, c5, c6, c7, c8, c9, c10, c11, c12, hE, c14⟩ := C
  obtain ⟨e1, e2, e3, e4, e5, e6, e7, -⟩ := id hE
  rcases (show a = 0 ∨ a = 1 ∨ a = 2 ∨ a = 3 ∨ a = 4 by omega) with rfl | rfl | rfl | rfl | rfl
  · exact va_getsN (own := clsN (mi_cn r)) c1 c2 e3 hS c5 (hE.1.use hw rfl) (fun _ h => h) hd k
  · exact va_gets (own := clsN (mi_cn r)) c1 c2 e4 hS c5 (hE.1.use hw rfl) (fun _ h => h) hd k
  · exact va_gets (own := clsN (mi_cn r)) c1 c2 e5 hS c5 (hE.1.use hw rfl) (fun _ h => h) hd k
  · exact va_gets (own := clsN (mi_cn r)) c1 c2 e6 hS c5 (hE.1.use hw rfl) (fun _ h => h) hd k
  · exact va_gets (own := clsN (mi_cn r)) c1 c2 e7 hS c5 (hE.1.use hw rfl) (fun _ h => h) hd k
end RW2
