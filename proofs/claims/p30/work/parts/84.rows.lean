/-! rows of the machine over a memory: fields, arrays, new, copies -/
/-- what holds all along a method's walk -/
def Cx (l : Launch) (D : va_G) (base : Nat) (z : P0) (r : MI) (p : Program) (e : Env) (R : Room) (s : State) (m : MethodId) (args : Array Value) (below : List Frame) (meth : Method) (c : Code) : Prop :=
  p.tables.exec = Jvm.exec ∧ c.code = mi_by r ∧ c.maxLocals = mi_ml r ∧ meth.sig.returnType = mi_rt r ∧ s.vm.findClass (clsN (mi_cn r)) = some m.cls ∧ meth.locks = false ∧ meth.name = (mi_nm r).name ∧ c.exceptionTable.toList = tableOf (mi_hh r) ∧
  mi_ht r ≤ R.frames ∧ 42 * mi_ht r ≤ R.locals ∧ mi_mc r ≤ R.cells ∧ mi_ms r ≤ R.slots ∧ EW D base z s s.heap ∧ l.stackTraces = false
theorem mem_tbl {i : Nat} {w : Cond} (h : lw_tbl[i]? = some w) : w ∈ lw_tbl := List.mem_of_getElem? h
theorem okFl_spec {r : MI} {i a b : Nat} {ts : List Nat} (h : okFl r i a b ts = true) : a < 11 ∧ b < nXc a ∧ (Cond.fieldLink (clsN (mi_cn r)) i (TXc a b).1 (TXc a b).2.1 (TXc a b).2.2.1 ∈ lw_tbl ∨ Cond.fieldLinkNest (clsN (mi_cn r)) i (TXc a b).1 (TXc a b).2.1 (TXc a b).2.2.1 "HouseholdMail" ∈ lw_tbl) := by
  unfold okFl at h
  cases hq : flAt ts with
  | none => rw [hq] at h; cases h
  | some q =>
    rw [hq] at h
    simp only [Bool.and_eq_true, beq_iff_eq] at h
    obtain ⟨⟨⟨h1, h2⟩, h3⟩, h4⟩ := h
    have hm : q ∈ FL := by
      unfold flAt at hq
      split at hq
      · exact List.mem_of_getElem? hq
      · cases hq
    obtain ⟨g1, g2, g3⟩ := FL_ok q hm
    rw [h3] at g2 g3
    rw [h4] at g3
    refine ⟨g2, g3, ?_⟩
    have g4 := mem_tbl g1
    unfold flW at g4
    rw [h1, h2, h3, h4] at g4
    split at g4
    · exact Or.inl g4
    · exact Or.inr g4
theorem okWd_spec {ts : List Nat} {w : Cond} (h : okWd ts w = true) : w ∈ lw_tbl := by
  unfold okWd at h
  split at h
  · exact mem_tbl (of_decide_eq_true h)
  · cases h
theorem celE_o {cA : Nat → ClassId} {σ : Mem} {x a : Nat} (h : (σ.1 x).1 = 100 + a) : celE cA σ x = .inr (a, (List.range (nXc a)).map fun k => fvl (tcF (tyc a k)) (σ.2.1 x k) (σ.2.2.1 x k) (σ.2.2.2.1 x k)) := by
  unfold celE
  rw [h, if_neg (by omega), if_neg (by omega), if_neg (by omega), Nat.add_sub_cancel_left]
theorem celE_i {cA : Nat → ClassId} {σ : Mem} {x : Nat} (h : (σ.1 x).1 = 20) : celE cA σ x = .inl (cA x, (σ.1 x).2, .inl (σ.2.1 x)) := by
  unfold celE
  rw [if_pos h]
theorem celE_j {cA : Nat → ClassId} {σ : Mem} {x : Nat} (h : (σ.1 x).1 = 21) : celE cA σ x = .inl (cA x, (σ.1 x).2, .inr (.inl (σ.2.2.2.1 x))) := by
  unfold celE
  rw [if_neg (by omega), if_pos h]
theorem celE_r {cA : Nat → ClassId} {σ : Mem} {x : Nat} (h : (σ.1 x).1 = 22 ∨ (σ.1 x).1 = 23 ∨ (σ.1 x).1 = 24 ∨ (σ.1 x).1 = 25) : celE cA σ x = .inl (cA x, (σ.1 x).2, .inr (.inr (.inr (.inr (σ.2.2.1 x))))) := by
  unfold celE
  rw [if_neg (by omega), if_neg (by omega), if_pos (by omega)]
theorem va_K1 {D : va_G} {cl : List vw_C} {U : State} {c : ClassId} {ty : FieldType} (h : va_K D cl [] U) (h1 : ArrOfT U c ty) (h2 : va_RA U c ty) : va_K D cl [(c, ty)] U := by
  refine ⟨h.1, fun k q hq => ?_⟩
  have hk := (List.getElem?_eq_some_iff.mp hq).1
  simp only [List.length_singleton] at hk
  obtain rfl : k = 0 := by omega
  cases hq
  exact ⟨h1, h2⟩
theorem va_K2 {D : va_G} {cl : List vw_C} {U : State} {c c2 : ClassId} {ty ty2 : FieldType} (h : va_K D cl [] U) (h1 : ArrOfT U c ty) (h2 : va_RA U c ty) (h3 : ArrOfT U c2 ty2) (h4 : va_RA U c2 ty2) : va_K D cl [(c, ty), (c2, ty2)] U := by
  refine ⟨h.1, fun k q hq => ?_⟩
  have hk := (List.getElem?_eq_some_iff.mp hq).1
  simp only [List.length_cons, List.length_nil] at hk
  rcases (show k = 0 ∨ k = 1 by omega) with rfl | rfl
  · cases hq
    exact ⟨h1, h2⟩
  · cases hq
    exact ⟨h3, h4⟩
section RW
variable {D : va_G} {base : Nat} {z : P0} {r : MI} {p : Program} {l : Launch} {e : Env} {R : Room} {s : State} {m : MethodId} {args : Array Value} {below : List Frame} {meth : Method} {c : Code} {H : Heap} {locs : List Loc} {cells slots : Nat} {Z : State → Prop} {pc : Nat} {arr : Array Slot} {rest : List Value}
variable {K : Nat → Nat × Nat} {I : Nat → Nat → Int32} {Rr : Nat → Nat → Option Nat} {L : Nat → Nat → Int64} {sz : Nat} {ex : Bool}
theorem r_getf (C : Cx l D base z r p e R s m args below meth c) (hH : HR D base (K, I, Rr, L, sz, ex) s H) {i a b cc : Nat} {ts : List Nat} (hok : okFl r i a b ts = true) (hc : cc = tcF (tyc a b)) {x : Nat} (hx : (K x).1 = 100 + a) (hd : decode (mi_by r) pc = .ok (.getfield i, 3))
    (k : W p l e R s m args below meth c H locs cells slots Z (F0 m (pc + 3) arr (fvl cc (I x b) (Rr x b) (L x b) :: rest))) : W p l e R s m args below meth c H locs cells slots Z (F0 m pc arr (.ref x :: rest)) := by
  obtain ⟨c1, c2, c3, c4, c5, c6, c7, c8, c9, c10, c11, c12, hE, c14⟩ := C
  obtain ⟨Lv, cA, h1, h2, h3, -⟩ := hH
  obtain ⟨ha, hb, hw⟩ := okFl_spec hok
  have hm : x ∈ Lv := (h1 x).mpr (Or.inr (by show 100 ≤ (K x).1 ∧ (K x).1 < 111; omega))
  obtain ⟨k0, hk0⟩ := va_pl_get (X := []) (f := celE cA (K, I, Rr, L, sz, ex)) hm
  rw [celE_o (σ := (K, I, Rr, L, sz, ex)) hx] at hk0
  subst hc
  have hv : ((List.range (nXc a)).map fun k => fvl (tcF (tyc a k)) (I x k) (Rr x k) (L x k))[b]? = some (fvl (tcF (tyc a b)) (I x b) (Rr x b) (L x b)) := by simp [hb]
  rcases hw with hw | hw
  · exact va_get (own := clsN (mi_cn r)) c1 c2 hE.1.hts (uw_ok ha) c5 hE.2.1 h2 k0 hk0 (vCl_at ha) b hb (hE.1.use hw rfl) (fun _ h => h) hv hd k
  · exact va_getN (own := clsN (mi_cn r)) c1 c2 hE.1.hts (uw_ok ha) c5 hE.2.1 h2 k0 hk0 (vCl_at ha) b hb (hE.1.use hw rfl) (fun _ h => h) hv hd k
/-- the core of a store into a field -/
theorem r_put (C : Cx l D base z r p e R s m args below meth c) {Lv : List Nat} {cA : Nat → ClassId} (hH : HRw D base (K, I, Rr, L, sz, ex) s H Lv cA) (hS : va_S (fun q => base ≤ q) s.heap H locs) {i a b : Nat} {ts : List Nat} (hok : okFl r i a b ts = true) {x : Nat} (hx : (K x).1 = 100 + a) (hd : decode (mi_by r) pc = .ok (.putfield i, 3))
    (hfin : (TXc a b).2.2.2 = true → (mi_nm r).name = "<init>" ∧ mi_cn r = a ∧ (TXc a b).1 = clsN a) {v : Value} (hn : narrow (tyc a b) v = v) (hf : fits (tyc a b) v = true) {τ : Mem} (hK : τ.1 = K) (hsz : τ.2.2.2.2 = (sz, ex))
    (hne : ∀ y, y ≠ x → τ.2.1 y = I y ∧ τ.2.2.1 y = Rr y ∧ τ.2.2.2.1 y = L y) (hcel : celE cA τ x = .inr (a, ((List.range (nXc a)).map fun k => fvl (tcF (tyc a k)) (I x k) (Rr x k) (L x k)).set b v))
    (k : ∀ H1 locs1, HR D base τ s H1 → va_S (fun q => base ≤ q) s.heap H1 locs1 → W p l e R s m args below meth c H1 locs1 cells slots Z (F0 m (pc + 3) arr rest)) : W p l e R s m args below meth c H locs cells slots Z (F0 m pc arr (v :: .ref x :: rest)) := by
  obtain ⟨c1, c2, c3, c4, c5, c6, c7, c8, c9, c10, c11, c12, hE, c14⟩ := C
  obtain ⟨h1, h2, h3, -⟩ := id hH
  obtain ⟨ha, hb, hw⟩ := okFl_spec hok
  have hlive : live (K x).1 := Or.inr (by omega)
  have hm : x ∈ Lv := (h1 x).mpr hlive
  have hxb : base ≤ x := va_pl_base h3 hm
  obtain ⟨k0, hk0⟩ := va_pl_get (X := []) (f := celE cA (K, I, Rr, L, sz, ex)) hm
  rw [celE_o (σ := (K, I, Rr, L, sz, ex)) hx] at hk0
  dsimp only at hk0
  generalize hfs : ((List.range (nXc a)).map fun k => fvl (tcF (tyc a k)) (I x k) (Rr x k) (L x k)) = fs at hk0 hcel
  have hlen : b < fs.length := by rw [← hfs]; simpa using hb
  have hts := hE.1.hts (A := args)
  have hin := uw_ok ha
  have hk := hE.2.1
  have hcl := vCl_at ha
  have hap := va_apart (own := clsN (mi_cn r)) hts hin (tyc a) (tyc_ok ha) (nmc_ok ha) hk hcl
  obtain ⟨rr, g1, cell, q1, q2, q3, q4⟩ := h2 k0 _ hk0
  have hr : rr = (clsN a, TXc a, nXc a) := Option.some.inj (g1.symm.trans hcl)
  subst hr
  obtain ⟨hS9, hfc, kC, hkC, hkind⟩ := hk.1 a _ hcl
  obtain ⟨cf, kf, fi, f, hi, hsl⟩ := hS9 b hb
  have hlay := hts _ (hin _ (u_in_lay hb))
  have hst := (u_facts hfc hkC (u_lays hts hin hb) hi).1
  have fin : ∀ H' : Heap, H'[x]? = some (cell.setSlot f.slot v) → H'.size = H.size → (∀ q, q ≠ x → H'[q]? = H[q]?) → W p l e R s m args below meth c H' (locs ++ [⟨x, f.slot⟩]) cells slots Z (F0 m (pc + 3) arr rest) := by
    intro H' e1 e2 e3
    rw [hsl] at e1
    refine k H' _ (hH.set hlive hK hne (by rw [hsz]) ?_ e2 e3) (hS.put e2 e3 hxb)
    rw [hcel]
    exact ⟨_, hcl, t_OB.to (V := updV (vp_V fs) b v) ⟨_, e1, q2, q3, t_set q4 hap hb v⟩ (fun j _ => vp_updV_set hlen v j)⟩
  unfold u_lay at hlay
  by_cases hF : (TXc a b).2.2.2 = true
  · rw [if_pos hF] at hlay
    obtain ⟨n1, n2, n3⟩ := hfin hF
    have hcf : m.cls = cf := by
      obtain ⟨_, _, c', _, _, _, -, -, hf', -, -, -, hown2, -⟩ := Cond.laysFinal_spec hlay
      have e1 : c' = cf := by have := hi.symm.trans hf'; simp at this; exact this.1.symm
      rw [n3, ← n2] at hown2
      rw [← e1]; exact Option.some.inj (c5.symm.trans hown2)
    have h6 := u_fits hfc hkC hkind (Or.inr hlay) hi (tyc_ok ha b hb) hn hf
    rcases hw with hw | hw
    · exact W.putFinK (own := clsN (mi_cn r)) c1 c2 c5 (hE.1.use hw rfl) hi hst hcf (by rw [c7]; exact n1) (by rw [q2]; exact h6) q1 q3 (by rw [hsl]; exact k2_hasslot (q4 b hb)) rfl rfl hd fin
    · refine va_Wputf (own := clsN (mi_cn r)) c1 c2 c5 (hE.1.use hw rfl) hi hst (Or.inr ⟨hcf, by rw [c7]; exact n1⟩) q1 (by rw [q3]; exact fun h => by cases h) (by rw [hsl]; exact k2_hasslot (q4 b hb)) h6.1 (by rw [q2, q3]; exact h6.2) rfl rfl hd ?_
      have hlt : x < H.size := (Array.getElem?_eq_some_iff.mp q1).1
      exact fin _ (by simp [Array.getElem?_setIfInBounds, hlt]) (by simp) (fun q hq => by simp [Array.getElem?_setIfInBounds, Ne.symm hq])
  · rw [if_neg hF] at hlay
    have h6 := u_store hfc hkC hkind hlay hi (tyc_ok ha b hb) hn hf
    rcases hw with hw | hw
    · exact W.putK (own := clsN (mi_cn r)) c1 c2 (f := f) ⟨c5, hE.1.use hw rfl, ⟨_, _, _, hi⟩, hst⟩ (by rw [q2]; exact h6) q1 q3 (by rw [hsl]; exact k2_hasslot (q4 b hb)) rfl rfl hd fin
    · exact va_WputK (own := clsN (mi_cn r)) c1 c2 (f := f) c5 (hE.1.use hw rfl) hi hst (by rw [q2]; exact h6) q1 q3 (by rw [hsl]; exact k2_hasslot (q4 b hb)) rfl rfl hd fin
theorem celE_putI {cA : Nat → ClassId} {x a b : Nat} {v : Int32} (hx : (K x).1 = 100 + a) (hc : tcF (tyc a b) = 0 ∨ tcF (tyc a b) = 1) : celE cA (K, up2 I x b v, Rr, L, sz, ex) x = .inr (a, ((List.range (nXc a)).map fun k => fvl (tcF (tyc a k)) (I x k) (Rr x k) (L x k)).set b (.int v)) := by
  rw [celE_o (σ := (K, up2 I x b v, Rr, L, sz, ex)) hx, map_set]
  dsimp only
  congr 2
  refine congrArg (fun g => (List.range (nXc a)).map g) (funext fun k => ?_)
  by_cases hk : k = b
  · subst hk
    rw [if_pos rfl]
    rcases hc with h | h <;> rw [h] <;> simp [fvl, up2]
  · rw [if_neg hk]
    simp [up2, hk]
theorem celE_putR {cA : Nat → ClassId} {x a b v : Nat} (hx : (K x).1 = 100 + a) (hc : tcF (tyc a b) = 3) : celE cA (K, I, up2 Rr x b (some v), L, sz, ex) x = .inr (a, ((List.range (nXc a)).map fun k => fvl (tcF (tyc a k)) (I x k) (Rr x k) (L x k)).set b (.ref v)) := by
  rw [celE_o (σ := (K, I, up2 Rr x b (some v), L, sz, ex)) hx, map_set]
  dsimp only
  congr 2
  refine congrArg (fun g => (List.range (nXc a)).map g) (funext fun k => ?_)
  by_cases hk : k = b
  · subst hk
    rw [if_pos rfl, hc]
    simp [fvl, up2, va_rf]
  · rw [if_neg hk]
    simp [up2, hk]
theorem celE_putJ {cA : Nat → ClassId} {x a b : Nat} {v : Int64} (hx : (K x).1 = 100 + a) (hc : tcF (tyc a b) = 2) : celE cA (K, I, Rr, up2 L x b v, sz, ex) x = .inr (a, ((List.range (nXc a)).map fun k => fvl (tcF (tyc a k)) (I x k) (Rr x k) (L x k)).set b (.long v)) := by
  rw [celE_o (σ := (K, I, Rr, up2 L x b v, sz, ex)) hx, map_set]
  dsimp only
  congr 2
  refine congrArg (fun g => (List.range (nXc a)).map g) (funext fun k => ?_)
  by_cases hk : k = b
  · subst hk
    rw [if_pos rfl, hc]
    simp [fvl, up2]
  · rw [if_neg hk]
    simp [up2, hk]
theorem ro_conv {H0 : Heap} {locs : List Loc} {base : Nat} {H : Heap} (hS : va_S (fun q => base ≤ q) H0 H locs) (hb : base ≤ H0.size) : ∀ a : Nat, a < H.size → ¬ base ≤ a → H0[a]? = H[a]? := fun a _ h => (hS.2.1 a (Nat.lt_of_lt_of_le (Nat.not_le.mp h) hb) h).symm
theorem r_iald (C : Cx l D base z r p e R s m args below meth c) (hH : HR D base (K, I, Rr, L, sz, ex) s H) (hS : va_S (fun q => base ≤ q) s.heap H locs) {x : Nat} {i : Int32} (hx : (K x).1 = 20 ∨ (K x).1 = 50) (hin : vp_in i (K x).2) (hd : decode (mi_by r) pc = .ok (.iaload, 1))
    (k : W p l e R s m args below meth c H locs cells slots Z (F0 m (pc + 1) arr (.int (I x i.toNatClampNeg) :: rest))) : W p l e R s m args below meth c H locs cells slots Z (F0 m pc arr (.int i :: .ref x :: rest)) := by
  obtain ⟨c1, c2, c3, c4, c5, c6, c7, c8, c9, c10, c11, c12, hE, c14⟩ := C
  obtain ⟨Lv, cA, h1, h2, h3, h4, h5, -⟩ := hH
  rcases hx with hx | hx
  · have hm : x ∈ Lv := (h1 x).mpr (Or.inl (by show 20 ≤ (K x).1 ∧ (K x).1 ≤ 25; omega))
    obtain ⟨k0, hk0⟩ := va_pl_get (X := []) (f := celE cA (K, I, Rr, L, sz, ex)) hm
    rw [celE_i (σ := (K, I, Rr, L, sz, ex)) hx] at hk0
    obtain ⟨a1, a2⟩ := h4 x (by show 20 ≤ (K x).1; omega) (by show (K x).1 ≤ 25; omega)
    have e : arrTy (K x).1 = .int := by rw [hx]; rfl
    dsimp only at a1 a2
    rw [e] at a1 a2
    exact va_iald c1 c2 (va_K1 hE.2.1 a1 a2) h2 k0 0 hk0 rfl hin hd k
  · have hT := (h5 x hx).kept (ro_conv hS hE.2.2.2.2.2.2.2.2.2.2.2.2)
    exact va_ti c1 c2 hT hS hin rfl hd k
theorem r_bald (C : Cx l D base z r p e R s m args below meth c) (hH : HR D base (K, I, Rr, L, sz, ex) s H) (hS : va_S (fun q => base ≤ q) s.heap H locs) {x : Nat} {i : Int32} (hx : (K x).1 = 51) (hin : vp_in i (K x).2) (hd : decode (mi_by r) pc = .ok (.baload, 1))
    (k : W p l e R s m args below meth c H locs cells slots Z (F0 m (pc + 1) arr (.int (I x i.toNatClampNeg) :: rest))) : W p l e R s m args below meth c H locs cells slots Z (F0 m pc arr (.int i :: .ref x :: rest)) := by
  obtain ⟨c1, c2, c3, c4, c5, c6, c7, c8, c9, c10, c11, c12, hE, c14⟩ := C
  obtain ⟨Lv, cA, h1, h2, h3, h4, h5, h6, -⟩ := hH
  have hT := (h6 x hx).kept (ro_conv hS hE.2.2.2.2.2.2.2.2.2.2.2.2)
  exact va_tb c1 c2 hT hS hin rfl hd k
theorem r_lald (C : Cx l D base z r p e R s m args below meth c) (hH : HR D base (K, I, Rr, L, sz, ex) s H) {x : Nat} {i : Int32} (hx : (K x).1 = 21) (hin : vp_in i (K x).2) (hd : decode (mi_by r) pc = .ok (.laload, 1))
    (k : W p l e R s m args below meth c H locs cells slots Z (F0 m (pc + 1) arr (.long (L x i.toNatClampNeg) :: rest))) : W p l e R s m args below meth c H locs cells slots Z (F0 m pc arr (.int i :: .ref x :: rest)) := by
  obtain ⟨c1, c2, c3, c4, c5, c6, c7, c8, c9, c10, c11, c12, hE, c14⟩ := C
  obtain ⟨Lv, cA, h1, h2, h3, h4, h5, -⟩ := hH
  have hm : x ∈ Lv := (h1 x).mpr (Or.inl (by show 20 ≤ (K x).1 ∧ (K x).1 ≤ 25; omega))
  obtain ⟨k0, hk0⟩ := va_pl_get (X := []) (f := celE cA (K, I, Rr, L, sz, ex)) hm
  rw [celE_j (σ := (K, I, Rr, L, sz, ex)) hx] at hk0
  obtain ⟨a1, a2⟩ := h4 x (by show 20 ≤ (K x).1; omega) (by show (K x).1 ≤ 25; omega)
  have e : arrTy (K x).1 = .long := by rw [hx]; rfl
  dsimp only at a1 a2
  rw [e] at a1 a2
  exact va_lald c1 c2 (va_K1 hE.2.1 a1 a2) h2 k0 0 hk0 rfl hin hd k
theorem arrTy_r {t : Nat} (h : t = 22 ∨ t = 23 ∨ t = 24 ∨ t = 25) : ∃ j, j < 11 ∧ arrTy t = .object (clsN j) ∧ elC t = 100 + j := by
  rcases h with h | h | h | h <;> subst h
  · exact ⟨2, by omega, rfl, rfl⟩
  · exact ⟨7, by omega, rfl, rfl⟩
  · exact ⟨8, by omega, rfl, rfl⟩
  · exact ⟨9, by omega, rfl, rfl⟩
theorem r_aald (C : Cx l D base z r p e R s m args below meth c) (hH : HR D base (K, I, Rr, L, sz, ex) s H) {x : Nat} {i : Int32} (hx : (K x).1 = 22 ∨ (K x).1 = 23 ∨ (K x).1 = 24 ∨ (K x).1 = 25) (hin : vp_in i (K x).2) (hd : decode (mi_by r) pc = .ok (.aaload, 1))
    (k : W p l e R s m args below meth c H locs cells slots Z (F0 m (pc + 1) arr (va_rf (Rr x i.toNatClampNeg) :: rest))) : W p l e R s m args below meth c H locs cells slots Z (F0 m pc arr (.int i :: .ref x :: rest)) := by
  obtain ⟨c1, c2, c3, c4, c5, c6, c7, c8, c9, c10, c11, c12, hE, c14⟩ := C
  obtain ⟨Lv, cA, h1, h2, h3, h4, h5, -⟩ := hH
  have hm : x ∈ Lv := (h1 x).mpr (Or.inl (by show 20 ≤ (K x).1 ∧ (K x).1 ≤ 25; omega))
  obtain ⟨k0, hk0⟩ := va_pl_get (X := []) (f := celE cA (K, I, Rr, L, sz, ex)) hm
  rw [celE_r (σ := (K, I, Rr, L, sz, ex)) hx] at hk0
  obtain ⟨a1, a2⟩ := h4 x (by show 20 ≤ (K x).1; omega) (by show (K x).1 ≤ 25; omega)
  obtain ⟨j, -, e, -⟩ := arrTy_r hx
  dsimp only at a1 a2
  rw [e] at a1 a2
  exact va_aldq c1 c2 (va_K1 hE.2.1 a1 a2) h2 k0 0 hk0 rfl hin hd k
theorem r_iast (C : Cx l D base z r p e R s m args below meth c) (hH : HR D base (K, I, Rr, L, sz, ex) s H) (hS : va_S (fun q => base ≤ q) s.heap H locs) {x : Nat} {i v : Int32} (hx : (K x).1 = 20) (hin : vp_in i (K x).2) (hd : decode (mi_by r) pc = .ok (.iastore, 1))
    (k : ∀ H1 locs1, HR D base (K, up2 I x i.toNatClampNeg v, Rr, L, sz, ex) s H1 → va_S (fun q => base ≤ q) s.heap H1 locs1 → W p l e R s m args below meth c H1 locs1 cells slots Z (F0 m (pc + 1) arr rest)) : W p l e R s m args below meth c H locs cells slots Z (F0 m pc arr (.int v :: .int i :: .ref x :: rest)) := by
  obtain ⟨c1, c2, c3, c4, c5, c6, c7, c8, c9, c10, c11, c12, hE, c14⟩ := C
  obtain ⟨Lv, cA, hw⟩ := HR_w.mp hH
  obtain ⟨h1, h2, h3, h4, h5, -⟩ := id hw
  have hlive : live (K x).1 := Or.inl (by omega)
  have hm : x ∈ Lv := (h1 x).mpr hlive
  have hxb : base ≤ x := va_pl_base h3 hm
  have hat := va_pl_at h2 hm
  rw [celE_i (σ := (K, I, Rr, L, sz, ex)) hx] at hat
  obtain ⟨a1, a2⟩ := h4 x (by show 20 ≤ (K x).1; omega) (by show (K x).1 ≤ 25; omega)
  have e : arrTy (K x).1 = .int := by rw [hx]; rfl
  dsimp only at a1 a2
  rw [e] at a1 a2
  refine W.iast c1 c2 hat (a1 (K x).2 (fun j => .int (I x j))) (fun q => by cases q) (by show ¬ (i < 0 ∨ (arrV _ _ _).slots.size ≤ _); rw [arrV_size]; exact hin) rfl rfl hd fun H1 e1 z1 oq => ?_
  refine k H1 _ (hw.set (τ := (K, up2 I x i.toNatClampNeg v, Rr, L, sz, ex)) hlive rfl (fun y hy => ⟨up2_ne hy, rfl, rfl⟩) rfl ?_ z1 oq) (hS.put z1 oq hxb)
  rw [celE_i (σ := (K, up2 I x i.toNatClampNeg v, Rr, L, sz, ex)) hx]
  show H1[x]? = some (vp_cell _ _)
  rw [e1, vp_cell_i, vp_cell_i, arrV_store]
  congr 2
  funext q
  by_cases hq : q = i.toNatClampNeg
  · subst hq
    simp [updV, up2]
  · simp [updV, up2, hq]
theorem r_last (C : Cx l D base z r p e R s m args below meth c) (hH : HR D base (K, I, Rr, L, sz, ex) s H) (hS : va_S (fun q => base ≤ q) s.heap H locs) {x : Nat} {i : Int32} {v : Int64} (hx : (K x).1 = 21) (hin : vp_in i (K x).2) (hd : decode (mi_by r) pc = .ok (.lastore, 1))
    (k : ∀ H1 locs1, HR D base (K, I, Rr, up2 L x i.toNatClampNeg v, sz, ex) s H1 → va_S (fun q => base ≤ q) s.heap H1 locs1 → W p l e R s m args below meth c H1 locs1 cells slots Z (F0 m (pc + 1) arr rest)) : W p l e R s m args below meth c H locs cells slots Z (F0 m pc arr (.long v :: .int i :: .ref x :: rest)) := by
  obtain ⟨c1, c2, c3, c4, c5, c6, c7, c8, c9, c10, c11, c12, hE, c14⟩ := C
  obtain ⟨Lv, cA, hw⟩ := HR_w.mp hH
  obtain ⟨h1, h2, h3, h4, h5, -⟩ := id hw
  have hlive : live (K x).1 := Or.inl (by omega)
  have hm : x ∈ Lv := (h1 x).mpr hlive
  have hxb : base ≤ x := va_pl_base h3 hm
  have hat := va_pl_at h2 hm
  rw [celE_j (σ := (K, I, Rr, L, sz, ex)) hx] at hat
  obtain ⟨a1, a2⟩ := h4 x (by show 20 ≤ (K x).1; omega) (by show (K x).1 ≤ 25; omega)
  have e : arrTy (K x).1 = .long := by rw [hx]; rfl
  dsimp only at a1 a2
  rw [e] at a1 a2
  refine W.last c1 c2 hat (a1 (K x).2 (fun j => .long (L x j))) (fun q => by cases q) (by show ¬ (i < 0 ∨ (arrV _ _ _).slots.size ≤ _); rw [arrV_size]; exact hin) rfl rfl hd fun H1 e1 z1 oq => ?_
  refine k H1 _ (hw.set (τ := (K, I, Rr, up2 L x i.toNatClampNeg v, sz, ex)) hlive rfl (fun y hy => ⟨rfl, rfl, up2_ne hy⟩) rfl ?_ z1 oq) (hS.put z1 oq hxb)
  rw [celE_j (σ := (K, I, Rr, up2 L x i.toNatClampNeg v, sz, ex)) hx]
  show H1[x]? = some (vp_cell _ _)
  rw [e1, vp_cell_l, vp_cell_l, arrV_store]
  congr 2
  funext q
  by_cases hq : q = i.toNatClampNeg
  · subst hq
    simp [updV, up2]
  · simp [updV, up2, hq]
theorem r_aast (C : Cx l D base z r p e R s m args below meth c) (hH : HR D base (K, I, Rr, L, sz, ex) s H) (hS : va_S (fun q => base ≤ q) s.heap H locs) {x v : Nat} {i : Int32} (hx : (K x).1 = 22 ∨ (K x).1 = 23 ∨ (K x).1 = 24 ∨ (K x).1 = 25) (hv : (K v).1 = elC (K x).1) (hin : vp_in i (K x).2) (hd : decode (mi_by r) pc = .ok (.aastore, 1))
    (k : ∀ H1 locs1, HR D base (K, I, up2 Rr x i.toNatClampNeg (some v), L, sz, ex) s H1 → va_S (fun q => base ≤ q) s.heap H1 locs1 → W p l e R s m args below meth c H1 locs1 cells slots Z (F0 m (pc + 1) arr rest)) : W p l e R s m args below meth c H locs cells slots Z (F0 m pc arr (.ref v :: .int i :: .ref x :: rest)) := by
  obtain ⟨c1, c2, c3, c4, c5, c6, c7, c8, c9, c10, c11, c12, hE, c14⟩ := C
  obtain ⟨Lv, cA, hw⟩ := HR_w.mp hH
  obtain ⟨h1, h2, h3, h4, h5, -⟩ := id hw
  have hlive : live (K x).1 := Or.inl (by omega)
  have hm : x ∈ Lv := (h1 x).mpr hlive
  have hxb : base ≤ x := va_pl_base h3 hm
  have hat := va_pl_at h2 hm
  rw [celE_r (σ := (K, I, Rr, L, sz, ex)) hx] at hat
  obtain ⟨a1, a2⟩ := h4 x (by show 20 ≤ (K x).1; omega) (by show (K x).1 ≤ 25; omega)
  obtain ⟨j, hj, e, ej⟩ := arrTy_r hx
  dsimp only at a1 a2
  rw [e] at a1 a2
  rw [ej] at hv
  have hmv : v ∈ Lv := (h1 v).mpr (Or.inr (by show 100 ≤ (K v).1 ∧ (K v).1 < 111; omega))
  have hatv := va_pl_at h2 hmv
  rw [celE_o (σ := (K, I, Rr, L, sz, ex)) hv] at hatv
  have hlt : i.toNatClampNeg < (K x).2 := Nat.not_le.mp fun q => hin (Or.inr q)
  have h0 : ¬ i < 0 := fun q => hin (Or.inl q)
  obtain ⟨r', hr', cellV, g1, g2, g3, -⟩ := hatv
  have hcls := (hE.2.1.1 j _ (vCl_at hj)).2
  obtain ⟨kA, comp, k1, k2, k3, -⟩ := a2
  have hcomp : comp = D.1 j := Option.some.inj (k3.symm.trans hcls.1)
  subst hcomp
  obtain ⟨kC, hkC, -⟩ := id hcls.2
  refine W.aast c1 c2 hat (fun q h => by cases h) (fun h => by cases h) k1 k2 rfl hkC ⟨h0, by show _ < (arrV _ _ _).slots.size; rw [arrV_size]; exact hlt⟩ g1 (fun q h => by rw [g3] at h; cases h) (by rw [g2]; exact hkC) (by rw [g2]; exact va_assign hcls) rfl rfl hd fun H1 e1 z1 oq => ?_
  refine k H1 _ (hw.set (τ := (K, I, up2 Rr x i.toNatClampNeg (some v), L, sz, ex)) hlive rfl (fun y hy => ⟨rfl, up2_ne hy, rfl⟩) rfl ?_ z1 oq) (hS.put z1 oq hxb)
  rw [celE_r (σ := (K, I, up2 Rr x i.toNatClampNeg (some v), L, sz, ex)) hx]
  show H1[x]? = some (vp_cell _ _)
  rw [e1, vp_cell_q, vp_cell_q, arrV_store]
  congr 2
  funext q
  by_cases hq : q = i.toNatClampNeg
  · subst hq
    simp [updV, up2, va_rf]
  · simp [updV, up2, hq]
end RW
