theorem ofW2 {l : Launch} {y : MethodName} {ws ws' : List Cond} {rm : Room} {Pc : Array Value → State → Prop} {Qc : Array Value → State → Outcome → State → Prop} {XC : String → State → State → Prop} {mc ms : Nat} {free : Addr → Prop} {cc : ByteArray} {maxL : Nat} {ret : Option FieldType}
    (hy : plainFor y = true) (hw : ws = Cond.code y cc maxL ret :: ws')
    (body : ∀ p e s m args below meth c s₁, BodyLoose p l y (headSpec ws rm) cc maxL ret e s m args below meth c s₁ → c.maxLocals = maxL → (∀ x ∈ c.exceptionTable.toList, False) → Pc args s →
      W p l e (headSpec ws rm).room s m args below meth c s.heap [] 0 0 (vx_MQ below Qc XC args s mc ms free) (entryFrame m args maxL)) : vx_Met l y ws rm Pc Qc XC mc ms free := by
  refine MetFree.of_bodySF (code := cc) (maxLocals := maxL) (ret := ret) hy ?_ ?_
  · intro args s m h hn
    obtain ⟨meth, c, h1, h2, h3, h4, h5, h6, -, -⟩ := Cond.code_spec hn (atoms_spec (ws := ws) h _ (by rw [hw]; exact List.mem_cons_self))
    exact ⟨meth, c, h1, h2, h3, h4, h5, h6⟩
  · intro p e s m args below meth c s₁ B hml hP _
    have hh0 : s₁.heap = s.heap := by rw [B.state]; rfl
    have ht : ∀ x ∈ c.exceptionTable.toList, False := by
      obtain ⟨meth9, c9, h1, h2, -, -, -, -, h7, -⟩ := Cond.code_spec B.named (atoms_spec (ws := ws) B.pre _ (by rw [hw]; exact List.mem_cons_self))
      cases Option.some.inj (h1.symm.trans B.method)
      cases Option.some.inj (h2.symm.trans (Stand.of_body B).code)
      intro x hx
      rw [Array.isEmpty_iff.mp h7] at hx
      cases hx
    obtain ⟨t, a1, o, b1, b2, b3⟩ := body p e s m args below meth c s₁ B hml ht hP s₁ hh0 (Stand.of_body B)
    exact ⟨t, o, a1, b1, b2, b3⟩
theorem ofWH2 {l : Launch} {y : MethodName} {ws ws' : List Cond} {rm : Room} {Pc : Array Value → State → Prop} {Qc : Array Value → State → Outcome → State → Prop} {XC : String → State → State → Prop} {mc ms : Nat} {free : Addr → Prop} {cc : ByteArray} {maxL : Nat} {ret : Option FieldType} {hh : List (Nat × Nat × Nat × Nat)}
    (hy : plainFor y = true) (hw : ws = Cond.codeWith y cc maxL ret hh :: ws')
    (body : ∀ p e s m args below meth c s₁, BodyLoose p l y (headSpec ws rm) cc maxL ret e s m args below meth c s₁ → c.maxLocals = maxL → Pc args s →
      W p l e (headSpec ws rm).room s m args below meth c s.heap [] 0 0 (vx_MQ below Qc XC args s mc ms free) (entryFrame m args maxL)) : vx_Met l y ws rm Pc Qc XC mc ms free := by
  refine MetFree.of_bodySF (code := cc) (maxLocals := maxL) (ret := ret) hy ?_ ?_
  · intro args s m h hn
    obtain ⟨m9, meth, c, hn9, h1, h2, h3, h4, -, h5, h6, -⟩ := Cond.codeWith_spec (atoms_spec (ws := ws) h _ (by rw [hw]; exact List.mem_cons_self))
    cases hn.symm.trans hn9
    exact ⟨meth, c, h1, h2, h3, h4, h5, h6⟩
  · intro p e s m args below meth c s₁ B hml hP _
    have hh0 : s₁.heap = s.heap := by rw [B.state]; rfl
    obtain ⟨t, a1, o, b1, b2, b3⟩ := body p e s m args below meth c s₁ B hml hP s₁ hh0 (Stand.of_body B)
    exact ⟨t, o, a1, b1, b2, b3⟩
/-! SOUNDNESS: what the clean machine says of a method, the machine does -/
def SND (l : Launch) (D : va_G) (base : Nat) (z : P0) : Cont := fun i pc ls st cu σ Q => ∀ r, mT i = some r → ∀ (p : Program) (e : Env) (R : Room) (s : State) (m : MethodId) (args : Array Value) (below : List Frame) (meth : Method) (c : Code) (Z : State → Prop),
  Cx l D base z r p e R s m args below meth c → Ends l D base r p e R s m args below meth c Z Q → ∀ (H : Heap) (locs : List Loc) (arr : Array Slot), LR ls arr (mi_ml r) → HR D base σ s H → va_S (fun q => base ≤ q) s.heap H locs → cu.1 ≤ mi_mc r → cu.2 ≤ mi_ms r →
  W p l e R s m args below meth c H locs cu.1 cu.2 Z (F0 m pc arr st)
section SN
variable {l : Launch} {D : va_G} {base : Nat} {z : P0} {r ry : MI} {p : Program} {e : Env} {R : Room} {s : State} {m : MethodId} {args : Array Value} {below : List Frame} {meth : Method} {c : Code} {H : Heap} {locs : List Loc} {cells slots : Nat} {Z : State → Prop} {pc : Nat} {arr : Array Slot} {rest : List Value} {Q Q' : Res → Mem → Prop}
theorem bool_nar {v : Int32} (h : v = 0 ∨ v = 1) : narrow .boolean (.int v) = .int v := by rcases h with rfl | rfl <;> rfl
theorem ldcAt_spec {b : ByteArray} {pc j n : Nat} (h : ldcAt b pc = some (j, n)) : (n = 2 ∧ decode b pc = .ok (.ldc j, 2)) ∨ (n = 3 ∧ decode b pc = .ok (.ldc_w j, 3)) := by
  unfold ldcAt at h
  split at h
  · cases h; exact Or.inl ⟨rfl, by assumption⟩
  · cases h; exact Or.inr ⟨rfl, by assumption⟩
  · cases h
theorem va_F_grow {base : Nat} {s t : State} {H : Heap} {locs : List Loc} (hS : va_S (fun q => base ≤ q) s.heap H locs) (h1 : H.size ≤ t.heap.size) (h2 : ∀ q : Nat, q < H.size → t.heap[q]? = H[q]?) : va_F (fun q => base ≤ q) s t :=
  ⟨Nat.le_trans hS.1 h1, fun q g1 g2 => (h2 q (Nat.lt_of_lt_of_le g1 hS.1)).trans (hS.2.1 q g1 g2)⟩
set_option maxHeartbeats 2000000 in
/-- every method's own ends -/
theorem ends_gen (C : Cx l D base z r p e R s m args below meth c) : Ends l D base r p e R s m args below meth c (vx_MQ below (QcO D base Q) (XcO D base Q) args s (mi_mc r) (mi_ms r) (fun q => base ≤ q)) Q := by
  obtain ⟨c1, c2, c3, c4, c5, c6, c7, c8, c9, c10, c11, c12, hE, c14⟩ := C
  refine ⟨fun v τ H locs k n pc arr st hq hret hH hS hk hn => ?_, fun a K I Rr L sz ex H locs pc arr rest hq hthr hH hS hsz hw => ?_⟩
  · have fin : ∀ t : State, t.heap = H → s.WarmedH t.vm → QcO D base Q args s (.returned v) t := fun t ht hW => ⟨v, τ, rfl, hq, by rw [ht]; exact hH.moved hW.alike, hS.F ht⟩
    refine vx_ret (W.widen hk hn ?_)
    rcases hret with ⟨rfl, rfl, h1, h2⟩ | ⟨x, rfl, rfl, h1, h2⟩ | ⟨x, rfl, rfl, h1, h2⟩ | ⟨x, rfl, rfl, h1, h2⟩ | ⟨x, rfl, rfl, h1, h2⟩
    · exact W.vret c1 c2 (c4.trans h1) fin hS.2.2 h2 c6
    · unfold smallI at h1
      split at h1
      · next h => exact W.iret c1 c2 (c4.trans h) fin hS.2.2 h2 c6
      · next h => exact W.zret c1 c2 (c4.trans h) (bool_nar h1) fin hS.2.2 h2 c6
      · next h => exact W.zret c1 c2 (c4.trans h) h1 fin hS.2.2 h2 c6
      · next h => exact W.zret c1 c2 (c4.trans h) h1 fin hS.2.2 h2 c6
      · cases h1
    · exact W.lret c1 c2 (c4.trans h1) fin hS.2.2 h2 c6
    · exact W.dret c1 c2 (c4.trans h1) fin hS.2.2 h2 c6
    · rcases h1 with ⟨n, h1⟩ | ⟨t, h1⟩
      · exact W.aret c1 c2 (c4.trans h1) (Or.inl ⟨n, rfl⟩) (Or.inr ⟨x, rfl⟩) fin hS.2.2 h2 c6
      · exact W.aret c1 c2 (c4.trans h1) (Or.inr ⟨t, rfl⟩) (Or.inr ⟨x, rfl⟩) fin hS.2.2 h2 c6
  · obtain ⟨i, d0, hok⟩ := hthr
    simp only [okTh, Bool.and_eq_true, decide_eq_true_eq, beq_iff_eq] at hok
    obtain ⟨⟨⟨⟨⟨⟨⟨⟨ha, hcn⟩, hi⟩, hhh⟩, hht⟩, hmc⟩, hms⟩, d3⟩, h9⟩ := hok
    cases hl : ldcAt (mi_by r) (pc + 4) with
    | none => rw [hl] at h9; cases h9
    | some jn =>
      obtain ⟨j, n⟩ := jn
      rw [hl] at h9
      simp only [Bool.and_eq_true, decide_eq_true_eq, List.any_eq_true, beq_iff_eq] at h9
      obtain ⟨⟨⟨q, hqm, hq1, hq2⟩, d6⟩, d9⟩ := h9
      have hstr := hE.2.2.2.2.2.2.2.2.2.1 q hqm
      rw [hq1, hq2] at hstr
      rw [hcn] at c5
      rw [hi] at d0
      have hat : ∀ w ∈ vx_atS (clsN 10) (thC a) (exc a) exN, w.before args s = true := fun w hw => hE.1.use (atS ha w hw).1 (atS ha w hw).2.1
      have hgood : ∀ w ∈ Cond.classLink (clsN 10) (thK a) (exc a) :: Cond.initialized (exc a) :: vx_atS (clsN 10) (thC a) (exc a) exN, vx_ot w = true := by
        intro w hw
        rcases List.mem_cons.mp hw with rfl | hw
        · rfl
        · rcases List.mem_cons.mp hw with rfl | hw
          · rfl
          · exact (atS ha w hw).2.2
      have hx : ∀ t : State, s.vm.Alike t.vm → H.size ≤ t.heap.size → (∀ q : Nat, q < H.size → t.heap[q]? = H[q]?) → XcO D base Q (exc a) s t := fun t hvm g1 g2 => ⟨a, _, ha, rfl, hq, (hH.grow g1 g2).moved hvm, va_F_grow hS g1 g2⟩
      have hout : ∀ x ∈ c.exceptionTable.toList, covers x (pc + 7 + n) = false := by
        intro x hx
        rw [c8, hhh] at hx
        cases hx
      have hwl : (rest.map fun v => v.category).sum ≤ 8 := by rw [wsum_eq]; exact hw
      rcases ldcAt_spec hl with ⟨rfl, d4⟩ | ⟨rfl, d4⟩
      · exact vx_throwS (own := clsN 10) (cls := exc a) (names := exN) c1 c2 c14 c5 (thW ha).2.2.2 (by decide) (hE.1.use (thW ha).1 rfl) (hE.1.use (thW ha).2.1 rfl) hstr hat hgood hE.2.2.2.2.2.2.2.1 hE.2.2.2.2.2.2.2.2.1 hS hsz d0 d3 d4 d6 d9 hout
          (by show 2 + 3 < R.frames; omega) (by show _ + (13 * (2 + 1) + 43) ≤ R.locals; omega) (by omega) (by omega) c6 hx hS.2.2 (by omega) (by omega)
      · exact vx_throwSW (own := clsN 10) (cls := exc a) (names := exN) c1 c2 c14 c5 (thW ha).2.2.2 (by decide) (hE.1.use (thW ha).1 rfl) (hE.1.use (thW ha).2.1 rfl) hstr hat hgood hE.2.2.2.2.2.2.2.1 hE.2.2.2.2.2.2.2.2.1 hS hsz d0 d3 d4 d6 d9 hout
          (by show 2 + 3 < R.frames; omega) (by show _ + (13 * (2 + 1) + 43) ≤ R.locals; omega) (by omega) (by omega) c6 hx hS.2.2 (by omega) (by omega)
theorem pcO_blind {σ : Mem} {As : List Value} : FrameBlind (PcO D base z σ As) := fun a U g mk h => ⟨h.1, h.2.1.moved (U := U.calling g mk a) (State.WarmedH.refl U), h.2.2.moved (U := U.calling g mk a) (Vm.Alike.refl U.vm)⟩
/-- a method's contract, from what the clean machine says -/
theorem snd_met (hfl : l.stackTraces = false) {y : Nat} (hy : mT y = some ry) (hlaw : (mi_nm ry).name ≠ "law") {As : List Value} (hAs : (ent1 As).length ≤ mi_ml ry) {σ : Mem} (ih : SND l D base z y 0 (ent (mi_ml ry) As) [] (0, 0) σ Q') :
    vx_Met l (mi_nm ry) [wcode ry] (rmO ry) (PcO D base z σ As) (QcO D base Q') (XcO D base Q') (mi_mc ry) (mi_ms ry) (fun q => base ≤ q) := by
  obtain ⟨o1, o2, o3, o4, o5, o6, o7⟩ := okM_of hy
  by_cases hh : mi_hh ry = []
  · refine ofW2 (cc := mi_by ry) (maxL := mi_ml ry) (ret := mi_rt ry) (ws' := []) o2 (by rw [wcode, if_pos hh]) ?_
    intro p e s m args below meth c s₁ B hml ht hv
    obtain ⟨rfl, hE, hH⟩ := hv
    have C : Cx l D base z ry p e (rmO ry) s m As.toArray below meth c := ⟨B.exec, B.bytes, hml, B.returns, by rw [o1]; exact findClass_of_methodNamed B.named, B.notSynchronized, (name_of_methodNamed B.named B.method).1, by
      rw [hh]
      cases hc : c.exceptionTable.toList with
      | nil => rfl
      | cons x t => exact (ht x (by rw [hc]; exact List.mem_cons_self)).elim, Nat.le_refl _, Nat.le_refl _, Nat.le_refl _, Nat.le_refl _, hE, hfl⟩
    rw [lg_entry_eq]
    exact ih ry hy p e _ s m _ below meth c _ C (ends_gen C) s.heap [] _ (LR_entry hAs) hH va_S.rf (Nat.zero_le _) (Nat.zero_le _)
  · refine ofWH2 (cc := mi_by ry) (maxL := mi_ml ry) (ret := mi_rt ry) (hh := mi_hh ry) (ws' := []) o2 (by rw [wcode, if_neg hh]) ?_
    intro p e s m args below meth c s₁ B hml hv
    obtain ⟨rfl, hE, hH⟩ := hv
    have hcw : (Cond.codeWith (mi_nm ry) (mi_by ry) (mi_ml ry) (mi_rt ry) (mi_hh ry)).before As.toArray s = true := by
      have := hE.1.use (A := As.toArray) (o5 hlaw).1 (by unfold wcode; rw [if_neg hh]; rfl)
      rwa [wcode, if_neg hh] at this
    have C : Cx l D base z ry p e (rmO ry) s m As.toArray below meth c := ⟨B.exec, B.bytes, hml, B.returns, by rw [o1]; exact findClass_of_methodNamed B.named, B.notSynchronized, (name_of_methodNamed B.named B.method).1, vx_table (x := mi_nm ry) B hcw, Nat.le_refl _, Nat.le_refl _, Nat.le_refl _, Nat.le_refl _, hE, hfl⟩
    rw [lg_entry_eq]
    exact ih ry hy p e _ s m _ below meth c _ C (ends_gen C) s.heap [] _ (LR_entry hAs) hH va_S.rf (Nat.zero_le _) (Nat.zero_le _)
theorem met_of_vx {y : MethodName} {ws : List Cond} {rm : Room} {Pc : Array Value → State → Prop} {Qc : Array Value → State → Outcome → State → Prop} {XC : String → State → State → Prop} {mc ms : Nat} {free : Addr → Prop} (h : vx_Met l y ws rm Pc Qc XC mc ms free) (hn : ∀ E st t, ¬ XC E st t) : Met l y ws rm Pc Qc mc ms free := by
  refine MetFree.mono h (fun _ _ h => h) (fun _ _ _ _ _ h => h) fun a st o t _ hq => ?_
  rcases hq with hq | ⟨q, -, E, ce, L, hx, -⟩
  · exact hq
  · exact (hn _ _ _ hx).elim
theorem vx_of_va {g : JFrame} {mc ms : Nat} {Qa : State → Outcome → State → Prop} {XC : String → State → State → Prop} {free : Addr → Prop} (h : va_Run p l e R s m args below meth c H locs cells slots mc ms g rest Qa free) : vx_Run p l e R s m args below meth c H locs cells slots mc ms g rest Qa XC free := fun T hT X => Or.inl (h T hT X)
/-- behind a call -/
theorem snd_run {mc ms : Nat} {st0 : List Value} {a : Array Value} (hr : vx_Run p l e R s m args below meth c H locs cells slots mc ms (F0 m pc arr st0) rest (QcO D base Q' a) (XcO D base Q') (fun q => base ≤ q)) (hS : va_S (fun q => base ≤ q) s.heap H locs)
    (kv : ∀ v τ H1 locs1, Q' (.inl v) τ → HR D base τ s H1 → va_S (fun q => base ≤ q) s.heap H1 locs1 → W p l e R s m args below meth c H1 locs1 (cells + mc) (slots + ms) Z (F0 m (pc + 3) arr (v.toList ++ rest)))
    (kx : ∀ i τ H1 locs1 (ce : Cell) (q : Addr), i < 3 → Q' (.inr i) τ → HR D base τ s H1 → va_S (fun q => base ≤ q) s.heap H1 locs1 → H1[q]? = some ce → ce.vm = .none → s.vm.findClass (exc i) = some ce.cls → vx_W p l e R s m args below meth c H1 locs1 (cells + mc) (slots + ms) Z (F0 m pc arr rest) q) :
    W p l e R s m args below meth c H locs cells slots Z (F0 m pc arr st0) := by
  intro T hT X
  rcases hr T hT X with ⟨v, st₀, t, T', L, h0, X', hL, e1, e2, ⟨v', τ, hv, hq, hh, hF⟩, st⟩ | ⟨q, st₀, t, T', L, E, ce, h0, X', hL, e1, e2, ⟨i, τ, hi, hE, hq, hh, hF⟩, hce, hcv, hcl, st⟩
  · cases hv
    obtain ⟨k1, k2, k3⟩ := vx_keep h0 e1 hS (fun _ _ h => h) (fun _ h => h) hL hF
    have hvm : t.vm.Alike s.vm := by rw [← e2]; exact X'.warmed.alike.symm
    obtain ⟨t2, a1, b1⟩ := kv v τ T'.heap (locs ++ L) hq (by rw [e1]; exact hh.moved hvm) k3 T' rfl X'
    exact ⟨t2, st t2 a1, b1⟩
  · subst hE
    obtain ⟨k1, k2, k3⟩ := vx_keep h0 e1 hS (fun _ _ h => h) (fun _ h => h) hL hF
    have hvm : t.vm.Alike s.vm := by rw [← e2]; exact X'.warmed.alike.symm
    obtain ⟨t2, a1, b1⟩ := kx i τ T'.heap (locs ++ L) ce q hi hq (by rw [e1]; exact hh.moved hvm) k3 (by rw [e1]; exact hce) hcv hcl T' rfl X'
    exact ⟨t2, st.trans a1, b1⟩
theorem hnd_split : ∀ {hh : List (Nat × Nat × Nat × Nat)} {hx : List Nat} {pc i h : Nat}, hnd hh hx pc i = some h →
    ∃ (pre : List (Nat × Nat × Nat × Nat)) (x : Nat × Nat × Nat × Nat) (suf : List (Nat × Nat × Nat × Nat)), hh = pre ++ x :: suf ∧ (x.1 ≤ pc ∧ pc < x.2.1) ∧ x.2.2.1 = h ∧ (x, i) ∈ hh.zip hx ∧ ∀ w ∈ pre, ¬ (w.1 ≤ pc ∧ pc < w.2.1) ∨ ∃ j, j ≠ i ∧ (w, j) ∈ hh.zip hx
  | [], _, _, _, _, h => by simp [hnd] at h
  | _ :: _, [], _, _, _, h => by simp [hnd] at h
  | (a, b, k, ct) :: t, x :: xs, pc, i, h, hq => by
    simp only [hnd] at hq
    by_cases hc : a ≤ pc ∧ pc < b ∧ x = i
    · rw [if_pos hc] at hq
      cases hq
      refine ⟨[], (a, b, k, ct), t, rfl, ⟨hc.1, hc.2.1⟩, rfl, ?_, fun w hw => by cases hw⟩
      rw [List.zip_cons_cons, hc.2.2]
      exact List.mem_cons_self
    · rw [if_neg hc] at hq
      obtain ⟨pre, y, suf, h1, h2, h3, h4, h5⟩ := hnd_split hq
      refine ⟨(a, b, k, ct) :: pre, y, suf, by rw [h1]; rfl, h2, h3, by rw [List.zip_cons_cons]; exact List.mem_cons_of_mem _ h4, fun w hw => ?_⟩
      rcases List.mem_cons.mp hw with rfl | hw
      · by_cases hcov : a ≤ pc ∧ pc < b
        · right
          refine ⟨x, fun e => hc ⟨hcov.1, hcov.2, e⟩, ?_⟩
          rw [List.zip_cons_cons]
          exact List.mem_cons_self
        · exact Or.inl hcov
      · rcases h5 w hw with g | ⟨j, g1, g2⟩
        · exact Or.inl g
        · exact Or.inr ⟨j, g1, by rw [List.zip_cons_cons]; exact List.mem_cons_of_mem _ g2⟩
theorem snd_catch {k : Nat} (hr : mT k = some r) (C : Cx l D base z r p e R s m args below meth c) {i h : Nat} (hi : i < 3) (hh : hnd (mi_hh r) (mi_hx r) pc i = some h) {ce : Cell} {q : Addr} (hcell : H[q]? = some ce) (hv : ce.vm = .none) (hcl : s.vm.findClass (exc i) = some ce.cls)
    (kk : W p l e R s m args below meth c H locs cells slots Z (F0 m h arr [.ref q])) : vx_W p l e R s m args below meth c H locs cells slots Z (F0 m pc arr rest) q := by
  obtain ⟨c1, c2, c3, c4, c5, c6, c7, c8, c9, c10, c11, c12, hE, c14⟩ := C
  obtain ⟨o1, o2, o3, o4, o5, o6, o7⟩ := okM_of hr
  have nh : noHnd = false := by
    cases hb : noHnd with
    | false => rfl
    | true =>
      unfold noHnd at hb
      have e := beq_iff_eq.mp (List.all_eq_true.mp hb r (mT_mem hr))
      rw [e] at hh
      simp [hnd] at hh
  obtain ⟨pre, x, suf, h1, h2, h3, h4, h5⟩ := hnd_split hh
  have hxx := o6 (x, i) h4
  refine vx_catch (own := clsN (mi_cn r)) (name := exc i) (E := exc i) c5 (tableOf pre) ⟨x.1, x.2.1, x.2.2.1, x.2.2.2⟩ (tableOf suf) (by rw [c8, h1]; simp [tableOf]) (fun w hw => ?_) (by simp [covers, h2.1, h2.2]) hxx.2.1 (hE.1.use hxx.2.2 rfl) (hE.1.use (thW hi).2.2.1 rfl) hcell hv hcl ?_
  · obtain ⟨w0, hw0, rfl⟩ := List.mem_map.mp hw
    rcases h5 w0 hw0 with g | ⟨j, g1, g2⟩
    · left
      simp only [covers, Bool.and_eq_false_iff, decide_eq_false_iff_not]
      by_cases q1 : w0.1 ≤ pc
      · exact Or.inr fun q2 => g ⟨q1, q2⟩
      · exact Or.inl q1
    · right
      have hj := o6 (w0, j) g2
      exact ⟨hj.2.1, exc j, hE.1.use hj.2.2 rfl, hE.2.2.2.2.2.2.2.2.2.2.1 i j hi hj.1 (Ne.symm g1) nh⟩
  · show W p l e R s m args below meth c H locs cells slots Z (F0 m x.2.2.1 arr [.ref q])
    rw [h3]
    exact kk
theorem okMl_spec {i b cc : Nat} {ts : List Nat} (hb : b < 214) (hy : mT b = some ry) (h : okMl r i b cc ts = true) : (cc = 0 → Cond.methodLink (clsN (mi_cn r)) i (mi_nm ry) ∈ lw_tbl) ∧ (cc ≠ 0 → Cond.methodLinkNest (clsN (mi_cn r)) i (mi_nm ry) "HouseholdMail" ∈ lw_tbl) := by
  unfold okMl at h
  cases hq : mlAt ts with
  | none => rw [hq] at h; cases h
  | some q =>
    rw [hq] at h
    simp only [Bool.and_eq_true, beq_iff_eq] at h
    obtain ⟨⟨⟨h1, h2⟩, h3⟩, h4⟩ := h
    have hm : q ∈ ML := by
      unfold mlAt at hq
      split at hq
      · exact List.mem_of_getElem? hq
      · cases hq
    have g := mem_tbl (ML_ok q hm)
    have hn : nmN b = mi_nm ry := by
      unfold nmN
      rw [if_neg (by omega), if_neg (by omega), hy]
    unfold mlW at g
    rw [h1, h2, h3, h4, hn] at g
    refine ⟨fun hc => ?_, fun hc => ?_⟩
    · rwa [if_pos hc] at g
    · rwa [if_neg hc] at g
theorem okMl_nat {i b : Nat} {ts : List Nat} (hb : 9000 < b) (h : okMl r i b 0 ts = true) : Cond.methodLink (clsN (mi_cn r)) i (nmN b) ∈ lw_tbl := by
  unfold okMl at h
  cases hq : mlAt ts with
  | none => rw [hq] at h; cases h
  | some q =>
    rw [hq] at h
    simp only [Bool.and_eq_true, beq_iff_eq] at h
    obtain ⟨⟨⟨h1, h2⟩, h3⟩, h4⟩ := h
    have hm : q ∈ ML := by
      unfold mlAt at hq
      split at hq
      · exact List.mem_of_getElem? hq
      · cases hq
    have g := mem_tbl (ML_ok q hm)
    unfold mlW at g
    rwa [h1, h2, h3, h4, if_pos rfl] at g
theorem pcO_pre {σ : Mem} {As : List Value} (hE : EW D base z s s.heap) (hH : HR D base σ s H) (hS : va_S (fun q => base ≤ q) s.heap H locs) : PreS s H (PcO D base z σ As) As := by
  refine ⟨pcO_blind, fun U hU hW => ⟨rfl, ?_, ?_⟩⟩
  · rw [hU]
    exact (hE.kept (fun a ha => hS.2.1 a (Nat.lt_of_lt_of_le ha hE.2.2.2.2.2.2.2.2.2.2.2.2) (Nat.not_le.mpr ha)) hS.1).moved hW
  · rw [hU]
    exact hH.moved hW.alike
theorem snd_recv {K : Nat → Nat × Nat} {I : Nat → Nat → Int32} {Rr : Nat → Nat → Option Nat} {L : Nat → Nat → Int64} {sz : Nat} {ex : Bool} (hE : EW D base z s s.heap) (hH : HR D base (K, I, Rr, L, sz, ex) s H) {x cn : Nat} (hx : (K x).1 = tagOf cn) (hcn : cn < 11 ∨ cn = 15) : ∃ cell : Cell, H[x]? = some cell ∧ cell.vm.isStatics = false ∧ s.vm.findClass (clsN cn) = some cell.cls := by
  obtain ⟨Lv, cA, h1, h2, h3, h4, h5, h6, h7, -⟩ := hH
  rcases hcn with hcn | rfl
  · have hx2 : (K x).1 = 100 + cn := by rw [hx, tagOf, if_pos (show cn < 12 by omega)]
    have hm : x ∈ Lv := (h1 x).mpr (Or.inr (by show 100 ≤ (K x).1 ∧ (K x).1 < 111; omega))
    obtain ⟨k0, hk0⟩ := va_pl_get (X := []) (f := celE cA (K, I, Rr, L, sz, ex)) hm
    rw [celE_o (σ := (K, I, Rr, L, sz, ex)) hx2] at hk0
    exact va_recv hE.2.1 h2 (vCl_at hcn) hk0
  · obtain ⟨cell, g1, g2, g3, -⟩ := (h7 x hx).1
    exact ⟨cell, g1, g2, g3⟩
theorem wc_pos (h : mi_hh ry = []) : wcode ry = .code (mi_nm ry) (mi_by ry) (mi_ml ry) (mi_rt ry) := by rw [wcode, if_pos h]
theorem wc_neg (h : ¬ mi_hh ry = []) : wcode ry = .codeWith (mi_nm ry) (mi_by ry) (mi_ml ry) (mi_rt ry) (mi_hh ry) := by rw [wcode, if_neg h]
theorem wc_ok : okW (wcode ry) = true := by
  unfold wcode
  split <;> rfl
theorem wc_warm (hE : EW D base z s s.heap) (hm : wcode ry ∈ lw_tbl) : ∀ w ∈ [wcode ry], ∀ (a' : Array Value) (U : State), s.WarmedH U.vm → w.before a' U = true := by
  intro w hw a' U hW
  rw [List.mem_singleton.mp hw]
  exact (hE.1.warm hW).use hm wc_ok
theorem np_len {d : MethodName} {a : Nat} (h : (parseMethodDescriptor d.desc).map (fun d => d.parameters.length) = some a) : ∀ sig, parseMethodDescriptor d.desc = some sig → a = sig.parameters.length := by
  intro sig hs
  rw [hs] at h
  exact (Option.some.inj h).symm
/-- what all calls share: behind the call, and in the handler -/
theorem snd_after {i : Nat} (hr : mT i = some r) (C : Cx l D base z r p e R s m args below meth c) (E : Ends l D base r p e R s m args below meth c Z Q) {ls : Lcs} (hL : LR ls arr (mi_ml r)) (hS : va_S (fun q => base ≤ q) s.heap H locs) {cu : Nat × Nat} (h1 : cu.1 + mi_mc ry ≤ mi_mc r) (h2 : cu.2 + mi_ms ry ≤ mi_ms r)
    (hk : ∀ x τ, Q' x τ → aftr (SND l D base z) mT i pc ls rest (cu.1 + mi_mc ry, cu.2 + mi_ms ry) Q x τ) {st0 : List Value} {a : Array Value}
    (hrun : vx_Run p l e R s m args below meth c H locs cu.1 cu.2 (mi_mc ry) (mi_ms ry) (F0 m pc arr st0) rest (QcO D base Q' a) (XcO D base Q') (fun q => base ≤ q)) : W p l e R s m args below meth c H locs cu.1 cu.2 Z (F0 m pc arr st0) := by
  refine snd_run hrun hS (fun v τ H1 locs1 hq hH1 hS1 => ?_) (fun j τ H1 locs1 ce q hj hq hH1 hS1 hce hcv hcl => ?_)
  · have := hk _ _ hq
    cases v with
    | none => exact this r hr p e R s m args below meth c Z C E H1 locs1 arr hL hH1 hS1 h1 h2
    | some v => exact this r hr p e R s m args below meth c Z C E H1 locs1 arr hL hH1 hS1 h1 h2
  · have := hk _ _ hq
    unfold aftr at this
    rw [hr] at this
    dsimp only at this
    cases hh : hnd (mi_hh r) (mi_hx r) pc j with
    | none => rw [hh] at this; exact this.elim
    | some h =>
      rw [hh] at this
      exact snd_catch hr C hj hh hce hcv hcl (this q r hr p e R s m args below meth c Z C E H1 locs1 arr hL hH1 hS1 h1 h2)
theorem snd_nox {i : Nat} (hr : mT i = some r) (hh : mi_hh r = []) {ls : Lcs} {cu : Nat × Nat} (hk : ∀ x τ, Q' x τ → aftr (SND l D base z) mT i pc ls rest cu Q x τ) : ∀ E st t, ¬ XcO D base Q' E st t := by
  rintro E st t ⟨j, τ, -, -, hq, -⟩
  have := hk _ _ hq
  unfold aftr at this
  rw [hr] at this
  dsimp only at this
  rw [hh] at this
  simp [hnd] at this
set_option maxHeartbeats 1000000 in
theorem snd_virt {i : Nat} (hr : mT i = some r) (C : Cx l D base z r p e R s m args below meth c) (E : Ends l D base r p e R s m args below meth c Z Q) {ls : Lcs} (hL : LR ls arr (mi_ml r)) {K : Nat → Nat × Nat} {I : Nat → Nat → Int32} {Rr : Nat → Nat → Option Nat} {L : Nat → Nat → Int64} {sz : Nat} {ex : Bool} (hH : HR D base (K, I, Rr, L, sz, ex) s H) (hS : va_S (fun q => base ≤ q) s.heap H locs) {cu : Nat × Nat}
    {y x idx a cc : Nat} {ts : List Nat} (hy : mT y = some ry) (hx : (K x).1 = tagOf (mi_cn ry)) {As : List Value} (hAl : As.length = a) (hc : callX (SND l D base z) mT y (.ref x :: As) rest i pc ls cu (K, I, Rr, L, sz, ex) Q)
    (hok : (y < 214 ∧ okMl r idx y cc ts = true ∧ mi_st ry = false ∧ mi_hh ry = [] ∧ (mi_hh r = [] ∨ cc = 0) ∧ (mi_cn ry < 11 ∨ mi_cn ry = 15) ∧ ¬ (mi_nm ry).name = "<init>") ∧ (parseMethodDescriptor (mi_nm ry).desc).map (fun d => d.parameters.length) = some a) (hlaw : (mi_nm ry).name ≠ "law")
    (hd : decode (mi_by r) pc = .ok (.invokevirtual idx, 3)) : W p l e R s m args below meth c H locs cu.1 cu.2 Z (F0 m pc arr (As.reverse ++ .ref x :: rest)) := by
  obtain ⟨c1, c2, c3, c4, c5, c6, c7, c8, c9, c10, c11, c12, hE, c14⟩ := id C
  obtain ⟨⟨k1, k2, k3, k4, k5, k6, k7⟩, k8⟩ := hok
  obtain ⟨o1, o2, o3, o4, o5, o6, o7⟩ := okM_of hy
  obtain ⟨w1, w2, w3, w4⟩ := o5 hlaw
  rw [if_neg (by rw [k3]; decide)] at w3
  unfold callX at hc
  rw [hy, hr] at hc
  obtain ⟨t1, t2, t3, t4, t5, Q', t6, t7⟩ := hc
  have hM := snd_met c14 hy hlaw t5 t6
  obtain ⟨g1, g2⟩ := okMl_spec k1 hy k2
  have hpre := pcO_pre (z := z) (As := .ref x :: As) hE hH hS
  have hpv : PreV s H (clsN (mi_cn ry)) x (PcO D base z (K, I, Rr, L, sz, ex) (.ref x :: As)) As := ⟨hpre.1, snd_recv hE hH hx k6, hpre.2⟩
  have hwl : 2 * (F0 m pc arr (As.reverse ++ .ref x :: rest)).monitorRoom + (rest.map fun v => v.category).sum ≤ 8 := lv_room (by rw [wsum_eq]; exact t2)
  have hsel : (Cond.selects (clsN (mi_cn ry)) (mi_nm ry) (mi_nm ry)).before args s = true := by rw [o1]; exact hE.1.use (w4 k3 k7) rfl
  refine snd_after (a := (Value.ref x :: As).toArray) hr C E hL hS t3 t4 t7 ?_
  by_cases hcc : cc = 0
  · have cw : CallW R s args (clsN (mi_cn r)) (clsN (mi_cn ry)) idx (mi_nm ry) (mi_by ry) (mi_ml ry) (mi_rt ry) [wcode ry] (rmO ry) (mi_mc ry) (mi_ms ry) a :=
      ⟨⟨rfl, rfl, by show mi_ht ry + 1 ≤ _; omega, by show 8 + _ + 42 * mi_ht ry ≤ _; omega, wc_warm hE w1, by rw [wc_pos k4]; exact List.mem_cons_self, by rw [← wc_pos k4]; exact hE.1.use w1 wc_ok, hE.1.use w2 rfl, o4, np_len k8, hE.1.use (g1 hcc) rfl⟩, hE.1.use w3 rfl, hsel⟩
    exact vx_runV (Ts := []) ⟨c1, c2, c3, c5, fun _ h => by cases h⟩ hM cw hpv rfl hAl hL.1 rfl hwl hd ⟨by omega, by omega⟩
  · have hh := k5.resolve_right hcc
    have cw : va_CN R s args (clsN (mi_cn r)) idx (mi_nm ry) "HouseholdMail" (mi_by ry) (mi_ml ry) (mi_rt ry) [wcode ry] (rmO ry) (mi_mc ry) (mi_ms ry) a :=
      ⟨⟨rfl, rfl, by show mi_ht ry + 1 ≤ _; omega, by show 8 + _ + 42 * mi_ht ry ≤ _; omega, wc_warm hE w1, by rw [wc_pos k4]; exact List.mem_cons_self⟩, by rw [← wc_pos k4]; exact hE.1.use w1 wc_ok, hE.1.use w2 rfl, o4, np_len k8, hE.1.use (g2 hcc) rfl⟩
    exact vx_of_va (va_runVN (Ts := []) ⟨c1, c2, c3, c5, fun _ h => by cases h⟩ (met_of_vx hM (snd_nox hr hh t7)) ⟨cw, hE.1.use w3 rfl, hsel⟩ hpv rfl hAl hL.1 rfl hwl hd ⟨by omega, by omega⟩)
set_option maxHeartbeats 1000000 in
theorem snd_stat {i : Nat} (hr : mT i = some r) (C : Cx l D base z r p e R s m args below meth c) (E : Ends l D base r p e R s m args below meth c Z Q) {ls : Lcs} (hL : LR ls arr (mi_ml r)) {σ : Mem} (hH : HR D base σ s H) (hS : va_S (fun q => base ≤ q) s.heap H locs) {cu : Nat × Nat}
    {y idx a cc : Nat} {ts : List Nat} (hy : mT y = some ry) {As : List Value} (hAl : As.length = a) (hc : callX (SND l D base z) mT y As rest i pc ls cu σ Q)
    (hok : (y < 214 ∧ okMl r idx y cc ts = true ∧ mi_st ry = true ∧ mi_hh r = [] ∧ (mi_hh ry = [] ∨ cc = 0)) ∧ (parseMethodDescriptor (mi_nm ry).desc).map (fun d => d.parameters.length) = some a) (hlaw : (mi_nm ry).name ≠ "law")
    (hd : decode (mi_by r) pc = .ok (.invokestatic idx, 3)) : W p l e R s m args below meth c H locs cu.1 cu.2 Z (F0 m pc arr (As.reverse ++ rest)) := by
  obtain ⟨c1, c2, c3, c4, c5, c6, c7, c8, c9, c10, c11, c12, hE, c14⟩ := id C
  obtain ⟨⟨k1, k2, k3, k4, k5⟩, k8⟩ := hok
  obtain ⟨o1, o2, o3, o4, o5, o6, o7⟩ := okM_of hy
  obtain ⟨w1, w2, w3, w4⟩ := o5 hlaw
  rw [if_pos k3] at w3
  unfold callX at hc
  rw [hy, hr] at hc
  obtain ⟨t1, t2, t3, t4, t5, Q', t6, t7⟩ := hc
  have hM := snd_met c14 hy hlaw t5 t6
  obtain ⟨g1, g2⟩ := okMl_spec k1 hy k2
  have hpre := pcO_pre (z := z) (As := As) hE hH hS
  have hwl : 2 * (F0 m pc arr (As.reverse ++ rest)).monitorRoom + (rest.map fun v => v.category).sum ≤ 8 := lv_room (by rw [wsum_eq]; exact t2)
  refine snd_after (a := As.toArray) hr C E hL hS t3 t4 t7 ?_
  by_cases hcc : cc = 0
  · by_cases hhy : mi_hh ry = []
    · have cw : CallB R s args (clsN (mi_cn r)) idx (mi_nm ry) (mi_by ry) (mi_ml ry) (mi_rt ry) [wcode ry] (rmO ry) (mi_mc ry) (mi_ms ry) a :=
        ⟨rfl, rfl, by show mi_ht ry + 1 ≤ _; omega, by show 8 + _ + 42 * mi_ht ry ≤ _; omega, wc_warm hE w1, by rw [wc_pos hhy]; exact List.mem_cons_self, by rw [← wc_pos hhy]; exact hE.1.use w1 wc_ok, hE.1.use w2 rfl, o4, np_len k8, hE.1.use (g1 hcc) rfl⟩
      exact vx_runS (Ts := []) ⟨c1, c2, c3, c5, fun _ h => by cases h⟩ hM ⟨cw, hE.1.use w3 rfl⟩ hpre rfl hAl hL.1 rfl hwl hd ⟨by omega, by omega⟩
    · have cw : vx_CSW R s args (clsN (mi_cn r)) idx (mi_nm ry) (mi_by ry) (mi_ml ry) (mi_rt ry) (mi_hh ry) [wcode ry] (rmO ry) (mi_mc ry) (mi_ms ry) a :=
        ⟨⟨rfl, rfl, by show mi_ht ry + 1 ≤ _; omega, by show 8 + _ + 42 * mi_ht ry ≤ _; omega, wc_warm hE w1, by rw [wc_neg hhy]; exact List.mem_cons_self⟩, by rw [← wc_neg hhy]; exact hE.1.use w1 wc_ok, hE.1.use w2 rfl, o4, np_len k8, hE.1.use (g1 hcc) rfl, hE.1.use w3 rfl⟩
      exact vx_runSX (Ts := []) ⟨c1, c2, c3, c5, fun _ h => by cases h⟩ hM cw hpre rfl hAl hL.1 rfl hwl hd ⟨by omega, by omega⟩
  · have hhy := k5.resolve_right hcc
    have cw : va_CN R s args (clsN (mi_cn r)) idx (mi_nm ry) "HouseholdMail" (mi_by ry) (mi_ml ry) (mi_rt ry) [wcode ry] (rmO ry) (mi_mc ry) (mi_ms ry) a :=
      ⟨⟨rfl, rfl, by show mi_ht ry + 1 ≤ _; omega, by show 8 + _ + 42 * mi_ht ry ≤ _; omega, wc_warm hE w1, by rw [wc_pos hhy]; exact List.mem_cons_self⟩, by rw [← wc_pos hhy]; exact hE.1.use w1 wc_ok, hE.1.use w2 rfl, o4, np_len k8, hE.1.use (g2 hcc) rfl⟩
    exact vx_of_va (va_runSN (Ts := []) ⟨c1, c2, c3, c5, fun _ h => by cases h⟩ (met_of_vx hM (snd_nox hr k4 t7)) ⟨cw, hE.1.use w3 rfl, trivial⟩ hpre rfl hAl hL.1 rfl hwl hd ⟨by omega, by omega⟩)
set_option maxHeartbeats 1000000 in
theorem snd_spec {i : Nat} (hr : mT i = some r) (C : Cx l D base z r p e R s m args below meth c) (E : Ends l D base r p e R s m args below meth c Z Q) {ls : Lcs} (hL : LR ls arr (mi_ml r)) {σ : Mem} (hH : HR D base σ s H) (hS : va_S (fun q => base ≤ q) s.heap H locs) {cu : Nat × Nat}
    {y x idx a cc : Nat} {ts : List Nat} (hy : mT y = some ry) {As : List Value} (hAl : As.length = a) (hc : callX (SND l D base z) mT y (.ref x :: As) rest i pc ls cu σ Q)
    (hok : (y < 214 ∧ okMl r idx y cc ts = true ∧ mi_st ry = false ∧ mi_hh r = [] ∧ mi_hh ry = [] ∧ (mi_nm ry).name = "<init>" ∧ mi_rt ry = none) ∧ (parseMethodDescriptor (mi_nm ry).desc).map (fun d => d.parameters.length) = some a)
    (hd : decode (mi_by r) pc = .ok (.invokespecial idx, 3)) : W p l e R s m args below meth c H locs cu.1 cu.2 Z (F0 m pc arr (As.reverse ++ .ref x :: rest)) := by
  obtain ⟨c1, c2, c3, c4, c5, c6, c7, c8, c9, c10, c11, c12, hE, c14⟩ := id C
  obtain ⟨⟨k1, k2, k3, k4, k5, k6, k7⟩, k8⟩ := hok
  have hlaw : (mi_nm ry).name ≠ "law" := by rw [k6]; decide
  obtain ⟨o1, o2, o3, o4, o5, o6, o7⟩ := okM_of hy
  obtain ⟨w1, w2, w3, w4⟩ := o5 hlaw
  rw [if_neg (by rw [k3]; decide)] at w3
  unfold callX at hc
  rw [hy, hr] at hc
  obtain ⟨t1, t2, t3, t4, t5, Q', t6, t7⟩ := hc
  have hM := snd_met c14 hy hlaw t5 t6
  obtain ⟨g1, g2⟩ := okMl_spec k1 hy k2
  have hpre := pcO_pre (z := z) (As := .ref x :: As) hE hH hS
  have hwl : 2 * (F0 m pc arr (As.reverse ++ .ref x :: rest)).monitorRoom + (rest.map fun v => v.category).sum ≤ 8 := lv_room (by rw [wsum_eq]; exact t2)
  have hcd : wcode ry = .code (mi_nm ry) (mi_by ry) (mi_ml ry) none := by rw [wc_pos k5, k7]
  refine snd_after (a := (Value.ref x :: As).toArray) hr C E hL hS t3 t4 t7 ?_
  by_cases hcc : cc = 0
  · have cw : CallB R s args (clsN (mi_cn r)) idx (mi_nm ry) (mi_by ry) (mi_ml ry) none [wcode ry] (rmO ry) (mi_mc ry) (mi_ms ry) a :=
      ⟨rfl, rfl, by show mi_ht ry + 1 ≤ _; omega, by show 8 + _ + 42 * mi_ht ry ≤ _; omega, wc_warm hE w1, by rw [hcd]; exact List.mem_cons_self, by rw [← hcd]; exact hE.1.use w1 wc_ok, hE.1.use w2 rfl, o4, np_len k8, hE.1.use (g1 hcc) rfl⟩
    exact vx_of_va (va_runI (Ts := []) ⟨c1, c2, c3, c5, fun _ h => by cases h⟩ (met_of_vx hM (snd_nox hr k4 t7)) ⟨cw, k6, hE.1.use w3 rfl⟩ hpre rfl hAl hL.1 rfl hwl hd ⟨by omega, by omega⟩)
  · have cw : va_CN R s args (clsN (mi_cn r)) idx (mi_nm ry) "HouseholdMail" (mi_by ry) (mi_ml ry) none [wcode ry] (rmO ry) (mi_mc ry) (mi_ms ry) a :=
      ⟨⟨rfl, rfl, by show mi_ht ry + 1 ≤ _; omega, by show 8 + _ + 42 * mi_ht ry ≤ _; omega, wc_warm hE w1, by rw [hcd]; exact List.mem_cons_self⟩, by rw [← hcd]; exact hE.1.use w1 wc_ok, hE.1.use w2 rfl, o4, np_len k8, hE.1.use (g2 hcc) rfl⟩
    exact vx_of_va (va_runIN (Ts := []) ⟨c1, c2, c3, c5, fun _ h => by cases h⟩ (met_of_vx hM (snd_nox hr k4 t7)) ⟨cw, k6, hE.1.use w3 rfl⟩ hpre rfl hAl hL.1 rfl hwl hd ⟨by omega, by omega⟩)
end SN
