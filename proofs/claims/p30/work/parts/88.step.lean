/-! SOUNDNESS, one step: each instruction -/
theorem getL_spec {ls : Lcs} {arr : Array Slot} {n a : Nat} {f : Value → Prop} (hL : LR ls arr n) (h : getL ls a f) : ∃ v, arr[a]? = some (.val v) ∧ f v ∧ ls[a]? = some (some v) := by
  unfold getL at h
  split at h
  · next v hv => exact ⟨v, hL.2.2.2 a v hv, h, hv⟩
  · exact h.elim
theorem cat_pick {x : Int32} : (Value.int x).category = 1 := rfl
theorem wsum_le {st : List Value} : (st.map fun v => v.category).sum = wsum st := wsum_eq st
theorem oi_ini : Cond.instanceMethod objectInit ∈ lw_tbl := List.mem_of_getElem? (i := 50) (by decide +kernel)
theorem oi_cod : Cond.code objectInit ⟨#[0xb1]⟩ 1 none ∈ lw_tbl := List.mem_of_getElem? (i := 51) (by decide +kernel)
section ST
variable {l : Launch} {D : va_G} {base : Nat} {z : P0} {r : MI} {p : Program} {e : Env} {R : Room} {s : State} {m : MethodId} {args : Array Value} {below : List Frame} {meth : Method} {c : Code} {H : Heap} {locs : List Loc} {cells slots : Nat} {Z : State → Prop} {pc : Nat} {arr : Array Slot} {st : List Value} {Q : Res → Mem → Prop}
theorem fitC_of {i : Nat} {x n : Nat} (hr : mT i = some r) (h : fitC mT i x n) : x ≤ mi_mc r ∧ n ≤ mi_ms r := by
  unfold fitC at h
  rw [hr] at h
  exact h
theorem map_get {pc : Nat} {offs : Array Int} {ts : List Nat} (h : offs.toList.map (fun o => (pc : Int) + o) = ts.map (fun t : Nat => (t : Int))) {k t : Nat} (ht : ts[k]? = some t) : ∃ off, offs[k]? = some off ∧ (pc : Int) + off = (t : Int) := by
  have h1 : (offs.toList.map (fun o => (pc : Int) + o))[k]? = some (t : Int) := by rw [h, List.getElem?_map, ht]; rfl
  rw [List.getElem?_map, Option.map_eq_some_iff] at h1
  obtain ⟨off, h2, h3⟩ := h1
  exact ⟨off, by rw [← Array.getElem?_toList]; exact h2, h3⟩
theorem name_law {i : Nat} (hr : mT i = some r) (h : i < 214) : (mi_nm r).name ≠ "law" := by
  have key : ∀ j, j < 214 → ∀ q, mT j = some q → (mi_nm q).name ≠ "law" := by
    have h1 : (mtab.take 214).all (fun q => decide ((mi_nm q).name ≠ "law")) = true := by decide +kernel
    intro j hj q hq
    have h2 : q ∈ mtab.take 214 := by
      have : (mtab.take 214)[j]? = some q := by rw [List.getElem?_take_of_lt hj]; exact hq
      exact List.mem_of_getElem? this
    exact of_decide_eq_true (List.all_eq_true.mp h1 q h2)
  exact key i h r hr
theorem tcF_0 {t : FieldType} (h : tcF t = 0) : t = .int := by cases t <;> first | rfl | exact absurd h (by decide) | (simp [tcF] at h)
theorem tcF_1 {t : FieldType} (h : tcF t = 1) : t = .boolean := by cases t <;> first | rfl | exact absurd h (by decide) | (simp [tcF] at h)
theorem tcF_2 {t : FieldType} (h : tcF t = 2) : t = .long := by cases t <;> first | rfl | exact absurd h (by decide) | (simp [tcF] at h)
theorem tcF_3 {t : FieldType} (h : tcF t = 3) : (∃ n, t = .object n) ∨ ∃ n, t = .array n := by cases t <;> first | exact Or.inl ⟨_, rfl⟩ | exact Or.inr ⟨_, rfl⟩ | exact absurd h (by decide) | (simp [tcF] at h)
theorem own_cls {a b : Nat} (ha : a < 11) (hb : b < nXc a) : (TXc a b).1 = clsN a :=
  lt11 (P := fun a => ∀ b, b < nXc a → (TXc a b).1 = clsN a) ha (by decide +kernel) (by decide +kernel) (by decide +kernel) (by decide +kernel) (by decide +kernel) (by decide +kernel) (by decide +kernel) (by decide +kernel) (by decide +kernel) (by decide +kernel) (by decide +kernel) b hb
theorem ht_pos {i : Nat} (hr : mT i = some r) : 1 ≤ mi_ht r := by
  have h1 : mtab.all (fun q => decide (1 ≤ mi_ht q)) = true := by decide +kernel
  exact of_decide_eq_true (List.all_eq_true.mp h1 r (mT_mem hr))
set_option maxHeartbeats 16000000 in
set_option maxRecDepth 4000 in
theorem snd_step {i pc : Nat} {ls : Lcs} {st : List Value} {cu : Nat × Nat} {σ : Mem} {Q : Res → Mem → Prop} (h : XS mT z (SND l D base z) i pc ls st cu σ Q) : SND l D base z i pc ls st cu σ Q := by
  intro r hr p e R s m args below meth c Z C E H locs arr hL hH hS h1 h2
  unfold XS at h
  rw [hr] at h
  dsimp only at h
  cases hlk : lk (mi_tb r) pc with
  | none => rw [hlk] at h; exact h.elim
  | some en =>
    rw [hlk] at h
    dsimp only at h
    obtain ⟨hd, hok⟩ := okE_of hr hlk
    obtain ⟨ins, len, a, b, cc, ts, w, q⟩ := en
    obtain ⟨K, I, Rr, L, sz, ex⟩ := σ
    obtain ⟨cx, cb, c3, c4, c5, c6, c7, c8, c9, c10, c11, c12, hE, c14⟩ := id C
    dsimp only at hd
    have go : ∀ {pc' : Nat} {ls' : Lcs} {st' : List Value} {cu' : Nat × Nat} {τ : Mem}, SND l D base z i pc' ls' st' cu' τ Q → ∀ {H' : Heap} {locs' : List Loc} {arr' : Array Slot}, LR ls' arr' (mi_ml r) → HR D base τ s H' → va_S (fun q => base ≤ q) s.heap H' locs' → cu'.1 ≤ mi_mc r → cu'.2 ≤ mi_ms r → W p l e R s m args below meth c H' locs' cu'.1 cu'.2 Z (F0 m pc' arr' st') :=
      by intro pc' ls' st' cu' τ h' H' locs' arr' a1 a2 a3 a4 a5; exact h' r hr p e R s m args below meth c Z C E _ _ _ a1 a2 a3 a4 a5
    have go0 : ∀ {pc' : Nat} {st' : List Value}, SND l D base z i pc' ls st' cu (K, I, Rr, L, sz, ex) Q → W p l e R s m args below meth c H locs cu.1 cu.2 Z (F0 m pc' arr st') := fun h' => go h' hL hH hS h1 h2
    cases ins <;> dsimp only [XI] at h <;> try exact h.elim
    all_goals first
      | (simp only [okX, Bool.and_eq_true, Bool.or_eq_true, beq_iff_eq, decide_eq_true_eq] at hok)
      | (unfold okX at hok; dsimp only at hok)
      | skip
    case aload_n j =>
      obtain ⟨v, ha, hf, -⟩ := getL_spec hL h
      obtain ⟨h3, rfl⟩ := hok
      cases v <;> first | exact hf.elim | skip
      · exact lv_aload_nN cx cb hd h3 ha (go0 hf)
      · exact lv_aload_n cx cb hd h3 ha (go0 hf)
    case aload j =>
      obtain ⟨v, ha, hf, -⟩ := getL_spec hL h
      obtain ⟨rfl, rfl⟩ := hok
      cases v <;> first | exact hf.elim | skip
      · exact lv_aloadN cx cb hd ha (go0 hf)
      · exact lv_aload cx cb hd ha (go0 hf)
    case iload_n j =>
      obtain ⟨v, ha, hf, -⟩ := getL_spec hL h
      obtain ⟨h3, rfl⟩ := hok
      cases v <;> first | exact hf.elim | skip
      exact lv_iload_n cx cb hd h3 ha (go0 hf)
    case iload j =>
      obtain ⟨v, ha, hf, -⟩ := getL_spec hL h
      obtain ⟨rfl, rfl⟩ := hok
      cases v <;> first | exact hf.elim | skip
      exact lv_iload cx cb hd ha (go0 hf)
    case lload_n j =>
      obtain ⟨v, ha, hf, -⟩ := getL_spec hL h
      obtain ⟨h3, rfl⟩ := hok
      cases v <;> first | exact hf.elim | skip
      exact lv_lload_n cx cb hd h3 ha (go0 hf)
    case lload j =>
      obtain ⟨v, ha, hf, -⟩ := getL_spec hL h
      obtain ⟨rfl, rfl⟩ := hok
      cases v <;> first | exact hf.elim | skip
      exact lv_lload cx cb hd ha (go0 hf)
    case dload_n j =>
      obtain ⟨v, ha, hf, -⟩ := getL_spec hL h
      obtain ⟨h3, rfl⟩ := hok
      cases v <;> first | exact hf.elim | skip
      exact lv_dload_n cx cb hd h3 ha (go0 hf)
    case dload j =>
      obtain ⟨v, ha, hf, -⟩ := getL_spec hL h
      obtain ⟨rfl, rfl⟩ := hok
      cases v <;> first | exact hf.elim | skip
      exact lv_dload cx cb hd ha (go0 hf)
    case istore_n j =>
      obtain ⟨h3, rfl⟩ := hok
      split at h
      · obtain ⟨q1, q2, q3⟩ := h
        exact lv_istore_n cx cb hd h3 hL.has (by rw [← hL.2.1]; exact q1) rfl (fun ls' h' => go q3 (hL.st1 q2 h') hH hS h1 h2)
      · exact h.elim
    case istore j =>
      obtain ⟨rfl, rfl⟩ := hok
      split at h
      · obtain ⟨q1, q2, q3⟩ := h
        exact lv_istore cx cb hd hL.has (by rw [← hL.2.1]; exact q1) rfl (fun ls' h' => go q3 (hL.st1 q2 h') hH hS h1 h2)
      · exact h.elim
    case astore_n j =>
      obtain ⟨h3, rfl⟩ := hok
      split at h
      · obtain ⟨q1, q2, q3⟩ := h
        exact lv_astore_n cx cb hd h3 hL.has (by rw [← hL.2.1]; exact q1) rfl (fun ls' h' => go q3 (hL.st1 q2 h') hH hS h1 h2)
      · exact h.elim
    case astore j =>
      obtain ⟨rfl, rfl⟩ := hok
      split at h
      · obtain ⟨q1, q2, q3⟩ := h
        exact lv_astore cx cb hd hL.has (by rw [← hL.2.1]; exact q1) rfl (fun ls' h' => go q3 (hL.st1 q2 h') hH hS h1 h2)
      · exact h.elim
    case lstore_n j =>
      obtain ⟨h3, rfl⟩ := hok
      split at h
      · obtain ⟨q1, q2, q3⟩ := h
        exact lv_lstore_n cx cb hd h3 hL.has (by rw [← hL.2.1]; exact q1) rfl (fun ls' h' => go q3 (hL.st2 q2 h') hH hS h1 h2)
      · exact h.elim
    case lstore j =>
      obtain ⟨rfl, rfl⟩ := hok
      split at h
      · obtain ⟨q1, q2, q3⟩ := h
        exact lv_lstore cx cb hd hL.has (by rw [← hL.2.1]; exact q1) rfl (fun ls' h' => go q3 (hL.st2 q2 h') hH hS h1 h2)
      · exact h.elim
    case dstore_n j =>
      obtain ⟨h3, rfl⟩ := hok
      split at h
      · obtain ⟨q1, q2, q3⟩ := h
        exact lv_dstore_n cx cb hd h3 hL.has (by rw [← hL.2.1]; exact q1) rfl (fun ls' h' => go q3 (hL.st2 q2 h') hH hS h1 h2)
      · exact h.elim
    case dstore j =>
      obtain ⟨rfl, rfl⟩ := hok
      split at h
      · obtain ⟨q1, q2, q3⟩ := h
        exact lv_dstore cx cb hd hL.has (by rw [← hL.2.1]; exact q1) rfl (fun ls' h' => go q3 (hL.st2 q2 h') hH hS h1 h2)
      · exact h.elim
    case iinc j n =>
      obtain ⟨⟨rfl, rfl⟩, hw⟩ := hok
      obtain ⟨v, ha, hf, hls⟩ := getL_spec hL h
      cases v <;> first | exact hf.elim | skip
      obtain ⟨q1, q2, q3⟩ := hf
      obtain ⟨k, hk⟩ := List.getElem?_of_mem (asc_mem (q := (j, .int _)).mpr hls)
      exact lv_iinc cx cb hd hL.has hk (by rw [hw]) (by rw [← hL.2.1]; exact q1) rfl (fun ls' h' => go q3 (hL.st1 q2 h') hH hS h1 h2)
    case iconst n => obtain ⟨rfl, hw⟩ := hok; exact lv_iconst cx cb hd hw (go0 h)
    case bipush n => obtain ⟨rfl, hw⟩ := hok; exact lv_bipush cx cb hd hw (go0 h)
    case sipush n => obtain ⟨rfl, hw⟩ := hok; exact lv_sipush cx cb hd hw (go0 h)
    case lconst n => obtain ⟨rfl, hw⟩ := hok; exact lv_lconst cx cb hd hw (go0 h)
    case dconst n =>
      obtain ⟨rfl, hw⟩ := hok
      rcases hw with ⟨hn, rfl⟩ | ⟨hn, rfl⟩
      · obtain rfl : n = 0 := Fin.ext hn
        exact lv_dconst0 cx cb hd (go0 h)
      · obtain rfl : n = 1 := Fin.ext hn
        exact lv_dconst1 cx cb hd (go0 h)
    case iadd => obtain rfl := hok; split at h <;> first | exact h.elim | exact lv_iadd cx cb hd (go0 h)
    case isub => obtain rfl := hok; split at h <;> first | exact h.elim | exact lv_isub cx cb hd (go0 h)
    case imul => obtain rfl := hok; split at h <;> first | exact h.elim | exact lv_imul cx cb hd (go0 h)
    case iand => obtain rfl := hok; split at h <;> first | exact h.elim | exact lv_iand cx cb hd (go0 h)
    case ior => obtain rfl := hok; split at h <;> first | exact h.elim | exact lv_ior cx cb hd (go0 h)
    case ixor => obtain rfl := hok; split at h <;> first | exact h.elim | exact lv_ixor cx cb hd (go0 h)
    case ishl => obtain rfl := hok; split at h <;> first | exact h.elim | exact lv_ishl cx cb hd (go0 h)
    case ishr => obtain rfl := hok; split at h <;> first | exact h.elim | exact lv_ishr cx cb hd (go0 h)
    case iushr => obtain rfl := hok; split at h <;> first | exact h.elim | exact lv_iushr cx cb hd rfl (go0 h)
    case dup_x2 => obtain rfl := hok; split at h <;> first | exact h.elim | exact lv_dup_x2 cx cb hd rfl rfl rfl (go0 h)
    case idiv => obtain rfl := hok; split at h <;> first | exact h.elim | exact lv_idiv cx cb hd h.1 (go0 h.2)
    case irem => obtain rfl := hok; split at h <;> first | exact h.elim | exact lv_irem cx cb hd h.1 (go0 h.2)
    case ladd => obtain rfl := hok; split at h <;> first | exact h.elim | exact lv_ladd cx cb hd (go0 h)
    case lsub => obtain rfl := hok; split at h <;> first | exact h.elim | exact lv_lsub cx cb hd (go0 h)
    case lmul => obtain rfl := hok; split at h <;> first | exact h.elim | exact lv_lmul cx cb hd (go0 h)
    case lshl => obtain rfl := hok; split at h <;> first | exact h.elim | exact lv_lshl cx cb hd rfl (go0 h)
    case lcmp => obtain rfl := hok; split at h <;> first | exact h.elim | exact W.lcmp cx cb hd (go0 h)
    case i2l => obtain rfl := hok; split at h <;> first | exact h.elim | exact lv_i2l cx cb hd rfl (go0 h)
    case i2d => obtain rfl := hok; split at h <;> first | exact h.elim | exact lv_i2d cx cb hd (go0 h)
    case i2c => obtain rfl := hok; split at h <;> first | exact h.elim | exact lv_i2c cx cb hd rfl (go0 h)
    case d2l => obtain rfl := hok; split at h <;> first | exact h.elim | exact lv_d2l cx cb hd (go0 h)
    case ddiv => obtain rfl := hok; split at h <;> first | exact h.elim | exact lv_ddiv cx cb hd h.1 (go0 h.2)
    case dmul => obtain rfl := hok; split at h <;> first | exact h.elim | exact lv_dmul cx cb hd h.1 (go0 h.2)
    case dcmp o => obtain rfl := hok; split at h <;> first | exact h.elim | exact lv_dcmp cx cb hd (go0 h)
    case dup => obtain rfl := hok; split at h <;> first | exact h.elim | exact lv_dup cx cb hd h.1 (go0 h.2)
    case pop => obtain rfl := hok; split at h <;> first | exact h.elim | exact lv_pop cx cb hd h.1 (go0 h.2)
    case dup2 => obtain rfl := hok; split at h <;> first | exact h.elim | exact lv_dup2_11 cx cb hd rfl rfl (go0 h)
    case goto off => obtain ⟨rfl, ht⟩ := hok; exact lv_goto cx cb hd ht (go0 h)
    case if_icmp o off =>
      obtain ⟨rfl, ht⟩ := hok
      split at h
      · cases o
        · exact lv_icmp_eq cx cb hd ht (fun c9 => go0 (h.1 c9)) (fun c9 => go0 (h.2 c9))
        · exact lv_icmp_ne cx cb hd ht (fun c9 => go0 (h.1 c9)) (fun c9 => go0 (h.2 fun hn => hn c9))
        · exact lv_icmp_lt cx cb hd ht (fun c9 => go0 (h.1 c9)) (fun c9 => go0 (h.2 c9))
        · exact lv_icmp_ge cx cb hd ht (fun c9 => go0 (h.1 c9)) (fun c9 => go0 (h.2 c9))
        · exact lv_icmp_gt cx cb hd ht (fun c9 => go0 (h.1 c9)) (fun c9 => go0 (h.2 c9))
        · exact lv_icmp_le cx cb hd ht (fun c9 => go0 (h.1 c9)) (fun c9 => go0 (h.2 c9))
      · exact h.elim
    case ifCond o off =>
      obtain ⟨rfl, ht⟩ := hok
      split at h
      · cases o
        · exact lv_if_eq cx cb hd ht (fun c9 => go0 (h.1 c9)) (fun c9 => go0 (h.2 c9))
        · exact lv_if_ne cx cb hd ht (fun c9 => go0 (h.1 c9)) (fun c9 => go0 (h.2 fun hn => hn c9))
        · exact lv_if_lt cx cb hd ht (fun c9 => go0 (h.1 c9)) (fun c9 => go0 (h.2 c9))
        · exact lv_if_ge cx cb hd ht (fun c9 => go0 (h.1 c9)) (fun c9 => go0 (h.2 c9))
        · exact lv_if_gt cx cb hd ht (fun c9 => go0 (h.1 c9)) (fun c9 => go0 (h.2 c9))
        · exact lv_if_le cx cb hd ht (fun c9 => go0 (h.1 c9)) (fun c9 => go0 (h.2 c9))
      · exact h.elim
    case tableswitch d lo hi offs =>
      obtain ⟨ht, hm⟩ := hok
      split at h
      · rcases h with ⟨g1, g2⟩ | ⟨g1, g2, t, g3, g4⟩
        · exact lv_tableOut cx cb hd g1 ht (go0 g2)
        · obtain ⟨off, f1, f2⟩ := map_get hm g3
          exact lv_tableIn cx cb hd g1 g2 f1 f2 (go0 g4)
      · exact h.elim
    case lookupswitch d ps =>
      split at h
      · obtain ⟨t, g1, g2⟩ := h
        exact lv_lookup cx cb hd hok rfl g1 (go0 g2)
      · exact h.elim
    case ldc j =>
      obtain ⟨rfl, hs⟩ := hok
      by_cases h1c : cc = 1
      · rw [if_pos h1c] at hs h
        exact lv_ldc cx cb c5 (hE.1.use (okWd_spec hs) rfl) hd (go0 h)
      rw [if_neg h1c] at hs h
      obtain ⟨h3, h4⟩ := h
      simp only [Bool.or_eq_true, Bool.not_eq_true', beq_eq_false_iff_ne] at hs
      have hs := hs.resolve_left (fun x => x h3)
      rw [List.any_eq_true] at hs
      obtain ⟨q9, hq9, hs⟩ := hs
      simp only [Bool.and_eq_true, beq_iff_eq] at hs
      obtain ⟨⟨s1, s2⟩, s3⟩ := hs
      have hv := hE.2.2.2.2.2.2.2.2.2.1 q9 hq9
      rw [s1, s2, s3] at hv
      exact va_ldcS cx cb c5 hv hd (go0 h4)
    case ldc2_w j =>
      obtain ⟨rfl, hs⟩ := hok
      by_cases hb : b = 0
      · rw [if_pos hb] at hs h
        exact lv_ldc2 cx cb c5 (hE.1.use (okWd_spec hs) rfl) hd (go0 h)
      · rw [if_neg hb] at hs h
        exact lv_ldc2d cx cb c5 (hE.1.use (okWd_spec hs) rfl) hd (go0 h)
    case getfield j =>
      obtain ⟨rfl, hs⟩ := hok
      split at h
      · obtain ⟨g1, g2⟩ := h
        by_cases ha : a = 60
        · rw [if_pos ha] at hs g1
          simp only [Bool.and_eq_true, Bool.or_eq_true, beq_iff_eq] at hs
          exact r_sgetf C hH hS hs.1 (hs.2.elim (fun x => Or.inl ⟨x.1.1, x.1.2, x.2⟩) (fun x => Or.inr ⟨x.1.1, x.1.2, x.2⟩)) g1 hd (go0 g2)
        · rw [if_neg ha] at hs g1
          simp only [Bool.and_eq_true, beq_iff_eq] at hs
          exact r_getf C hH hs.1 hs.2 g1 hd (go0 g2)
      · exact h.elim
    case putfield j =>
      obtain ⟨⟨⟨rfl, hs⟩, hc⟩, hfin⟩ := hok
      have hfin' : (TXc a b).2.2.2 = true → (mi_nm r).name = "<init>" ∧ mi_cn r = a ∧ (TXc a b).1 = clsN a := by
        intro hF
        rcases hfin with hf | hf
        · rw [hF] at hf; cases hf
        · exact ⟨hf.1, hf.2, own_cls (okFl_spec hs).1 (okFl_spec hs).2.1⟩
      obtain ⟨Lv, cA, hw⟩ := HR_w.mp hH
      split at h
      · obtain ⟨g1, g2, g3⟩ := h
        have hcc : tcF (tyc a b) = 0 ∨ tcF (tyc a b) = 1 := by
          rw [← hc]
          exact g1.imp id (fun x => x.1)
        refine r_put C hw hS hs g2 hd hfin' ?_ ?_ (τ := (K, up2 I _ b _, Rr, L, sz, ex)) rfl rfl (fun y hy => ⟨up2_ne hy, rfl, rfl⟩) (celE_putI g2 hcc) (fun H1 locs1 a1 a2 => go g3 hL a1 a2 h1 h2)
        · rcases g1 with g1 | ⟨g1, g5⟩
          · rw [tcF_0 (hc.symm.trans g1)]; rfl
          · rw [tcF_1 (hc.symm.trans g1)]; exact bool_nar g5
        · rcases g1 with g1 | ⟨g1, g5⟩
          · rw [tcF_0 (hc.symm.trans g1)]; rfl
          · rw [tcF_1 (hc.symm.trans g1)]; rcases g5 with rfl | rfl <;> rfl
      · obtain ⟨g1, g2, g3⟩ := h
        have ht := tcF_2 (hc.symm.trans g1)
        exact r_put C hw hS hs g2 hd hfin' (by rw [ht]; rfl) (by rw [ht]; rfl) (τ := (K, I, Rr, up2 L _ b _, sz, ex)) rfl rfl (fun y hy => ⟨rfl, rfl, up2_ne hy⟩) (celE_putJ g2 (hc.symm.trans g1)) (fun H1 locs1 a1 a2 => go g3 hL a1 a2 h1 h2)
      · obtain ⟨g1, g2, g3⟩ := h
        have ht := tcF_3 (hc.symm.trans g1)
        exact r_put C hw hS hs g2 hd hfin' (by rcases ht with ⟨n, ht⟩ | ⟨n, ht⟩ <;> rw [ht] <;> rfl) (by rcases ht with ⟨n, ht⟩ | ⟨n, ht⟩ <;> rw [ht] <;> rfl) (τ := (K, I, up2 Rr _ b (some _), L, sz, ex)) rfl rfl (fun y hy => ⟨rfl, up2_ne hy, rfl⟩) (celE_putR g2 (hc.symm.trans g1)) (fun H1 locs1 a1 a2 => go g3 hL a1 a2 h1 h2)
      · exact h.elim
    case getstatic j =>
      obtain ⟨⟨rfl, ha⟩, hw⟩ := hok
      refine r_gets C hS ha (okWd_spec hw) hd ?_
      by_cases h3 : a < 3
      · rw [if_pos h3] at h ⊢
        exact go0 h
      · rw [if_neg h3] at h ⊢
        by_cases h4 : a = 3
        · rw [if_pos h4] at h ⊢
          exact go0 h
        · rw [if_neg h4] at h ⊢
          exact go0 h
    case new j =>
      obtain ⟨rfl, hs⟩ := hok
      by_cases hc : cc = 9
      · rw [if_pos hc] at hs h
        obtain ⟨g1, g2, g3, g4⟩ := h
        have := E.2 a K I Rr L sz ex H locs pc arr st g4 ⟨j, hd, hs⟩ hH hS (by rw [hL.1, c3]) g1
        rw [g2, g3]
        exact this
      · rw [if_neg hc] at hs h
        simp only [Bool.and_eq_true, beq_iff_eq, decide_eq_true_eq] at hs
        obtain ⟨⟨s1, s2⟩, s3⟩ := hs
        obtain ⟨rfl, g2, g3⟩ := h
        obtain ⟨f1, f2⟩ := fitC_of hr g2
        subst s2
        exact r_new C hH hS s1 (okWd_spec s3) f1 f2 hd (fun H1 a1 a2 => go g3 hL a1 a2 f1 f2)
    case newarray t =>
      obtain ⟨rfl, hs⟩ := hok
      split at h
      · obtain ⟨rfl, g2, g3, g4, g5⟩ := h
        obtain ⟨f1, f2⟩ := fitC_of hr g4
        exact r_newa C hH hS hs g2 g3 f1 f2 hd (fun H1 a1 a2 => go g5 hL a1 a2 f1 f2)
      · exact h.elim
    case anewarray j =>
      obtain ⟨rfl, hs⟩ := hok
      split at h
      · obtain ⟨rfl, g2, g3, g4, g5⟩ := h
        obtain ⟨f1, f2⟩ := fitC_of hr g4
        rcases hs with ((⟨rfl, hw⟩ | ⟨rfl, hw⟩) | ⟨rfl, hw⟩) | ⟨rfl, hw⟩
        · exact r_anew C hH hS (Cn := RX2) (by omega) rfl (by simp) (okWd_spec hw) g2 g3 f1 f2 hd (fun H1 a1 a2 => go g5 hL a1 a2 f1 f2)
        · exact r_anew C hH hS (Cn := RX7) (by omega) rfl (by simp) (okWd_spec hw) g2 g3 f1 f2 hd (fun H1 a1 a2 => go g5 hL a1 a2 f1 f2)
        · exact r_anew C hH hS (Cn := RX8) (by omega) rfl (by simp) (okWd_spec hw) g2 g3 f1 f2 hd (fun H1 a1 a2 => go g5 hL a1 a2 f1 f2)
        · exact r_anew C hH hS (Cn := RX9) (by omega) rfl (by simp) (okWd_spec hw) g2 g3 f1 f2 hd (fun H1 a1 a2 => go g5 hL a1 a2 f1 f2)
      · exact h.elim
    case arraylength =>
      obtain rfl := hok
      split at h
      · exact r_alen C hH hS h.1 hd (go0 h.2)
      · exact h.elim
    case iaload =>
      obtain rfl := hok
      split at h
      · exact r_iald C hH hS h.1 h.2.1 hd (go0 h.2.2)
      · exact h.elim
    case baload =>
      obtain rfl := hok
      split at h
      · exact r_bald C hH hS h.1 h.2.1 hd (go0 h.2.2)
      · exact h.elim
    case laload =>
      obtain rfl := hok
      split at h
      · exact r_lald C hH h.1 h.2.1 hd (go0 h.2.2)
      · exact h.elim
    case aaload =>
      obtain rfl := hok
      split at h
      · exact r_aald C hH h.1 h.2.1 hd (go0 h.2.2)
      · exact h.elim
    case iastore =>
      obtain rfl := hok
      split at h
      · exact r_iast C hH hS h.1 h.2.1 hd (fun H1 locs1 a1 a2 => go h.2.2 hL a1 a2 h1 h2)
      · exact h.elim
    case lastore =>
      obtain rfl := hok
      split at h
      · exact r_last C hH hS h.1 h.2.1 hd (fun H1 locs1 a1 a2 => go h.2.2 hL a1 a2 h1 h2)
      · exact h.elim
    case aastore =>
      obtain rfl := hok
      split at h
      · exact r_aast C hH hS h.1 h.2.1 h.2.2.1 hd (fun H1 locs1 a1 a2 => go h.2.2.2 hL a1 a2 h1 h2)
      · exact h.elim
    case ireturn =>
      obtain rfl := hok
      split at h
      · rw [hr] at h
        exact E.1 _ _ _ _ _ _ _ _ _ h.2 (Or.inr (Or.inl ⟨_, rfl, rfl, h.1, hd⟩)) hH hS h1 h2
      · exact h.elim
    case lreturn =>
      obtain ⟨rfl, ht⟩ := hok
      split at h
      · exact E.1 _ _ _ _ _ _ _ _ _ h (Or.inr (Or.inr (Or.inl ⟨_, rfl, rfl, ht, hd⟩))) hH hS h1 h2
      · exact h.elim
    case dreturn =>
      obtain ⟨rfl, ht⟩ := hok
      split at h
      · exact E.1 _ _ _ _ _ _ _ _ _ h (Or.inr (Or.inr (Or.inr (Or.inl ⟨_, rfl, rfl, ht, hd⟩)))) hH hS h1 h2
      · exact h.elim
    case areturn =>
      obtain ⟨rfl, ht⟩ := hok
      split at h
      · refine E.1 _ _ _ _ _ _ _ _ _ h (Or.inr (Or.inr (Or.inr (Or.inr ⟨_, rfl, rfl, ?_, hd⟩)))) hH hS h1 h2
        split at ht
        · next n hn => exact Or.inl ⟨n, hn⟩
        · next n hn => exact Or.inr ⟨n, hn⟩
        · cases ht
      · exact h.elim
    case return_ =>
      obtain ⟨rfl, ht⟩ := hok
      split at h
      · exact E.1 _ _ _ _ _ _ _ _ _ h (Or.inl ⟨rfl, rfl, ht, hd⟩) hH hS h1 h2
      · exact h.elim
    case invokevirtual j =>
      obtain ⟨rfl, hs⟩ := hok
      split at h
      · next x rest hdr =>
        obtain ⟨g1, g2⟩ := h
        cases hy : mT b with
        | none => rw [hy] at g1; exact g1.elim
        | some ry =>
          rw [hy] at g1 hs
          dsimp only at g1 hs
          simp only [Bool.and_eq_true, Bool.or_eq_true, beq_iff_eq, decide_eq_true_eq, Bool.not_eq_true', decide_eq_false_iff_not] at hs
          obtain ⟨⟨⟨⟨⟨⟨⟨⟨s1, s2⟩, s3⟩, s4⟩, s5⟩, s6⟩, s7⟩, s8⟩, s9⟩ := hs
          have hlen : (st.take a).length = a := by
            rw [List.length_take]
            have : 0 < (st.drop a).length := by rw [hdr]; simp
            rw [List.length_drop] at this
            omega
          have := snd_virt hr C E hL hH hS hy g1 (As := (st.take a).reverse) (by rw [List.length_reverse]; exact hlen) g2 ⟨⟨s1, s2, s3, s4, s5, s7, s8⟩, s9⟩ (name_law hy s1) hd
          rwa [List.reverse_reverse, ← hdr, List.take_append_drop] at this
      · exact h.elim
    case invokestatic j =>
      obtain ⟨rfl, hs⟩ := hok
      by_cases hb1 : b = 9001
      · rw [if_pos hb1] at h
        rw [if_pos hb1] at hs
        subst hb1
        split at h
        · obtain ⟨g1, g2, g3, g4, g5, g6, g7, g8, g9⟩ := h
          exact r_copy C hH hS (okMl_nat (by decide) hs) g1 g2 g3 g4 g5 g6 g7 g8 (by rw [hL.1, c3]) (ht_pos hr) hd (fun H1 locs1 a1 a2 => go g9 hL a1 a2 h1 h2)
        · exact h.elim
      · rw [if_neg hb1] at h
        rw [if_neg hb1] at hs
        obtain ⟨g0, g2⟩ := h
        cases hy : mT b with
        | none => unfold callX at g2; rw [hy] at g2; exact g2.elim
        | some ry =>
          rw [hy] at hs
          dsimp only at hs
          simp only [Bool.and_eq_true, Bool.or_eq_true, beq_iff_eq, decide_eq_true_eq] at hs
          obtain ⟨⟨⟨⟨⟨⟨s1, s2⟩, s3⟩, s4⟩, s5⟩, s6⟩, s7⟩ := hs
          have := snd_stat hr C E hL hH hS hy (As := (st.take a).reverse) (rest := st.drop a) (by rw [List.length_reverse, List.length_take]; omega) g2 ⟨⟨s1, s2, s3, s4, s6⟩, s7⟩ (name_law hy s1) hd
          rwa [List.reverse_reverse, List.take_append_drop] at this
    case invokespecial j =>
      obtain ⟨rfl, hs⟩ := hok
      split at h
      · next x rest hdr =>
        by_cases hb : b = 9003
        · rw [if_pos hb] at h hs
          subst hb
          obtain ⟨rfl, g1, g2⟩ := h
          rw [List.drop_zero] at hdr
          subst hdr
          have hp := ht_pos hr
          exact W.objInit cx cb c5 (hE.1.use (okMl_nat (by decide) hs) rfl) (hE.1.use oi_ini rfl) (hE.1.use oi_cod rfl) rfl (by show arr.size = _; rw [hL.1, c3]) rfl hd (by omega) (by show 2 * 0 + _ + 12 ≤ _; rw [wsum_eq]; omega) (go0 g2)
        · rw [if_neg hb] at h hs
          obtain ⟨g1, g2⟩ := h
          cases hy : mT b with
          | none => rw [hy] at g1; exact g1.elim
          | some ry =>
            rw [hy] at g1 hs
            dsimp only at g1 hs
            simp only [Bool.and_eq_true, Bool.or_eq_true, beq_iff_eq, decide_eq_true_eq, Bool.not_eq_true'] at hs
            obtain ⟨⟨⟨⟨⟨⟨⟨⟨⟨s1, s2⟩, s3⟩, s4⟩, s5⟩, s6⟩, s7⟩, s8⟩, s9⟩, s10⟩ := hs
            have hlen : (st.take a).length = a := by
              rw [List.length_take]
              have : 0 < (st.drop a).length := by rw [hdr]; simp
              rw [List.length_drop] at this
              omega
            have := snd_spec hr C E hL hH hS hy (As := (st.take a).reverse) (by rw [List.length_reverse]; exact hlen) g2 ⟨⟨s1, s2, s3, s4, s5, s8, s9⟩, s10⟩ hd
            rwa [List.reverse_reverse, ← hdr, List.take_append_drop] at this
      · exact h.elim
/-- SOUNDNESS -/
theorem sound {i pc : Nat} {ls : Lcs} {st : List Value} {cu : Nat × Nat} {σ : Mem} {Q : Res → Mem → Prop} (h : X z i pc ls st cu σ Q) : SND l D base z i pc ls st cu σ Q :=
  h (SND l D base z) fun _ _ _ _ _ _ _ h => snd_step h
end ST
