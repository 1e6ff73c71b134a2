/-! one row an instruction: what XI says of it, for rewriting -/
section XR
variable {M : Nat → Option MI} {z : P0} {k : Cont} {n a b c : Nat} {ts : List Nat} {w : Int32} {q : Int64} {m pc : Nat} {ls : Lcs} {st rest : List Value} {cu : Nat × Nat} {K : Nat → Nat × Nat} {I : Nat → Nat → Int32} {R : Nat → Nat → Option Nat} {L : Nat → Nat → Int64} {sz : Nat} {ex : Bool} {Q : Res → Mem → Prop}
theorem i_aload_n {j : Fin 4} : XI M z k (.aload_n j, n, a, b, c, ts, w, q) m pc ls st cu (K, I, R, L, sz, ex) Q = getL ls a (ldA fun v => k m (pc + 1) ls (v :: st) cu (K, I, R, L, sz, ex) Q) := rfl
theorem i_aload {j : Nat} : XI M z k (.aload j, n, a, b, c, ts, w, q) m pc ls st cu (K, I, R, L, sz, ex) Q = getL ls a (ldA fun v => k m (pc + 2) ls (v :: st) cu (K, I, R, L, sz, ex) Q) := rfl
theorem i_iload_n {j : Fin 4} : XI M z k (.iload_n j, n, a, b, c, ts, w, q) m pc ls st cu (K, I, R, L, sz, ex) Q = getL ls a (ldI fun v => k m (pc + 1) ls (.int v :: st) cu (K, I, R, L, sz, ex) Q) := rfl
theorem i_iload {j : Nat} : XI M z k (.iload j, n, a, b, c, ts, w, q) m pc ls st cu (K, I, R, L, sz, ex) Q = getL ls a (ldI fun v => k m (pc + 2) ls (.int v :: st) cu (K, I, R, L, sz, ex) Q) := rfl
theorem i_lload_n {j : Fin 4} : XI M z k (.lload_n j, n, a, b, c, ts, w, q) m pc ls st cu (K, I, R, L, sz, ex) Q = getL ls a (ldJ fun v => k m (pc + 1) ls (.long v :: st) cu (K, I, R, L, sz, ex) Q) := rfl
theorem i_lload {j : Nat} : XI M z k (.lload j, n, a, b, c, ts, w, q) m pc ls st cu (K, I, R, L, sz, ex) Q = getL ls a (ldJ fun v => k m (pc + 2) ls (.long v :: st) cu (K, I, R, L, sz, ex) Q) := rfl
theorem i_dload_n {j : Fin 4} : XI M z k (.dload_n j, n, a, b, c, ts, w, q) m pc ls st cu (K, I, R, L, sz, ex) Q = getL ls a (ldD fun v => k m (pc + 1) ls (.double v :: st) cu (K, I, R, L, sz, ex) Q) := rfl
theorem i_dload {j : Nat} : XI M z k (.dload j, n, a, b, c, ts, w, q) m pc ls st cu (K, I, R, L, sz, ex) Q = getL ls a (ldD fun v => k m (pc + 2) ls (.double v :: st) cu (K, I, R, L, sz, ex) Q) := rfl
theorem i_istore_n {j : Fin 4} {x : Int32} : XI M z k (.istore_n j, n, a, b, c, ts, w, q) m pc ls (.int x :: st) cu (K, I, R, L, sz, ex) Q = stL ls a (.int x) fun ls => k m (pc + 1) ls st cu (K, I, R, L, sz, ex) Q := rfl
theorem i_istore {j : Nat} {x : Int32} : XI M z k (.istore j, n, a, b, c, ts, w, q) m pc ls (.int x :: st) cu (K, I, R, L, sz, ex) Q = stL ls a (.int x) fun ls => k m (pc + 2) ls st cu (K, I, R, L, sz, ex) Q := rfl
theorem i_astore_n {j : Fin 4} {x : Nat} : XI M z k (.astore_n j, n, a, b, c, ts, w, q) m pc ls (.ref x :: st) cu (K, I, R, L, sz, ex) Q = stL ls a (.ref x) fun ls => k m (pc + 1) ls st cu (K, I, R, L, sz, ex) Q := rfl
theorem i_astore {j : Nat} {x : Nat} : XI M z k (.astore j, n, a, b, c, ts, w, q) m pc ls (.ref x :: st) cu (K, I, R, L, sz, ex) Q = stL ls a (.ref x) fun ls => k m (pc + 2) ls st cu (K, I, R, L, sz, ex) Q := rfl
theorem i_lstore_n {j : Fin 4} {x : Int64} : XI M z k (.lstore_n j, n, a, b, c, ts, w, q) m pc ls (.long x :: st) cu (K, I, R, L, sz, ex) Q = stL2 ls a (.long x) fun ls => k m (pc + 1) ls st cu (K, I, R, L, sz, ex) Q := rfl
theorem i_lstore {j : Nat} {x : Int64} : XI M z k (.lstore j, n, a, b, c, ts, w, q) m pc ls (.long x :: st) cu (K, I, R, L, sz, ex) Q = stL2 ls a (.long x) fun ls => k m (pc + 2) ls st cu (K, I, R, L, sz, ex) Q := rfl
theorem i_dstore_n {j : Fin 4} {x : UInt64} : XI M z k (.dstore_n j, n, a, b, c, ts, w, q) m pc ls (.double x :: st) cu (K, I, R, L, sz, ex) Q = stL2 ls a (.double x) fun ls => k m (pc + 1) ls st cu (K, I, R, L, sz, ex) Q := rfl
theorem i_dstore {j : Nat} {x : UInt64} : XI M z k (.dstore j, n, a, b, c, ts, w, q) m pc ls (.double x :: st) cu (K, I, R, L, sz, ex) Q = stL2 ls a (.double x) fun ls => k m (pc + 2) ls st cu (K, I, R, L, sz, ex) Q := rfl
theorem i_iinc {j : Nat} {y : Int} : XI M z k (.iinc j y, n, a, b, c, ts, w, q) m pc ls st cu (K, I, R, L, sz, ex) Q = getL ls a (ldI fun x => stL ls a (.int (x + w)) fun ls => k m (pc + 3) ls st cu (K, I, R, L, sz, ex) Q) := rfl
theorem i_iconst {y : Int} : XI M z k (.iconst y, n, a, b, c, ts, w, q) m pc ls st cu (K, I, R, L, sz, ex) Q = k m (pc + 1) ls (.int w :: st) cu (K, I, R, L, sz, ex) Q := rfl
theorem i_bipush {y : Int} : XI M z k (.bipush y, n, a, b, c, ts, w, q) m pc ls st cu (K, I, R, L, sz, ex) Q = k m (pc + 2) ls (.int w :: st) cu (K, I, R, L, sz, ex) Q := rfl
theorem i_sipush {y : Int} : XI M z k (.sipush y, n, a, b, c, ts, w, q) m pc ls st cu (K, I, R, L, sz, ex) Q = k m (pc + 3) ls (.int w :: st) cu (K, I, R, L, sz, ex) Q := rfl
theorem i_lconst {y : Fin 2} : XI M z k (.lconst y, n, a, b, c, ts, w, q) m pc ls st cu (K, I, R, L, sz, ex) Q = k m (pc + 1) ls (.long q :: st) cu (K, I, R, L, sz, ex) Q := rfl
theorem i_dconst {y : Fin 2} : XI M z k (.dconst y, n, a, b, c, ts, w, q) m pc ls st cu (K, I, R, L, sz, ex) Q = k m (pc + 1) ls (.double (UInt64.ofNat a) :: st) cu (K, I, R, L, sz, ex) Q := rfl
theorem i_ldc {y : Nat} : XI M z k (.ldc y, n, a, b, 0, ts, w, q) m pc ls st cu (K, I, R, L, sz, ex) Q = k m (pc + 2) ls (.ref (z.1 (100 + a)) :: st) cu (K, I, R, L, sz, ex) Q := by
  dsimp only [XI]
  first
    | exact propext ⟨fun h => h.2, fun h => ⟨rfl, h⟩⟩
    | (rw [if_neg (by decide)]; exact propext ⟨fun h => h.2, fun h => ⟨rfl, h⟩⟩)
theorem i_ldcI {y : Nat} : XI M z k (.ldc y, n, a, b, 1, ts, w, q) m pc ls st cu (K, I, R, L, sz, ex) Q = k m (pc + 2) ls (.int w :: st) cu (K, I, R, L, sz, ex) Q := by
  dsimp only [XI]
  first
    | rfl
    | exact if_pos rfl
theorem i_iushr {x y : Int32} : XI M z k (.iushr, n, a, b, c, ts, w, q) m pc ls (.int y :: .int x :: st) cu (K, I, R, L, sz, ex) Q = k m (pc + 1) ls (.int (ushr x y) :: st) cu (K, I, R, L, sz, ex) Q := rfl
theorem i_ldc2 {y : Nat} : XI M z k (.ldc2_w y, n, a, b, c, ts, w, q) m pc ls st cu (K, I, R, L, sz, ex) Q = k m (pc + 3) ls ((if b = 0 then .long q else .double (UInt64.ofNat a)) :: st) cu (K, I, R, L, sz, ex) Q := rfl
theorem i_iadd {x y : Int32} : XI M z k (.iadd, n, a, b, c, ts, w, q) m pc ls (.int y :: .int x :: st) cu (K, I, R, L, sz, ex) Q = k m (pc + 1) ls (.int (x + y) :: st) cu (K, I, R, L, sz, ex) Q := rfl
theorem i_isub {x y : Int32} : XI M z k (.isub, n, a, b, c, ts, w, q) m pc ls (.int y :: .int x :: st) cu (K, I, R, L, sz, ex) Q = k m (pc + 1) ls (.int (x - y) :: st) cu (K, I, R, L, sz, ex) Q := rfl
theorem i_imul {x y : Int32} : XI M z k (.imul, n, a, b, c, ts, w, q) m pc ls (.int y :: .int x :: st) cu (K, I, R, L, sz, ex) Q = k m (pc + 1) ls (.int (x * y) :: st) cu (K, I, R, L, sz, ex) Q := rfl
theorem i_iand {x y : Int32} : XI M z k (.iand, n, a, b, c, ts, w, q) m pc ls (.int y :: .int x :: st) cu (K, I, R, L, sz, ex) Q = k m (pc + 1) ls (.int (x &&& y) :: st) cu (K, I, R, L, sz, ex) Q := rfl
theorem i_ior {x y : Int32} : XI M z k (.ior, n, a, b, c, ts, w, q) m pc ls (.int y :: .int x :: st) cu (K, I, R, L, sz, ex) Q = k m (pc + 1) ls (.int (x ||| y) :: st) cu (K, I, R, L, sz, ex) Q := rfl
theorem i_ixor {x y : Int32} : XI M z k (.ixor, n, a, b, c, ts, w, q) m pc ls (.int y :: .int x :: st) cu (K, I, R, L, sz, ex) Q = k m (pc + 1) ls (.int (x ^^^ y) :: st) cu (K, I, R, L, sz, ex) Q := rfl
theorem i_ishl {x y : Int32} : XI M z k (.ishl, n, a, b, c, ts, w, q) m pc ls (.int y :: .int x :: st) cu (K, I, R, L, sz, ex) Q = k m (pc + 1) ls (.int (x <<< (y &&& 31)) :: st) cu (K, I, R, L, sz, ex) Q := rfl
theorem i_ishr {x y : Int32} : XI M z k (.ishr, n, a, b, c, ts, w, q) m pc ls (.int y :: .int x :: st) cu (K, I, R, L, sz, ex) Q = k m (pc + 1) ls (.int (x >>> (y &&& 31)) :: st) cu (K, I, R, L, sz, ex) Q := rfl
theorem i_idiv {x y : Int32} : XI M z k (.idiv, n, a, b, c, ts, w, q) m pc ls (.int y :: .int x :: st) cu (K, I, R, L, sz, ex) Q = (¬ y = 0 ∧ k m (pc + 1) ls (.int (x / y) :: st) cu (K, I, R, L, sz, ex) Q) := rfl
theorem i_irem {x y : Int32} : XI M z k (.irem, n, a, b, c, ts, w, q) m pc ls (.int y :: .int x :: st) cu (K, I, R, L, sz, ex) Q = (¬ y = 0 ∧ k m (pc + 1) ls (.int (x - x / y * y) :: st) cu (K, I, R, L, sz, ex) Q) := rfl
theorem i_ladd {x y : Int64} : XI M z k (.ladd, n, a, b, c, ts, w, q) m pc ls (.long y :: .long x :: st) cu (K, I, R, L, sz, ex) Q = k m (pc + 1) ls (.long (x + y) :: st) cu (K, I, R, L, sz, ex) Q := rfl
theorem i_lsub {x y : Int64} : XI M z k (.lsub, n, a, b, c, ts, w, q) m pc ls (.long y :: .long x :: st) cu (K, I, R, L, sz, ex) Q = k m (pc + 1) ls (.long (x - y) :: st) cu (K, I, R, L, sz, ex) Q := rfl
theorem i_lmul {x y : Int64} : XI M z k (.lmul, n, a, b, c, ts, w, q) m pc ls (.long y :: .long x :: st) cu (K, I, R, L, sz, ex) Q = k m (pc + 1) ls (.long (x * y) :: st) cu (K, I, R, L, sz, ex) Q := rfl
theorem i_lshl {x : Int64} {y : Int32} : XI M z k (.lshl, n, a, b, c, ts, w, q) m pc ls (.int y :: .long x :: st) cu (K, I, R, L, sz, ex) Q = k m (pc + 1) ls (.long (x <<< (y.toInt64 &&& 63)) :: st) cu (K, I, R, L, sz, ex) Q := rfl
theorem i_lcmp {x y : Int64} : XI M z k (.lcmp, n, a, b, c, ts, w, q) m pc ls (.long y :: .long x :: st) cu (K, I, R, L, sz, ex) Q = k m (pc + 1) ls (.int (lg_cmp x y) :: st) cu (K, I, R, L, sz, ex) Q := rfl
theorem i_i2l {x : Int32} : XI M z k (.i2l, n, a, b, c, ts, w, q) m pc ls (.int x :: st) cu (K, I, R, L, sz, ex) Q = k m (pc + 1) ls (.long x.toInt64 :: st) cu (K, I, R, L, sz, ex) Q := rfl
theorem i_i2d {x : Int32} : XI M z k (.i2d, n, a, b, c, ts, w, q) m pc ls (.int x :: st) cu (K, I, R, L, sz, ex) Q = k m (pc + 1) ls (.double (FP.i2d x) :: st) cu (K, I, R, L, sz, ex) Q := rfl
theorem i_i2c {x : Int32} : XI M z k (.i2c, n, a, b, c, ts, w, q) m pc ls (.int x :: st) cu (K, I, R, L, sz, ex) Q = k m (pc + 1) ls (.int (x.toUInt32 % 65536).toInt32 :: st) cu (K, I, R, L, sz, ex) Q := rfl
theorem i_d2l {x : UInt64} : XI M z k (.d2l, n, a, b, c, ts, w, q) m pc ls (.double x :: st) cu (K, I, R, L, sz, ex) Q = k m (pc + 1) ls (.long (FP.d2l x) :: st) cu (K, I, R, L, sz, ex) Q := rfl
theorem i_ddiv {x y : UInt64} : XI M z k (.ddiv, n, a, b, c, ts, w, q) m pc ls (.double y :: .double x :: st) cu (K, I, R, L, sz, ex) Q = (vf_n64 (FP.ddiv x y) ∧ k m (pc + 1) ls (.double (FP.ddiv x y) :: st) cu (K, I, R, L, sz, ex) Q) := rfl
theorem i_dmul {x y : UInt64} : XI M z k (.dmul, n, a, b, c, ts, w, q) m pc ls (.double y :: .double x :: st) cu (K, I, R, L, sz, ex) Q = (vf_n64 (FP.dmul x y) ∧ k m (pc + 1) ls (.double (FP.dmul x y) :: st) cu (K, I, R, L, sz, ex) Q) := rfl
theorem i_dcmp {x y : UInt64} {o : CmpOp} : XI M z k (.dcmp o, n, a, b, c, ts, w, q) m pc ls (.double y :: .double x :: st) cu (K, I, R, L, sz, ex) Q = k m (pc + 1) ls (.int (Op.cmpValue (FP.dcmp x y) o) :: st) cu (K, I, R, L, sz, ex) Q := rfl
theorem i_dupI {x : Int32} : XI M z k (.dup, n, a, b, c, ts, w, q) m pc ls (.int x :: st) cu (K, I, R, L, sz, ex) Q = k m (pc + 1) ls (.int x :: .int x :: st) cu (K, I, R, L, sz, ex) Q := propext ⟨fun h => h.2, fun h => ⟨rfl, h⟩⟩
theorem i_dupA {x : Nat} : XI M z k (.dup, n, a, b, c, ts, w, q) m pc ls (.ref x :: st) cu (K, I, R, L, sz, ex) Q = k m (pc + 1) ls (.ref x :: .ref x :: st) cu (K, I, R, L, sz, ex) Q := propext ⟨fun h => h.2, fun h => ⟨rfl, h⟩⟩
theorem i_popI {x : Int32} : XI M z k (.pop, n, a, b, c, ts, w, q) m pc ls (.int x :: st) cu (K, I, R, L, sz, ex) Q = k m (pc + 1) ls st cu (K, I, R, L, sz, ex) Q := propext ⟨fun h => h.2, fun h => ⟨rfl, h⟩⟩
theorem i_dup2 {x : Int32} {y : Nat} : XI M z k (.dup2, n, a, b, c, ts, w, q) m pc ls (.int x :: .ref y :: st) cu (K, I, R, L, sz, ex) Q = k m (pc + 1) ls (.int x :: .ref y :: .int x :: .ref y :: st) cu (K, I, R, L, sz, ex) Q := rfl
theorem i_goto {y : Int} : XI M z k (.goto y, n, a, b, c, ts, w, q) m pc ls st cu (K, I, R, L, sz, ex) Q = k m a ls st cu (K, I, R, L, sz, ex) Q := rfl
theorem i_icmp {o : ClassFile.Cond} {v : Int} {x y : Int32} : XI M z k (.if_icmp o v, n, a, b, c, ts, w, q) m pc ls (.int y :: .int x :: st) cu (K, I, R, L, sz, ex) Q = ((cmpI o x y → k m a ls st cu (K, I, R, L, sz, ex) Q) ∧ (¬ cmpI o x y → k m (pc + 3) ls st cu (K, I, R, L, sz, ex) Q)) := rfl
theorem i_if {o : ClassFile.Cond} {v : Int} {x : Int32} : XI M z k (.ifCond o v, n, a, b, c, ts, w, q) m pc ls (.int x :: st) cu (K, I, R, L, sz, ex) Q = ((cmpI o x 0 → k m a ls st cu (K, I, R, L, sz, ex) Q) ∧ (¬ cmpI o x 0 → k m (pc + 3) ls st cu (K, I, R, L, sz, ex) Q)) := rfl
theorem c_eq {x y : Int32} : cmpI .eq x y = (x = y) := rfl
theorem c_ne {x y : Int32} : cmpI .ne x y = (x ≠ y) := rfl
theorem c_lt {x y : Int32} : cmpI .lt x y = (x < y) := rfl
theorem c_ge {x y : Int32} : cmpI .ge x y = (y ≤ x) := rfl
theorem c_gt {x y : Int32} : cmpI .gt x y = (y < x) := rfl
theorem c_le {x y : Int32} : cmpI .le x y = (x ≤ y) := rfl
theorem i_tsw {d lo hi : Int} {of : Array Int} {x : Int32} : XI M z k (.tableswitch d lo hi of, n, a, b, c, ts, w, q) m pc ls (.int x :: st) cu (K, I, R, L, sz, ex) Q = (((x.toInt < lo ∨ hi < x.toInt) ∧ k m a ls st cu (K, I, R, L, sz, ex) Q) ∨ (¬ x.toInt < lo ∧ ¬ hi < x.toInt ∧ ∃ t : Nat, ts[(x.toInt - lo).toNat]? = some t ∧ k m t ls st cu (K, I, R, L, sz, ex) Q)) := rfl
theorem i_lsw {d : Int} {ps : Array (Int × Int)} {x : Int32} : XI M z k (.lookupswitch d ps, n, a, b, c, ts, w, q) m pc ls (.int x :: st) cu (K, I, R, L, sz, ex) Q = ∃ t : Nat, (pc : Int) + Op.lookupswitch.offset ps.toList d x.toInt = (t : Int) ∧ k m t ls st cu (K, I, R, L, sz, ex) Q := rfl
theorem i_getf {y x : Nat} : XI M z k (.getfield y, n, a, b, c, ts, w, q) m pc ls (.ref x :: st) cu (K, I, R, L, sz, ex) Q = ((K x).1 = (if a = 60 then 52 else 100 + a) ∧ k m (pc + 3) ls (fvl c (I x b) (R x b) (L x b) :: st) cu (K, I, R, L, sz, ex) Q) := rfl
theorem fvl_0 {i : Int32} {r : Option Nat} {j : Int64} : fvl 0 i r j = .int i := rfl
theorem fvl_1 {i : Int32} {r : Option Nat} {j : Int64} : fvl 1 i r j = .int i := rfl
theorem fvl_2 {i : Int32} {r : Option Nat} {j : Int64} : fvl 2 i r j = .long j := rfl
theorem fvl_3 {i : Int32} {r : Option Nat} {j : Int64} : fvl 3 i r j = va_rf r := rfl
theorem va_rf_s {x : Nat} : va_rf (some x) = .ref x := rfl
theorem i_putI {y x : Nat} {v : Int32} : XI M z k (.putfield y, n, a, b, 0, ts, w, q) m pc ls (.int v :: .ref x :: st) cu (K, I, R, L, sz, ex) Q = ((K x).1 = 100 + a ∧ k m (pc + 3) ls st cu (K, up2 I x b v, R, L, sz, ex) Q) := propext ⟨fun h => h.2, fun h => ⟨Or.inl rfl, h⟩⟩
theorem i_putZ {y x : Nat} {v : Int32} : XI M z k (.putfield y, n, a, b, 1, ts, w, q) m pc ls (.int v :: .ref x :: st) cu (K, I, R, L, sz, ex) Q = ((v = 0 ∨ v = 1) ∧ (K x).1 = 100 + a ∧ k m (pc + 3) ls st cu (K, up2 I x b v, R, L, sz, ex) Q) := propext ⟨fun h => ⟨h.1.elim (fun e => by cases e) (fun e => e.2), h.2⟩, fun h => ⟨Or.inr ⟨rfl, h.1⟩, h.2⟩⟩
theorem i_putJ {y x : Nat} {v : Int64} : XI M z k (.putfield y, n, a, b, 2, ts, w, q) m pc ls (.long v :: .ref x :: st) cu (K, I, R, L, sz, ex) Q = ((K x).1 = 100 + a ∧ k m (pc + 3) ls st cu (K, I, R, up2 L x b v, sz, ex) Q) := propext ⟨fun h => h.2, fun h => ⟨rfl, h⟩⟩
theorem i_putA {y x v : Nat} : XI M z k (.putfield y, n, a, b, 3, ts, w, q) m pc ls (.ref v :: .ref x :: st) cu (K, I, R, L, sz, ex) Q = ((K x).1 = 100 + a ∧ k m (pc + 3) ls st cu (K, I, up2 R x b (some v), L, sz, ex) Q) := propext ⟨fun h => h.2, fun h => ⟨rfl, h⟩⟩
theorem i_gets {y : Nat} : XI M z k (.getstatic y, n, a, b, c, ts, w, q) m pc ls st cu (K, I, R, L, sz, ex) Q = if a < 3 then k m (pc + 3) ls (.ref (z.1 a) :: st) cu (K, I, R, L, sz, ex) Q else if a = 3 then k m (pc + 3) ls (.int 1 :: st) cu (K, I, R, L, sz, ex) Q else k m (pc + 3) ls (z.2 :: st) cu (K, I, R, L, sz, ex) Q := rfl
theorem i_new {y : Nat} : XI M z k (.new y, n, a, b, 0, ts, w, q) m pc ls st cu (K, I, R, L, sz, ex) Q = (ex = true ∧ fitC M m (cu.1 + 1) (cu.2 + b) ∧ k m (pc + 3) ls (.ref sz :: st) (cu.1 + 1, cu.2 + b) (upK K sz (100 + a, 0), I, R, L, sz + 1, ex) Q) := rfl
theorem i_throw {y : Nat} {i j : Nat} : XI M z k (.new y, n, a, b, 9, ts, w, q) m pc ls st (0, 0) (K, I, R, L, sz, ex) Q = (wsum st ≤ 8 ∧ Q (.inr a) (K, I, R, L, sz, false)) := propext ⟨fun h => ⟨h.1, h.2.2.2⟩, fun h => ⟨h.1, rfl, rfl, h.2⟩⟩
theorem i_newa {y : ArrayType} {v : Int32} : XI M z k (.newarray y, n, a, b, c, ts, w, q) m pc ls (.int v :: st) cu (K, I, R, L, sz, ex) Q = (ex = true ∧ ¬ v < 0 ∧ v.toNatClampNeg ≤ 3000 ∧ fitC M m (cu.1 + 1) (cu.2 + v.toNatClampNeg) ∧ k m (pc + 2) ls (.ref sz :: st) (cu.1 + 1, cu.2 + v.toNatClampNeg) (upK K sz (a, v.toNatClampNeg), I, R, L, sz + 1, ex) Q) := rfl
theorem i_anew {y : Nat} {v : Int32} : XI M z k (.anewarray y, n, a, b, c, ts, w, q) m pc ls (.int v :: st) cu (K, I, R, L, sz, ex) Q = (ex = true ∧ ¬ v < 0 ∧ v.toNatClampNeg ≤ 3000 ∧ fitC M m (cu.1 + 1) (cu.2 + v.toNatClampNeg) ∧ k m (pc + 3) ls (.ref sz :: st) (cu.1 + 1, cu.2 + v.toNatClampNeg) (upK K sz (a, v.toNatClampNeg), I, R, L, sz + 1, ex) Q) := rfl
theorem i_alen {x : Nat} : XI M z k (.arraylength, n, a, b, c, ts, w, q) m pc ls (.ref x :: st) cu (K, I, R, L, sz, ex) Q = (isArr (K x).1 = true ∧ k m (pc + 1) ls (.int (nI (K x).2) :: st) cu (K, I, R, L, sz, ex) Q) := rfl
theorem i_iald {x : Nat} {i : Int32} : XI M z k (.iaload, n, a, b, c, ts, w, q) m pc ls (.int i :: .ref x :: st) cu (K, I, R, L, sz, ex) Q = (((K x).1 = 20 ∨ (K x).1 = 50) ∧ vp_in i (K x).2 ∧ k m (pc + 1) ls (.int (I x i.toNatClampNeg) :: st) cu (K, I, R, L, sz, ex) Q) := rfl
theorem i_bald {x : Nat} {i : Int32} : XI M z k (.baload, n, a, b, c, ts, w, q) m pc ls (.int i :: .ref x :: st) cu (K, I, R, L, sz, ex) Q = ((K x).1 = 51 ∧ vp_in i (K x).2 ∧ k m (pc + 1) ls (.int (I x i.toNatClampNeg) :: st) cu (K, I, R, L, sz, ex) Q) := rfl
theorem i_lald {x : Nat} {i : Int32} : XI M z k (.laload, n, a, b, c, ts, w, q) m pc ls (.int i :: .ref x :: st) cu (K, I, R, L, sz, ex) Q = ((K x).1 = 21 ∧ vp_in i (K x).2 ∧ k m (pc + 1) ls (.long (L x i.toNatClampNeg) :: st) cu (K, I, R, L, sz, ex) Q) := rfl
theorem i_aald {x : Nat} {i : Int32} : XI M z k (.aaload, n, a, b, c, ts, w, q) m pc ls (.int i :: .ref x :: st) cu (K, I, R, L, sz, ex) Q = (((K x).1 = 22 ∨ (K x).1 = 23 ∨ (K x).1 = 24 ∨ (K x).1 = 25) ∧ vp_in i (K x).2 ∧ k m (pc + 1) ls (va_rf (R x i.toNatClampNeg) :: st) cu (K, I, R, L, sz, ex) Q) := rfl
theorem i_iast {x : Nat} {i v : Int32} : XI M z k (.iastore, n, a, b, c, ts, w, q) m pc ls (.int v :: .int i :: .ref x :: st) cu (K, I, R, L, sz, ex) Q = ((K x).1 = 20 ∧ vp_in i (K x).2 ∧ k m (pc + 1) ls st cu (K, up2 I x i.toNatClampNeg v, R, L, sz, ex) Q) := rfl
theorem i_last {x : Nat} {i : Int32} {v : Int64} : XI M z k (.lastore, n, a, b, c, ts, w, q) m pc ls (.long v :: .int i :: .ref x :: st) cu (K, I, R, L, sz, ex) Q = ((K x).1 = 21 ∧ vp_in i (K x).2 ∧ k m (pc + 1) ls st cu (K, I, R, up2 L x i.toNatClampNeg v, sz, ex) Q) := rfl
theorem i_aast {x v : Nat} {i : Int32} : XI M z k (.aastore, n, a, b, c, ts, w, q) m pc ls (.ref v :: .int i :: .ref x :: st) cu (K, I, R, L, sz, ex) Q = (((K x).1 = 22 ∨ (K x).1 = 23 ∨ (K x).1 = 24 ∨ (K x).1 = 25) ∧ (K v).1 = elC (K x).1 ∧ vp_in i (K x).2 ∧ k m (pc + 1) ls st cu (K, I, up2 R x i.toNatClampNeg (some v), L, sz, ex) Q) := rfl
theorem i_iret {v : Int32} : XI M z k (.ireturn, n, a, b, c, ts, w, q) m pc ls [.int v] cu (K, I, R, L, sz, ex) Q = ((match M m with
        | some r => smallI (mi_rt r) v
        | none => False) ∧ Q (.inl (some (.int v))) (K, I, R, L, sz, ex)) := rfl
theorem i_lret {v : Int64} : XI M z k (.lreturn, n, a, b, c, ts, w, q) m pc ls [.long v] cu (K, I, R, L, sz, ex) Q = Q (.inl (some (.long v))) (K, I, R, L, sz, ex) := rfl
theorem i_dret {v : UInt64} : XI M z k (.dreturn, n, a, b, c, ts, w, q) m pc ls [.double v] cu (K, I, R, L, sz, ex) Q = Q (.inl (some (.double v))) (K, I, R, L, sz, ex) := rfl
theorem i_aret {v : Nat} : XI M z k (.areturn, n, a, b, c, ts, w, q) m pc ls [.ref v] cu (K, I, R, L, sz, ex) Q = Q (.inl (some (.ref v))) (K, I, R, L, sz, ex) := rfl
theorem i_ret : XI M z k (.return_, n, a, b, c, ts, w, q) m pc ls [] cu (K, I, R, L, sz, ex) Q = Q (.inl none) (K, I, R, L, sz, ex) := rfl
theorem i_copy {y : Nat} {v dp sp : Int32} {d s : Nat} : XI M z k (.invokestatic y, n, a, 9001, c, ts, w, q) m pc ls (.int v :: .int dp :: .ref d :: .int sp :: .ref s :: rest) cu (K, I, R, L, sz, ex) Q = (((K s).1 = 20 ∨ (K s).1 = 50) ∧ (K d).1 = 20 ∧ ¬ sp < 0 ∧ ¬ dp < 0 ∧ ¬ v < 0 ∧ sp.toNatClampNeg + v.toNatClampNeg ≤ (K s).2 ∧ dp.toNatClampNeg + v.toNatClampNeg ≤ (K d).2 ∧ wsum rest ≤ 8 ∧
          k m (pc + 3) ls rest cu (K, cpI I s sp.toNatClampNeg d dp.toNatClampNeg v.toNatClampNeg, R, L, sz, ex) Q) := rfl
theorem i_obj {y x : Nat} : XI M z k (.invokespecial y, n, 0, 9003, c, ts, w, q) m pc ls (.ref x :: rest) cu (K, I, R, L, sz, ex) Q = (wsum rest ≤ 8 ∧ k m (pc + 3) ls rest cu (K, I, R, L, sz, ex) Q) := propext ⟨fun h => h.2, fun h => ⟨rfl, h⟩⟩
end XR
-- locals
section XL
variable {x0 x1 x2 x3 x4 x5 x6 x7 x8 x9 : Option Value} {l : Lcs} {v : Value} {f : Value → Prop} {g : Lcs → Prop}
theorem st_pre {i : Nat} {P : Nat → Prop} (h : P i) : ∀ j, i + 1 = j + 1 → P j := fun j e => Nat.succ.inj e ▸ h
theorem st_zer {P : Nat → Prop} : ∀ j, 0 = j + 1 → P j := fun j e => absurd e (Nat.succ_ne_zero j).symm
theorem gl_0 : getL (some v :: l) 0 f = f v := rfl
theorem gl_1 : getL (x0 :: some v :: l) 1 f = f v := rfl
theorem gl_2 : getL (x0 :: x1 :: some v :: l) 2 f = f v := rfl
theorem gl_3 : getL (x0 :: x1 :: x2 :: some v :: l) 3 f = f v := rfl
theorem gl_4 : getL (x0 :: x1 :: x2 :: x3 :: some v :: l) 4 f = f v := rfl
theorem gl_5 : getL (x0 :: x1 :: x2 :: x3 :: x4 :: some v :: l) 5 f = f v := rfl
theorem gl_6 : getL (x0 :: x1 :: x2 :: x3 :: x4 :: x5 :: some v :: l) 6 f = f v := rfl
theorem gl_7 : getL (x0 :: x1 :: x2 :: x3 :: x4 :: x5 :: x6 :: some v :: l) 7 f = f v := rfl
theorem gl_8 : getL (x0 :: x1 :: x2 :: x3 :: x4 :: x5 :: x6 :: x7 :: some v :: l) 8 f = f v := rfl
theorem gl_9 : getL (x0 :: x1 :: x2 :: x3 :: x4 :: x5 :: x6 :: x7 :: x8 :: some v :: l) 9 f = f v := rfl
theorem sl_0 : stL (x9 :: l) 0 v g = g (some v :: l) := propext ⟨fun h => h.2.2, fun h => ⟨by simp, st_zer, h⟩⟩
theorem sm_0 : stL2 (x9 :: x8 :: l) 0 v g = g (some v :: none :: l) := propext ⟨fun h => h.2.2, fun h => ⟨by simp, st_zer, h⟩⟩
theorem sl_1 : stL (x0 :: x9 :: l) 1 v g = (cat2 x0 = false ∧ g (x0 :: some v :: l)) := propext ⟨fun h => ⟨h.2.1 0 rfl, h.2.2⟩, fun h => ⟨by simp, st_pre h.1, h.2⟩⟩
theorem sm_1 {x10 : Option Value} : stL2 (x0 :: x9 :: x10 :: l) 1 v g = (cat2 x0 = false ∧ g (x0 :: some v :: none :: l)) := propext ⟨fun h => ⟨h.2.1 0 rfl, h.2.2⟩, fun h => ⟨by simp, st_pre h.1, h.2⟩⟩
theorem sl_2 : stL (x0 :: x1 :: x9 :: l) 2 v g = (cat2 x1 = false ∧ g (x0 :: x1 :: some v :: l)) := propext ⟨fun h => ⟨h.2.1 1 rfl, h.2.2⟩, fun h => ⟨by simp, st_pre h.1, h.2⟩⟩
theorem sm_2 {x10 : Option Value} : stL2 (x0 :: x1 :: x9 :: x10 :: l) 2 v g = (cat2 x1 = false ∧ g (x0 :: x1 :: some v :: none :: l)) := propext ⟨fun h => ⟨h.2.1 1 rfl, h.2.2⟩, fun h => ⟨by simp, st_pre h.1, h.2⟩⟩
theorem sl_3 : stL (x0 :: x1 :: x2 :: x9 :: l) 3 v g = (cat2 x2 = false ∧ g (x0 :: x1 :: x2 :: some v :: l)) := propext ⟨fun h => ⟨h.2.1 2 rfl, h.2.2⟩, fun h => ⟨by simp, st_pre h.1, h.2⟩⟩
theorem sm_3 {x10 : Option Value} : stL2 (x0 :: x1 :: x2 :: x9 :: x10 :: l) 3 v g = (cat2 x2 = false ∧ g (x0 :: x1 :: x2 :: some v :: none :: l)) := propext ⟨fun h => ⟨h.2.1 2 rfl, h.2.2⟩, fun h => ⟨by simp, st_pre h.1, h.2⟩⟩
theorem sl_4 : stL (x0 :: x1 :: x2 :: x3 :: x9 :: l) 4 v g = (cat2 x3 = false ∧ g (x0 :: x1 :: x2 :: x3 :: some v :: l)) := propext ⟨fun h => ⟨h.2.1 3 rfl, h.2.2⟩, fun h => ⟨by simp, st_pre h.1, h.2⟩⟩
theorem sm_4 {x10 : Option Value} : stL2 (x0 :: x1 :: x2 :: x3 :: x9 :: x10 :: l) 4 v g = (cat2 x3 = false ∧ g (x0 :: x1 :: x2 :: x3 :: some v :: none :: l)) := propext ⟨fun h => ⟨h.2.1 3 rfl, h.2.2⟩, fun h => ⟨by simp, st_pre h.1, h.2⟩⟩
theorem sl_5 : stL (x0 :: x1 :: x2 :: x3 :: x4 :: x9 :: l) 5 v g = (cat2 x4 = false ∧ g (x0 :: x1 :: x2 :: x3 :: x4 :: some v :: l)) := propext ⟨fun h => ⟨h.2.1 4 rfl, h.2.2⟩, fun h => ⟨by simp, st_pre h.1, h.2⟩⟩
theorem sm_5 {x10 : Option Value} : stL2 (x0 :: x1 :: x2 :: x3 :: x4 :: x9 :: x10 :: l) 5 v g = (cat2 x4 = false ∧ g (x0 :: x1 :: x2 :: x3 :: x4 :: some v :: none :: l)) := propext ⟨fun h => ⟨h.2.1 4 rfl, h.2.2⟩, fun h => ⟨by simp, st_pre h.1, h.2⟩⟩
theorem sl_6 : stL (x0 :: x1 :: x2 :: x3 :: x4 :: x5 :: x9 :: l) 6 v g = (cat2 x5 = false ∧ g (x0 :: x1 :: x2 :: x3 :: x4 :: x5 :: some v :: l)) := propext ⟨fun h => ⟨h.2.1 5 rfl, h.2.2⟩, fun h => ⟨by simp, st_pre h.1, h.2⟩⟩
theorem sm_6 {x10 : Option Value} : stL2 (x0 :: x1 :: x2 :: x3 :: x4 :: x5 :: x9 :: x10 :: l) 6 v g = (cat2 x5 = false ∧ g (x0 :: x1 :: x2 :: x3 :: x4 :: x5 :: some v :: none :: l)) := propext ⟨fun h => ⟨h.2.1 5 rfl, h.2.2⟩, fun h => ⟨by simp, st_pre h.1, h.2⟩⟩
theorem sl_7 : stL (x0 :: x1 :: x2 :: x3 :: x4 :: x5 :: x6 :: x9 :: l) 7 v g = (cat2 x6 = false ∧ g (x0 :: x1 :: x2 :: x3 :: x4 :: x5 :: x6 :: some v :: l)) := propext ⟨fun h => ⟨h.2.1 6 rfl, h.2.2⟩, fun h => ⟨by simp, st_pre h.1, h.2⟩⟩
theorem sm_7 {x10 : Option Value} : stL2 (x0 :: x1 :: x2 :: x3 :: x4 :: x5 :: x6 :: x9 :: x10 :: l) 7 v g = (cat2 x6 = false ∧ g (x0 :: x1 :: x2 :: x3 :: x4 :: x5 :: x6 :: some v :: none :: l)) := propext ⟨fun h => ⟨h.2.1 6 rfl, h.2.2⟩, fun h => ⟨by simp, st_pre h.1, h.2⟩⟩
theorem sl_8 : stL (x0 :: x1 :: x2 :: x3 :: x4 :: x5 :: x6 :: x7 :: x9 :: l) 8 v g = (cat2 x7 = false ∧ g (x0 :: x1 :: x2 :: x3 :: x4 :: x5 :: x6 :: x7 :: some v :: l)) := propext ⟨fun h => ⟨h.2.1 7 rfl, h.2.2⟩, fun h => ⟨by simp, st_pre h.1, h.2⟩⟩
theorem sm_8 {x10 : Option Value} : stL2 (x0 :: x1 :: x2 :: x3 :: x4 :: x5 :: x6 :: x7 :: x9 :: x10 :: l) 8 v g = (cat2 x7 = false ∧ g (x0 :: x1 :: x2 :: x3 :: x4 :: x5 :: x6 :: x7 :: some v :: none :: l)) := propext ⟨fun h => ⟨h.2.1 7 rfl, h.2.2⟩, fun h => ⟨by simp, st_pre h.1, h.2⟩⟩
theorem sl_9 : stL (x0 :: x1 :: x2 :: x3 :: x4 :: x5 :: x6 :: x7 :: x8 :: x9 :: l) 9 v g = (cat2 x8 = false ∧ g (x0 :: x1 :: x2 :: x3 :: x4 :: x5 :: x6 :: x7 :: x8 :: some v :: l)) := propext ⟨fun h => ⟨h.2.1 8 rfl, h.2.2⟩, fun h => ⟨by simp, st_pre h.1, h.2⟩⟩
theorem gl_10 {y0 y1 y2 y3 y4 y5 y6 y7 y8 y9 : Option Value} : getL (y0 :: y1 :: y2 :: y3 :: y4 :: y5 :: y6 :: y7 :: y8 :: y9 :: some v :: l) 10 f = f v := rfl
theorem sl_10 {y0 y1 y2 y3 y4 y5 y6 y7 y8 y9 y10 : Option Value} : stL (y0 :: y1 :: y2 :: y3 :: y4 :: y5 :: y6 :: y7 :: y8 :: y9 :: y10 :: l) 10 v g = (cat2 y9 = false ∧ g (y0 :: y1 :: y2 :: y3 :: y4 :: y5 :: y6 :: y7 :: y8 :: y9 :: some v :: l)) := propext ⟨fun h => ⟨h.2.1 9 rfl, h.2.2⟩, fun h => ⟨by simp, st_pre h.1, h.2⟩⟩
theorem gl_11 {y0 y1 y2 y3 y4 y5 y6 y7 y8 y9 y10 : Option Value} : getL (y0 :: y1 :: y2 :: y3 :: y4 :: y5 :: y6 :: y7 :: y8 :: y9 :: y10 :: some v :: l) 11 f = f v := rfl
theorem sl_11 {y0 y1 y2 y3 y4 y5 y6 y7 y8 y9 y10 y11 : Option Value} : stL (y0 :: y1 :: y2 :: y3 :: y4 :: y5 :: y6 :: y7 :: y8 :: y9 :: y10 :: y11 :: l) 11 v g = (cat2 y10 = false ∧ g (y0 :: y1 :: y2 :: y3 :: y4 :: y5 :: y6 :: y7 :: y8 :: y9 :: y10 :: some v :: l)) := propext ⟨fun h => ⟨h.2.1 10 rfl, h.2.2⟩, fun h => ⟨by simp, st_pre h.1, h.2⟩⟩
theorem gl_12 {y0 y1 y2 y3 y4 y5 y6 y7 y8 y9 y10 y11 : Option Value} : getL (y0 :: y1 :: y2 :: y3 :: y4 :: y5 :: y6 :: y7 :: y8 :: y9 :: y10 :: y11 :: some v :: l) 12 f = f v := rfl
theorem sl_12 {y0 y1 y2 y3 y4 y5 y6 y7 y8 y9 y10 y11 y12 : Option Value} : stL (y0 :: y1 :: y2 :: y3 :: y4 :: y5 :: y6 :: y7 :: y8 :: y9 :: y10 :: y11 :: y12 :: l) 12 v g = (cat2 y11 = false ∧ g (y0 :: y1 :: y2 :: y3 :: y4 :: y5 :: y6 :: y7 :: y8 :: y9 :: y10 :: y11 :: some v :: l)) := propext ⟨fun h => ⟨h.2.1 11 rfl, h.2.2⟩, fun h => ⟨by simp, st_pre h.1, h.2⟩⟩
theorem gl_13 {y0 y1 y2 y3 y4 y5 y6 y7 y8 y9 y10 y11 y12 : Option Value} : getL (y0 :: y1 :: y2 :: y3 :: y4 :: y5 :: y6 :: y7 :: y8 :: y9 :: y10 :: y11 :: y12 :: some v :: l) 13 f = f v := rfl
theorem sl_13 {y0 y1 y2 y3 y4 y5 y6 y7 y8 y9 y10 y11 y12 y13 : Option Value} : stL (y0 :: y1 :: y2 :: y3 :: y4 :: y5 :: y6 :: y7 :: y8 :: y9 :: y10 :: y11 :: y12 :: y13 :: l) 13 v g = (cat2 y12 = false ∧ g (y0 :: y1 :: y2 :: y3 :: y4 :: y5 :: y6 :: y7 :: y8 :: y9 :: y10 :: y11 :: y12 :: some v :: l)) := propext ⟨fun h => ⟨h.2.1 12 rfl, h.2.2⟩, fun h => ⟨by simp, st_pre h.1, h.2⟩⟩
theorem gl_14 {y0 y1 y2 y3 y4 y5 y6 y7 y8 y9 y10 y11 y12 y13 : Option Value} : getL (y0 :: y1 :: y2 :: y3 :: y4 :: y5 :: y6 :: y7 :: y8 :: y9 :: y10 :: y11 :: y12 :: y13 :: some v :: l) 14 f = f v := rfl
theorem sl_14 {y0 y1 y2 y3 y4 y5 y6 y7 y8 y9 y10 y11 y12 y13 y14 : Option Value} : stL (y0 :: y1 :: y2 :: y3 :: y4 :: y5 :: y6 :: y7 :: y8 :: y9 :: y10 :: y11 :: y12 :: y13 :: y14 :: l) 14 v g = (cat2 y13 = false ∧ g (y0 :: y1 :: y2 :: y3 :: y4 :: y5 :: y6 :: y7 :: y8 :: y9 :: y10 :: y11 :: y12 :: y13 :: some v :: l)) := propext ⟨fun h => ⟨h.2.1 13 rfl, h.2.2⟩, fun h => ⟨by simp, st_pre h.1, h.2⟩⟩
theorem gl_15 {y0 y1 y2 y3 y4 y5 y6 y7 y8 y9 y10 y11 y12 y13 y14 : Option Value} : getL (y0 :: y1 :: y2 :: y3 :: y4 :: y5 :: y6 :: y7 :: y8 :: y9 :: y10 :: y11 :: y12 :: y13 :: y14 :: some v :: l) 15 f = f v := rfl
theorem sl_15 {y0 y1 y2 y3 y4 y5 y6 y7 y8 y9 y10 y11 y12 y13 y14 y15 : Option Value} : stL (y0 :: y1 :: y2 :: y3 :: y4 :: y5 :: y6 :: y7 :: y8 :: y9 :: y10 :: y11 :: y12 :: y13 :: y14 :: y15 :: l) 15 v g = (cat2 y14 = false ∧ g (y0 :: y1 :: y2 :: y3 :: y4 :: y5 :: y6 :: y7 :: y8 :: y9 :: y10 :: y11 :: y12 :: y13 :: y14 :: some v :: l)) := propext ⟨fun h => ⟨h.2.1 14 rfl, h.2.2⟩, fun h => ⟨by simp, st_pre h.1, h.2⟩⟩
theorem gl_16 {y0 y1 y2 y3 y4 y5 y6 y7 y8 y9 y10 y11 y12 y13 y14 y15 : Option Value} : getL (y0 :: y1 :: y2 :: y3 :: y4 :: y5 :: y6 :: y7 :: y8 :: y9 :: y10 :: y11 :: y12 :: y13 :: y14 :: y15 :: some v :: l) 16 f = f v := rfl
theorem sl_16 {y0 y1 y2 y3 y4 y5 y6 y7 y8 y9 y10 y11 y12 y13 y14 y15 y16 : Option Value} : stL (y0 :: y1 :: y2 :: y3 :: y4 :: y5 :: y6 :: y7 :: y8 :: y9 :: y10 :: y11 :: y12 :: y13 :: y14 :: y15 :: y16 :: l) 16 v g = (cat2 y15 = false ∧ g (y0 :: y1 :: y2 :: y3 :: y4 :: y5 :: y6 :: y7 :: y8 :: y9 :: y10 :: y11 :: y12 :: y13 :: y14 :: y15 :: some v :: l)) := propext ⟨fun h => ⟨h.2.1 15 rfl, h.2.2⟩, fun h => ⟨by simp, st_pre h.1, h.2⟩⟩
theorem gl_17 {y0 y1 y2 y3 y4 y5 y6 y7 y8 y9 y10 y11 y12 y13 y14 y15 y16 : Option Value} : getL (y0 :: y1 :: y2 :: y3 :: y4 :: y5 :: y6 :: y7 :: y8 :: y9 :: y10 :: y11 :: y12 :: y13 :: y14 :: y15 :: y16 :: some v :: l) 17 f = f v := rfl
theorem sl_17 {y0 y1 y2 y3 y4 y5 y6 y7 y8 y9 y10 y11 y12 y13 y14 y15 y16 y17 : Option Value} : stL (y0 :: y1 :: y2 :: y3 :: y4 :: y5 :: y6 :: y7 :: y8 :: y9 :: y10 :: y11 :: y12 :: y13 :: y14 :: y15 :: y16 :: y17 :: l) 17 v g = (cat2 y16 = false ∧ g (y0 :: y1 :: y2 :: y3 :: y4 :: y5 :: y6 :: y7 :: y8 :: y9 :: y10 :: y11 :: y12 :: y13 :: y14 :: y15 :: y16 :: some v :: l)) := propext ⟨fun h => ⟨h.2.1 16 rfl, h.2.2⟩, fun h => ⟨by simp, st_pre h.1, h.2⟩⟩
theorem gl_18 {y0 y1 y2 y3 y4 y5 y6 y7 y8 y9 y10 y11 y12 y13 y14 y15 y16 y17 : Option Value} : getL (y0 :: y1 :: y2 :: y3 :: y4 :: y5 :: y6 :: y7 :: y8 :: y9 :: y10 :: y11 :: y12 :: y13 :: y14 :: y15 :: y16 :: y17 :: some v :: l) 18 f = f v := rfl
theorem sl_18 {y0 y1 y2 y3 y4 y5 y6 y7 y8 y9 y10 y11 y12 y13 y14 y15 y16 y17 y18 : Option Value} : stL (y0 :: y1 :: y2 :: y3 :: y4 :: y5 :: y6 :: y7 :: y8 :: y9 :: y10 :: y11 :: y12 :: y13 :: y14 :: y15 :: y16 :: y17 :: y18 :: l) 18 v g = (cat2 y17 = false ∧ g (y0 :: y1 :: y2 :: y3 :: y4 :: y5 :: y6 :: y7 :: y8 :: y9 :: y10 :: y11 :: y12 :: y13 :: y14 :: y15 :: y16 :: y17 :: some v :: l)) := propext ⟨fun h => ⟨h.2.1 17 rfl, h.2.2⟩, fun h => ⟨by simp, st_pre h.1, h.2⟩⟩
theorem gl_19 {y0 y1 y2 y3 y4 y5 y6 y7 y8 y9 y10 y11 y12 y13 y14 y15 y16 y17 y18 : Option Value} : getL (y0 :: y1 :: y2 :: y3 :: y4 :: y5 :: y6 :: y7 :: y8 :: y9 :: y10 :: y11 :: y12 :: y13 :: y14 :: y15 :: y16 :: y17 :: y18 :: some v :: l) 19 f = f v := rfl
theorem sl_19 {y0 y1 y2 y3 y4 y5 y6 y7 y8 y9 y10 y11 y12 y13 y14 y15 y16 y17 y18 y19 : Option Value} : stL (y0 :: y1 :: y2 :: y3 :: y4 :: y5 :: y6 :: y7 :: y8 :: y9 :: y10 :: y11 :: y12 :: y13 :: y14 :: y15 :: y16 :: y17 :: y18 :: y19 :: l) 19 v g = (cat2 y18 = false ∧ g (y0 :: y1 :: y2 :: y3 :: y4 :: y5 :: y6 :: y7 :: y8 :: y9 :: y10 :: y11 :: y12 :: y13 :: y14 :: y15 :: y16 :: y17 :: y18 :: some v :: l)) := propext ⟨fun h => ⟨h.2.1 18 rfl, h.2.2⟩, fun h => ⟨by simp, st_pre h.1, h.2⟩⟩
theorem gl_20 {y0 y1 y2 y3 y4 y5 y6 y7 y8 y9 y10 y11 y12 y13 y14 y15 y16 y17 y18 y19 : Option Value} : getL (y0 :: y1 :: y2 :: y3 :: y4 :: y5 :: y6 :: y7 :: y8 :: y9 :: y10 :: y11 :: y12 :: y13 :: y14 :: y15 :: y16 :: y17 :: y18 :: y19 :: some v :: l) 20 f = f v := rfl
theorem sl_20 {y0 y1 y2 y3 y4 y5 y6 y7 y8 y9 y10 y11 y12 y13 y14 y15 y16 y17 y18 y19 y20 : Option Value} : stL (y0 :: y1 :: y2 :: y3 :: y4 :: y5 :: y6 :: y7 :: y8 :: y9 :: y10 :: y11 :: y12 :: y13 :: y14 :: y15 :: y16 :: y17 :: y18 :: y19 :: y20 :: l) 20 v g = (cat2 y19 = false ∧ g (y0 :: y1 :: y2 :: y3 :: y4 :: y5 :: y6 :: y7 :: y8 :: y9 :: y10 :: y11 :: y12 :: y13 :: y14 :: y15 :: y16 :: y17 :: y18 :: y19 :: some v :: l)) := propext ⟨fun h => ⟨h.2.1 19 rfl, h.2.2⟩, fun h => ⟨by simp, st_pre h.1, h.2⟩⟩
theorem gl_21 {y0 y1 y2 y3 y4 y5 y6 y7 y8 y9 y10 y11 y12 y13 y14 y15 y16 y17 y18 y19 y20 : Option Value} : getL (y0 :: y1 :: y2 :: y3 :: y4 :: y5 :: y6 :: y7 :: y8 :: y9 :: y10 :: y11 :: y12 :: y13 :: y14 :: y15 :: y16 :: y17 :: y18 :: y19 :: y20 :: some v :: l) 21 f = f v := rfl
theorem sl_21 {y0 y1 y2 y3 y4 y5 y6 y7 y8 y9 y10 y11 y12 y13 y14 y15 y16 y17 y18 y19 y20 y21 : Option Value} : stL (y0 :: y1 :: y2 :: y3 :: y4 :: y5 :: y6 :: y7 :: y8 :: y9 :: y10 :: y11 :: y12 :: y13 :: y14 :: y15 :: y16 :: y17 :: y18 :: y19 :: y20 :: y21 :: l) 21 v g = (cat2 y20 = false ∧ g (y0 :: y1 :: y2 :: y3 :: y4 :: y5 :: y6 :: y7 :: y8 :: y9 :: y10 :: y11 :: y12 :: y13 :: y14 :: y15 :: y16 :: y17 :: y18 :: y19 :: y20 :: some v :: l)) := propext ⟨fun h => ⟨h.2.1 20 rfl, h.2.2⟩, fun h => ⟨by simp, st_pre h.1, h.2⟩⟩
theorem gl_22 {y0 y1 y2 y3 y4 y5 y6 y7 y8 y9 y10 y11 y12 y13 y14 y15 y16 y17 y18 y19 y20 y21 : Option Value} : getL (y0 :: y1 :: y2 :: y3 :: y4 :: y5 :: y6 :: y7 :: y8 :: y9 :: y10 :: y11 :: y12 :: y13 :: y14 :: y15 :: y16 :: y17 :: y18 :: y19 :: y20 :: y21 :: some v :: l) 22 f = f v := rfl
theorem sl_22 {y0 y1 y2 y3 y4 y5 y6 y7 y8 y9 y10 y11 y12 y13 y14 y15 y16 y17 y18 y19 y20 y21 y22 : Option Value} : stL (y0 :: y1 :: y2 :: y3 :: y4 :: y5 :: y6 :: y7 :: y8 :: y9 :: y10 :: y11 :: y12 :: y13 :: y14 :: y15 :: y16 :: y17 :: y18 :: y19 :: y20 :: y21 :: y22 :: l) 22 v g = (cat2 y21 = false ∧ g (y0 :: y1 :: y2 :: y3 :: y4 :: y5 :: y6 :: y7 :: y8 :: y9 :: y10 :: y11 :: y12 :: y13 :: y14 :: y15 :: y16 :: y17 :: y18 :: y19 :: y20 :: y21 :: some v :: l)) := propext ⟨fun h => ⟨h.2.1 21 rfl, h.2.2⟩, fun h => ⟨by simp, st_pre h.1, h.2⟩⟩
theorem ldI_i {f : Int32 → Prop} {x : Int32} : ldI f (.int x) = f x := rfl
theorem ldJ_j {f : Int64 → Prop} {x : Int64} : ldJ f (.long x) = f x := rfl
theorem ldD_d {f : UInt64 → Prop} {x : UInt64} : ldD f (.double x) = f x := rfl
theorem ldA_r {f : Value → Prop} {x : Nat} : ldA f (.ref x) = f (.ref x) := rfl
theorem cat2_n : cat2 none = false := rfl
theorem cat2_i {x : Int32} : cat2 (some (.int x)) = false := rfl
theorem cat2_r {x : Nat} : cat2 (some (.ref x)) = false := rfl
theorem ws_0 : wsum [] = 0 := rfl
theorem ws_i {x : Int32} {l : List Value} : wsum (.int x :: l) = 1 + wsum l := rfl
theorem ws_r {x : Nat} {l : List Value} : wsum (.ref x :: l) = 1 + wsum l := rfl
theorem ws_l {x : Int64} {l : List Value} : wsum (.long x :: l) = 2 + wsum l := rfl
theorem ws_d {x : UInt64} {l : List Value} : wsum (.double x :: l) = 2 + wsum l := rfl
end XL
