/-! THE CLEAN MACHINE: what a method does, said over typed rows of numbers instead of the machine's heap. A least fixed point of one step (no fuel). -/
-- an instruction: itself, its length, three numbers, places, an int constant, a long constant
abbrev AIn : Type := Instr × Nat × Nat × Nat × Nat × List Nat × Int32 × Int64
abbrev Tab : Type := List (Nat × AIn)
def lk : Tab → Nat → Option AIn
  | [], _ => none
  | (k, x) :: t, pc => bif Nat.beq k pc then some x else lk t pc
-- a method: its name, its class's number, bytes, maxLocals, what it returns, its handlers, the exceptions that they catch, its height, cells and slots that it makes, static, table
abbrev MI : Type := MethodName × Nat × ByteArray × Nat × Option FieldType × List (Nat × Nat × Nat × Nat) × List Nat × Nat × Nat × Nat × Bool × Tab
abbrev mi_nm (r : MI) : MethodName := r.1
abbrev mi_cn (r : MI) : Nat := r.2.1
abbrev mi_by (r : MI) : ByteArray := r.2.2.1
abbrev mi_ml (r : MI) : Nat := r.2.2.2.1
abbrev mi_rt (r : MI) : Option FieldType := r.2.2.2.2.1
abbrev mi_hh (r : MI) : List (Nat × Nat × Nat × Nat) := r.2.2.2.2.2.1
abbrev mi_hx (r : MI) : List Nat := r.2.2.2.2.2.2.1
abbrev mi_ht (r : MI) : Nat := r.2.2.2.2.2.2.2.1
abbrev mi_mc (r : MI) : Nat := r.2.2.2.2.2.2.2.2.1
abbrev mi_ms (r : MI) : Nat := r.2.2.2.2.2.2.2.2.2.1
abbrev mi_st (r : MI) : Bool := r.2.2.2.2.2.2.2.2.2.2.1
abbrev mi_tb (r : MI) : Tab := r.2.2.2.2.2.2.2.2.2.2.2
-- memory: kinds (tag, length), ints, references, longs, the next address, whether that is the heap's size
abbrev Mem : Type := (Nat → Nat × Nat) × (Nat → Nat → Int32) × (Nat → Nat → Option Nat) × (Nat → Nat → Int64) × Nat × Bool
abbrev Res : Type := Option Value ⊕ Nat
abbrev Lcs : Type := List (Option Value)
abbrev Cont : Type := Nat → Nat → Lcs → List Value → Nat × Nat → Mem → (Res → Mem → Prop) → Prop
abbrev P0 : Type := (Nat → Nat) × Value
def up2 {α : Type} (f : Nat → Nat → α) (a k : Nat) (v : α) : Nat → Nat → α := fun b j => if b = a ∧ j = k then v else f b j
def upK (f : Nat → Nat × Nat) (a : Nat) (v : Nat × Nat) : Nat → Nat × Nat := fun b => if b = a then v else f b
def cpI (f : Nat → Nat → Int32) (s sp d dp n : Nat) : Nat → Nat → Int32 := fun b j => if b = d ∧ dp ≤ j ∧ j < dp + n then f s (sp + (j - dp)) else f b j
def getL (ls : Lcs) (a : Nat) (f : Value → Prop) : Prop := match ls[a]? with
  | some (some v) => f v
  | _ => False
def cat2 (x : Option Value) : Bool := match x with
  | some v => v.category == 2
  | none => false
def stL (ls : Lcs) (a : Nat) (v : Value) (f : Lcs → Prop) : Prop := a < ls.length ∧ (∀ j, a = j + 1 → cat2 (ls.getD j none) = false) ∧ f (ls.set a (some v))
def stL2 (ls : Lcs) (a : Nat) (v : Value) (f : Lcs → Prop) : Prop := a + 1 < ls.length ∧ (∀ j, a = j + 1 → cat2 (ls.getD j none) = false) ∧ f ((ls.set a (some v)).set (a + 1) none)
def ldI (f : Int32 → Prop) : Value → Prop
  | .int x => f x
  | _ => False
def ldJ (f : Int64 → Prop) : Value → Prop
  | .long x => f x
  | _ => False
def ldD (f : UInt64 → Prop) : Value → Prop
  | .double x => f x
  | _ => False
def ldA (f : Value → Prop) : Value → Prop
  | .ref x => f (.ref x)
  | .null => f .null
  | _ => False
def wsum : List Value → Nat
  | [] => 0
  | v :: l => v.category + wsum l
def ent1 : List Value → Lcs
  | [] => []
  | v :: l => if v.category = 2 then some v :: none :: ent1 l else some v :: ent1 l
def ent (n : Nat) (l : List Value) : Lcs := ent1 l ++ List.replicate (n - (ent1 l).length) none
def isArr (t : Nat) : Bool := t == 20 || t == 21 || t == 22 || t == 23 || t == 24 || t == 25 || t == 50 || t == 51
def elC (t : Nat) : Nat := if t = 22 then 102 else if t = 23 then 107 else if t = 24 then 108 else 109
def cmpI : ClassFile.Cond → Int32 → Int32 → Prop
  | .eq, x, y => x = y
  | .ne, x, y => x ≠ y
  | .lt, x, y => x < y
  | .ge, x, y => y ≤ x
  | .gt, x, y => y < x
  | .le, x, y => x ≤ y
/-- x >>> y of Java's ints, without the sign -/
def ushr (x y : Int32) : Int32 := (x.toUInt32 >>> (y.toUInt32 &&& Int32.toUInt32 31)).toInt32
def fvl (c : Nat) (i : Int32) (r : Option Nat) (j : Int64) : Value := if c = 3 then va_rf r else if c = 2 then .long j else .int i
/-- an int of one of the small types -/
def smallI (t : Option FieldType) (v : Int32) : Prop := match t with
  | some .int => True
  | some .boolean => v = 0 ∨ v = 1
  | some .byte => narrow .byte (.int v) = .int v
  | some .char => narrow .char (.int v) = .int v
  | _ => False
/-- the handler that takes the exception x thrown at pc: the first row that covers pc and names it -/
def hnd : List (Nat × Nat × Nat × Nat) → List Nat → Nat → Nat → Option Nat
  | (a, b, h, _) :: t, x :: xs, pc, e => if a ≤ pc ∧ pc < b ∧ x = e then some h else hnd t xs pc e
  | _, _, _, _ => none
def aftr (k : Cont) (M : Nat → Option MI) (m pc : Nat) (ls : Lcs) (rest : List Value) (cu : Nat × Nat) (Q : Res → Mem → Prop) (r : Res) (σ : Mem) : Prop := match r with
  | .inl none => k m (pc + 3) ls rest cu σ Q
  | .inl (some v) => k m (pc + 3) ls (v :: rest) cu σ Q
  | .inr x => match M m with
    | none => False
    | some r => match hnd (mi_hh r) (mi_hx r) pc x with
      | none => False
      | some h => ∀ q : Nat, k m h ls [.ref q] cu σ Q
/-- a call of y with the values As (its receiver among them) -/
def callX (k : Cont) (M : Nat → Option MI) (y : Nat) (As rest : List Value) (m pc : Nat) (ls : Lcs) (cu : Nat × Nat) (σ : Mem) (Q : Res → Mem → Prop) : Prop := match M y, M m with
  | some ry, some rm => mi_ht ry < mi_ht rm ∧ wsum rest ≤ 8 ∧ cu.1 + mi_mc ry ≤ mi_mc rm ∧ cu.2 + mi_ms ry ≤ mi_ms rm ∧ (ent1 As).length ≤ mi_ml ry ∧
    ∃ Q' : Res → Mem → Prop, k y 0 (ent (mi_ml ry) As) [] (0, 0) σ Q' ∧ ∀ r τ, Q' r τ → aftr k M m pc ls rest (cu.1 + mi_mc ry, cu.2 + mi_ms ry) Q r τ
  | _, _ => False
def tagOf (cn : Nat) : Nat := if cn < 12 then 100 + cn else if cn = 15 then 52 else 999
/-- what has been made so far fits the method's own bound -/
def fitC (M : Nat → Option MI) (m c n : Nat) : Prop := match M m with
  | some r => c ≤ mi_mc r ∧ n ≤ mi_ms r
  | none => False
/-- one instruction: what must hold for the rest (k: 'from here on') -/
def XI (M : Nat → Option MI) (z : P0) (k : Cont) (e : AIn) (m pc : Nat) (ls : Lcs) (st : List Value) (cu : Nat × Nat) (σ : Mem) (Q : Res → Mem → Prop) : Prop :=
  match e, σ with
  | (ins, len, a, b, c, ts, w, q), (K, I, R, L, sz, ex) => match ins with
    | .aload_n _ => getL ls a (ldA fun v => k m (pc + 1) ls (v :: st) cu (K, I, R, L, sz, ex) Q)
    | .aload _ => getL ls a (ldA fun v => k m (pc + 2) ls (v :: st) cu (K, I, R, L, sz, ex) Q)
    | .iload_n _ => getL ls a (ldI fun v => k m (pc + 1) ls (.int v :: st) cu (K, I, R, L, sz, ex) Q)
    | .iload _ => getL ls a (ldI fun v => k m (pc + 2) ls (.int v :: st) cu (K, I, R, L, sz, ex) Q)
    | .lload_n _ => getL ls a (ldJ fun v => k m (pc + 1) ls (.long v :: st) cu (K, I, R, L, sz, ex) Q)
    | .lload _ => getL ls a (ldJ fun v => k m (pc + 2) ls (.long v :: st) cu (K, I, R, L, sz, ex) Q)
    | .dload_n _ => getL ls a (ldD fun v => k m (pc + 1) ls (.double v :: st) cu (K, I, R, L, sz, ex) Q)
    | .dload _ => getL ls a (ldD fun v => k m (pc + 2) ls (.double v :: st) cu (K, I, R, L, sz, ex) Q)
    | .istore_n _ => match st with
      | .int x :: st => stL ls a (.int x) fun ls => k m (pc + 1) ls st cu (K, I, R, L, sz, ex) Q
      | _ => False
    | .istore _ => match st with
      | .int x :: st => stL ls a (.int x) fun ls => k m (pc + 2) ls st cu (K, I, R, L, sz, ex) Q
      | _ => False
    | .astore_n _ => match st with
      | .ref x :: st => stL ls a (.ref x) fun ls => k m (pc + 1) ls st cu (K, I, R, L, sz, ex) Q
      | _ => False
    | .astore _ => match st with
      | .ref x :: st => stL ls a (.ref x) fun ls => k m (pc + 2) ls st cu (K, I, R, L, sz, ex) Q
      | _ => False
    | .lstore_n _ => match st with
      | .long x :: st => stL2 ls a (.long x) fun ls => k m (pc + 1) ls st cu (K, I, R, L, sz, ex) Q
      | _ => False
    | .lstore _ => match st with
      | .long x :: st => stL2 ls a (.long x) fun ls => k m (pc + 2) ls st cu (K, I, R, L, sz, ex) Q
      | _ => False
    | .dstore_n _ => match st with
      | .double x :: st => stL2 ls a (.double x) fun ls => k m (pc + 1) ls st cu (K, I, R, L, sz, ex) Q
      | _ => False
    | .dstore _ => match st with
      | .double x :: st => stL2 ls a (.double x) fun ls => k m (pc + 2) ls st cu (K, I, R, L, sz, ex) Q
      | _ => False
    | .iinc _ _ => getL ls a (ldI fun x => stL ls a (.int (x + w)) fun ls => k m (pc + 3) ls st cu (K, I, R, L, sz, ex) Q)
    | .iconst _ => k m (pc + 1) ls (.int w :: st) cu (K, I, R, L, sz, ex) Q
    | .bipush _ => k m (pc + 2) ls (.int w :: st) cu (K, I, R, L, sz, ex) Q
    | .sipush _ => k m (pc + 3) ls (.int w :: st) cu (K, I, R, L, sz, ex) Q
    | .lconst _ => k m (pc + 1) ls (.long q :: st) cu (K, I, R, L, sz, ex) Q
    | .dconst _ => k m (pc + 1) ls (.double (UInt64.ofNat a) :: st) cu (K, I, R, L, sz, ex) Q
    | .ldc _ => if c = 1 then k m (pc + 2) ls (.int w :: st) cu (K, I, R, L, sz, ex) Q else (c = 0 ∧ k m (pc + 2) ls (.ref (z.1 (100 + a)) :: st) cu (K, I, R, L, sz, ex) Q)
    | .ldc2_w _ => k m (pc + 3) ls ((if b = 0 then .long q else .double (UInt64.ofNat a)) :: st) cu (K, I, R, L, sz, ex) Q
    | .iadd => match st with
      | .int y :: .int x :: st => k m (pc + 1) ls (.int (x + y) :: st) cu (K, I, R, L, sz, ex) Q
      | _ => False
    | .isub => match st with
      | .int y :: .int x :: st => k m (pc + 1) ls (.int (x - y) :: st) cu (K, I, R, L, sz, ex) Q
      | _ => False
    | .imul => match st with
      | .int y :: .int x :: st => k m (pc + 1) ls (.int (x * y) :: st) cu (K, I, R, L, sz, ex) Q
      | _ => False
    | .iand => match st with
      | .int y :: .int x :: st => k m (pc + 1) ls (.int (x &&& y) :: st) cu (K, I, R, L, sz, ex) Q
      | _ => False
    | .ior => match st with
      | .int y :: .int x :: st => k m (pc + 1) ls (.int (x ||| y) :: st) cu (K, I, R, L, sz, ex) Q
      | _ => False
    | .ixor => match st with
      | .int y :: .int x :: st => k m (pc + 1) ls (.int (x ^^^ y) :: st) cu (K, I, R, L, sz, ex) Q
      | _ => False
    | .ishl => match st with
      | .int y :: .int x :: st => k m (pc + 1) ls (.int (x <<< (y &&& 31)) :: st) cu (K, I, R, L, sz, ex) Q
      | _ => False
    | .ishr => match st with
      | .int y :: .int x :: st => k m (pc + 1) ls (.int (x >>> (y &&& 31)) :: st) cu (K, I, R, L, sz, ex) Q
      | _ => False
    | .iushr => match st with
      | .int y :: .int x :: st => k m (pc + 1) ls (.int (ushr x y) :: st) cu (K, I, R, L, sz, ex) Q
      | _ => False
    | .dup_x2 => match st with
      | .int y :: .int x :: .ref j :: st => k m (pc + 1) ls (.int y :: .int x :: .ref j :: .int y :: st) cu (K, I, R, L, sz, ex) Q
      | _ => False
    | .idiv => match st with
      | .int y :: .int x :: st => ¬ y = 0 ∧ k m (pc + 1) ls (.int (x / y) :: st) cu (K, I, R, L, sz, ex) Q
      | _ => False
    | .irem => match st with
      | .int y :: .int x :: st => ¬ y = 0 ∧ k m (pc + 1) ls (.int (x - x / y * y) :: st) cu (K, I, R, L, sz, ex) Q
      | _ => False
    | .ladd => match st with
      | .long y :: .long x :: st => k m (pc + 1) ls (.long (x + y) :: st) cu (K, I, R, L, sz, ex) Q
      | _ => False
    | .lsub => match st with
      | .long y :: .long x :: st => k m (pc + 1) ls (.long (x - y) :: st) cu (K, I, R, L, sz, ex) Q
      | _ => False
    | .lmul => match st with
      | .long y :: .long x :: st => k m (pc + 1) ls (.long (x * y) :: st) cu (K, I, R, L, sz, ex) Q
      | _ => False
    | .lshl => match st with
      | .int y :: .long x :: st => k m (pc + 1) ls (.long (x <<< (y.toInt64 &&& 63)) :: st) cu (K, I, R, L, sz, ex) Q
      | _ => False
    | .lcmp => match st with
      | .long y :: .long x :: st => k m (pc + 1) ls (.int (lg_cmp x y) :: st) cu (K, I, R, L, sz, ex) Q
      | _ => False
    | .i2l => match st with
      | .int x :: st => k m (pc + 1) ls (.long x.toInt64 :: st) cu (K, I, R, L, sz, ex) Q
      | _ => False
    | .i2d => match st with
      | .int x :: st => k m (pc + 1) ls (.double (FP.i2d x) :: st) cu (K, I, R, L, sz, ex) Q
      | _ => False
    | .i2c => match st with
      | .int x :: st => k m (pc + 1) ls (.int (x.toUInt32 % 65536).toInt32 :: st) cu (K, I, R, L, sz, ex) Q
      | _ => False
    | .d2l => match st with
      | .double x :: st => k m (pc + 1) ls (.long (FP.d2l x) :: st) cu (K, I, R, L, sz, ex) Q
      | _ => False
    | .ddiv => match st with
      | .double y :: .double x :: st => vf_n64 (FP.ddiv x y) ∧ k m (pc + 1) ls (.double (FP.ddiv x y) :: st) cu (K, I, R, L, sz, ex) Q
      | _ => False
    | .dmul => match st with
      | .double y :: .double x :: st => vf_n64 (FP.dmul x y) ∧ k m (pc + 1) ls (.double (FP.dmul x y) :: st) cu (K, I, R, L, sz, ex) Q
      | _ => False
    | .dcmp o => match st with
      | .double y :: .double x :: st => k m (pc + 1) ls (.int (Op.cmpValue (FP.dcmp x y) o) :: st) cu (K, I, R, L, sz, ex) Q
      | _ => False
    | .dup => match st with
      | v :: st => v.category = 1 ∧ k m (pc + 1) ls (v :: v :: st) cu (K, I, R, L, sz, ex) Q
      | _ => False
    | .pop => match st with
      | v :: st => v.category = 1 ∧ k m (pc + 1) ls st cu (K, I, R, L, sz, ex) Q
      | _ => False
    | .dup2 => match st with
      | .int x :: .ref y :: st => k m (pc + 1) ls (.int x :: .ref y :: .int x :: .ref y :: st) cu (K, I, R, L, sz, ex) Q
      | _ => False
    | .goto _ => k m a ls st cu (K, I, R, L, sz, ex) Q
    | .if_icmp o _ => match st with
      | .int y :: .int x :: st => (cmpI o x y → k m a ls st cu (K, I, R, L, sz, ex) Q) ∧ (¬ cmpI o x y → k m (pc + 3) ls st cu (K, I, R, L, sz, ex) Q)
      | _ => False
    | .ifCond o _ => match st with
      | .int x :: st => (cmpI o x 0 → k m a ls st cu (K, I, R, L, sz, ex) Q) ∧ (¬ cmpI o x 0 → k m (pc + 3) ls st cu (K, I, R, L, sz, ex) Q)
      | _ => False
    | .tableswitch _ lo hi _ => match st with
      | .int x :: st => ((x.toInt < lo ∨ hi < x.toInt) ∧ k m a ls st cu (K, I, R, L, sz, ex) Q) ∨ (¬ x.toInt < lo ∧ ¬ hi < x.toInt ∧ ∃ t : Nat, ts[(x.toInt - lo).toNat]? = some t ∧ k m t ls st cu (K, I, R, L, sz, ex) Q)
      | _ => False
    | .lookupswitch dflt ps => match st with
      | .int x :: st => ∃ t : Nat, (pc : Int) + Op.lookupswitch.offset ps.toList dflt x.toInt = (t : Int) ∧ k m t ls st cu (K, I, R, L, sz, ex) Q
      | _ => False
    | .getfield _ => match st with
      | .ref x :: st => (K x).1 = (if a = 60 then 52 else 100 + a) ∧ k m (pc + 3) ls (fvl c (I x b) (R x b) (L x b) :: st) cu (K, I, R, L, sz, ex) Q
      | _ => False
    | .putfield _ => match st with
      | .int v :: .ref x :: st => (c = 0 ∨ (c = 1 ∧ (v = 0 ∨ v = 1))) ∧ (K x).1 = 100 + a ∧ k m (pc + 3) ls st cu (K, up2 I x b v, R, L, sz, ex) Q
      | .long v :: .ref x :: st => c = 2 ∧ (K x).1 = 100 + a ∧ k m (pc + 3) ls st cu (K, I, R, up2 L x b v, sz, ex) Q
      | .ref v :: .ref x :: st => c = 3 ∧ (K x).1 = 100 + a ∧ k m (pc + 3) ls st cu (K, I, up2 R x b (some v), L, sz, ex) Q
      | _ => False
    | .getstatic _ => if a < 3 then k m (pc + 3) ls (.ref (z.1 a) :: st) cu (K, I, R, L, sz, ex) Q else if a = 3 then k m (pc + 3) ls (.int 1 :: st) cu (K, I, R, L, sz, ex) Q else k m (pc + 3) ls (z.2 :: st) cu (K, I, R, L, sz, ex) Q
    | .new _ => if c = 9 then (wsum st ≤ 8 ∧ cu.1 = 0 ∧ cu.2 = 0 ∧ Q (.inr a) (K, I, R, L, sz, false)) else (ex = true ∧ fitC M m (cu.1 + 1) (cu.2 + b) ∧ k m (pc + 3) ls (.ref sz :: st) (cu.1 + 1, cu.2 + b) (upK K sz (100 + a, 0), I, R, L, sz + 1, ex) Q)
    | .newarray _ => match st with
      | .int n :: st => ex = true ∧ ¬ n < 0 ∧ n.toNatClampNeg ≤ 3000 ∧ fitC M m (cu.1 + 1) (cu.2 + n.toNatClampNeg) ∧ k m (pc + 2) ls (.ref sz :: st) (cu.1 + 1, cu.2 + n.toNatClampNeg) (upK K sz (a, n.toNatClampNeg), I, R, L, sz + 1, ex) Q
      | _ => False
    | .anewarray _ => match st with
      | .int n :: st => ex = true ∧ ¬ n < 0 ∧ n.toNatClampNeg ≤ 3000 ∧ fitC M m (cu.1 + 1) (cu.2 + n.toNatClampNeg) ∧ k m (pc + 3) ls (.ref sz :: st) (cu.1 + 1, cu.2 + n.toNatClampNeg) (upK K sz (a, n.toNatClampNeg), I, R, L, sz + 1, ex) Q
      | _ => False
    | .arraylength => match st with
      | .ref x :: st => isArr (K x).1 = true ∧ k m (pc + 1) ls (.int (Int32.ofNat (K x).2) :: st) cu (K, I, R, L, sz, ex) Q
      | _ => False
    | .iaload => match st with
      | .int i :: .ref x :: st => ((K x).1 = 20 ∨ (K x).1 = 50) ∧ vp_in i (K x).2 ∧ k m (pc + 1) ls (.int (I x i.toNatClampNeg) :: st) cu (K, I, R, L, sz, ex) Q
      | _ => False
    | .baload => match st with
      | .int i :: .ref x :: st => (K x).1 = 51 ∧ vp_in i (K x).2 ∧ k m (pc + 1) ls (.int (I x i.toNatClampNeg) :: st) cu (K, I, R, L, sz, ex) Q
      | _ => False
    | .laload => match st with
      | .int i :: .ref x :: st => (K x).1 = 21 ∧ vp_in i (K x).2 ∧ k m (pc + 1) ls (.long (L x i.toNatClampNeg) :: st) cu (K, I, R, L, sz, ex) Q
      | _ => False
    | .aaload => match st with
      | .int i :: .ref x :: st => ((K x).1 = 22 ∨ (K x).1 = 23 ∨ (K x).1 = 24 ∨ (K x).1 = 25) ∧ vp_in i (K x).2 ∧ k m (pc + 1) ls (va_rf (R x i.toNatClampNeg) :: st) cu (K, I, R, L, sz, ex) Q
      | _ => False
    | .iastore => match st with
      | .int v :: .int i :: .ref x :: st => (K x).1 = 20 ∧ vp_in i (K x).2 ∧ k m (pc + 1) ls st cu (K, up2 I x i.toNatClampNeg v, R, L, sz, ex) Q
      | _ => False
    | .lastore => match st with
      | .long v :: .int i :: .ref x :: st => (K x).1 = 21 ∧ vp_in i (K x).2 ∧ k m (pc + 1) ls st cu (K, I, R, up2 L x i.toNatClampNeg v, sz, ex) Q
      | _ => False
    | .aastore => match st with
      | .ref v :: .int i :: .ref x :: st => ((K x).1 = 22 ∨ (K x).1 = 23 ∨ (K x).1 = 24 ∨ (K x).1 = 25) ∧ (K v).1 = elC (K x).1 ∧ vp_in i (K x).2 ∧ k m (pc + 1) ls st cu (K, I, up2 R x i.toNatClampNeg (some v), L, sz, ex) Q
      | _ => False
    | .ireturn => match st with
      | [.int v] => (match M m with
        | some r => smallI (mi_rt r) v
        | none => False) ∧ Q (.inl (some (.int v))) (K, I, R, L, sz, ex)
      | _ => False
    | .lreturn => match st with
      | [.long v] => Q (.inl (some (.long v))) (K, I, R, L, sz, ex)
      | _ => False
    | .dreturn => match st with
      | [.double v] => Q (.inl (some (.double v))) (K, I, R, L, sz, ex)
      | _ => False
    | .areturn => match st with
      | [.ref v] => Q (.inl (some (.ref v))) (K, I, R, L, sz, ex)
      | _ => False
    | .return_ => match st with
      | [] => Q (.inl none) (K, I, R, L, sz, ex)
      | _ => False
    | .invokevirtual _ => match st.drop a with
      | .ref x :: rest => (match M b with
        | some r => (K x).1 = tagOf (mi_cn r)
        | none => False) ∧ callX k M b (.ref x :: (st.take a).reverse) rest m pc ls cu (K, I, R, L, sz, ex) Q
      | _ => False
    | .invokestatic _ => if b = 9001 then (match st with
        | .int n :: .int dp :: .ref d :: .int sp :: .ref s :: rest => ((K s).1 = 20 ∨ (K s).1 = 50) ∧ (K d).1 = 20 ∧ ¬ sp < 0 ∧ ¬ dp < 0 ∧ ¬ n < 0 ∧ sp.toNatClampNeg + n.toNatClampNeg ≤ (K s).2 ∧ dp.toNatClampNeg + n.toNatClampNeg ≤ (K d).2 ∧ wsum rest ≤ 8 ∧
          k m (pc + 3) ls rest cu (K, cpI I s sp.toNatClampNeg d dp.toNatClampNeg n.toNatClampNeg, R, L, sz, ex) Q
        | _ => False)
      else (a ≤ st.length ∧ callX k M b (st.take a).reverse (st.drop a) m pc ls cu (K, I, R, L, sz, ex) Q)
    | .invokespecial _ => match st.drop a with
      | .ref x :: rest => if b = 9003 then (a = 0 ∧ wsum rest ≤ 8 ∧ k m (pc + 3) ls rest cu (K, I, R, L, sz, ex) Q) else
        ((match M b with
        | some r => (K x).1 = tagOf (mi_cn r)
        | none => False) ∧ callX k M b (.ref x :: (st.take a).reverse) rest m pc ls cu (K, I, R, L, sz, ex) Q)
      | _ => False
    | _ => False
def XS (M : Nat → Option MI) (z : P0) (k : Cont) (m pc : Nat) (ls : Lcs) (st : List Value) (cu : Nat × Nat) (σ : Mem) (Q : Res → Mem → Prop) : Prop := match M m with
  | none => False
  | some r => match lk (mi_tb r) pc with
    | none => False
    | some e => XI M z k e m pc ls st cu σ Q
/-- THE METHOD m, from pc on, comes to its end, and there Q holds: the least such -/
def XX (M : Nat → Option MI) (z : P0) : Cont := fun m pc ls st cu σ Q => ∀ k : Cont, (∀ m pc ls st cu σ Q, XS M z k m pc ls st cu σ Q → k m pc ls st cu σ Q) → k m pc ls st cu σ Q
