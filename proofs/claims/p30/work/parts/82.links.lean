/-! the tables are right: every instruction is what the bytes decode to, every link has its word -/
def FL : List (Nat × Nat × Nat × Nat × Nat × Nat) := [(0, 9, 0, 0, 0, 219), (0, 19, 0, 1, 0, 225), (1, 9, 1, 0, 0, 238), (1, 15, 1, 2, 0, 243), (1, 18, 1, 1, 0, 241), (1, 22, 8, 4, 1, 162), (1, 28, 4, 1, 1, 72), (1, 31, 4, 0, 1, 69), (1, 34, 2, 1, 1, 293), (1, 57, 8, 0, 1, 150), (1, 61, 2, 0, 1, 289), (1, 63, 7, 0, 1, 87), (1, 68, 7, 1, 1, 89), (1, 75, 7, 3, 1, 95), (1, 92, 8, 2, 1, 157), (1, 102, 9, 0, 1, 132), (1, 105, 9, 1, 1, 134), (1, 106, 7, 4, 1, 100), (1, 109, 8, 3, 1, 160), (2, 9, 2, 0, 0, 288), (2, 15, 2, 1, 0, 292), (3, 11, 3, 0, 0, 205), (3, 18, 3, 1, 0, 206), (4, 9, 4, 0, 0, 68), (4, 21, 4, 1, 0, 71), (5, 9, 5, 0, 0, 257), (5, 15, 5, 1, 0, 258), (5, 18, 5, 2, 0, 259), (5, 22, 5, 3, 0, 260), (5, 25, 5, 4, 0, 262), (6, 11, 6, 0, 0, 317), (6, 17, 6, 2, 0, 321), (6, 21, 6, 3, 0, 323), (6, 24, 6, 6, 0, 328), (6, 27, 6, 7, 0, 329), (6, 30, 6, 4, 0, 325), (6, 34, 6, 5, 0, 327), (6, 39, 6, 1, 0, 319), (6, 43, 6, 8, 0, 330), (6, 46, 6, 9, 0, 332), (6, 49, 6, 10, 0, 334), (6, 62, 1, 0, 1, 239), (6, 65, 1, 1, 1, 242), (6, 78, 2, 3, 1, 298), (6, 81, 5, 3, 1, 261), (6, 84, 2, 4, 1, 300), (6, 85, 5, 4, 1, 263), (6, 88, 2, 5, 1, 302), (6, 93, 6, 11, 0, 336), (6, 105, 8, 1, 1, 154), (6, 108, 8, 0, 1, 151), (6, 112, 8, 6, 1, 167), (6, 119, 7, 2, 1, 93), (6, 132, 2, 2, 1, 296), (6, 133, 2, 1, 1, 294), (6, 136, 2, 0, 1, 290), (7, 9, 7, 0, 0, 86), (7, 15, 0, 1, 1, 224), (7, 27, 7, 1, 0, 88), (7, 30, 0, 0, 1, 221), (7, 39, 7, 2, 0, 91), (7, 42, 7, 3, 0, 94), (7, 45, 7, 4, 0, 97), (7, 48, 7, 5, 0, 101), (7, 52, 7, 6, 0, 104), (7, 55, 7, 7, 0, 107), (8, 11, 8, 0, 0, 148), (8, 19, 8, 2, 0, 155), (8, 26, 8, 4, 0, 161), (8, 30, 8, 5, 0, 164), (8, 45, 8, 1, 0, 152), (8, 53, 8, 3, 0, 158), (8, 59, 4, 0, 1, 70), (8, 62, 4, 1, 1, 73), (8, 68, 8, 6, 0, 166), (8, 71, 8, 7, 0, 169), (8, 74, 8, 8, 0, 171), (8, 77, 8, 9, 0, 173), (8, 80, 7, 5, 1, 102), (8, 84, 7, 6, 1, 105), (8, 87, 7, 4, 1, 98), (9, 9, 9, 0, 0, 131), (9, 15, 0, 1, 1, 223), (9, 21, 0, 0, 1, 220), (9, 24, 9, 2, 0, 135), (9, 34, 9, 1, 0, 133), (10, 10, 10, 0, 0, 363), (10, 19, 10, 1, 0, 364), (10, 26, 10, 2, 0, 365), (10, 41, 10, 3, 0, 366), (10, 45, 10, 4, 0, 367), (10, 48, 10, 5, 0, 368), (10, 68, 8, 1, 1, 153), (10, 81, 8, 0, 1, 149), (10, 91, 0, 1, 1, 226), (10, 96, 8, 3, 1, 159), (10, 101, 8, 2, 1, 156), (10, 112, 8, 4, 1, 163), (10, 116, 0, 0, 1, 222), (10, 139, 7, 2, 1, 92), (10, 147, 7, 4, 1, 99), (10, 150, 7, 5, 1, 103), (10, 168, 8, 5, 1, 165), (10, 171, 4, 1, 1, 74), (10, 178, 6, 8, 1, 331), (10, 183, 6, 2, 1, 322), (10, 186, 8, 6, 1, 168), (10, 189, 7, 6, 1, 106), (10, 192, 7, 7, 1, 108), (10, 195, 8, 7, 1, 170), (10, 198, 8, 8, 1, 172), (10, 201, 6, 10, 1, 335), (10, 204, 8, 9, 1, 174), (10, 207, 6, 11, 1, 337), (10, 264, 6, 0, 1, 318), (10, 268, 2, 3, 1, 299), (10, 275, 6, 4, 1, 326), (10, 283, 1, 0, 1, 240), (10, 238, 7, 1, 1, 90), (10, 360, 7, 3, 1, 96), (10, 363, 6, 3, 1, 324), (10, 381, 2, 0, 1, 291), (10, 383, 2, 1, 1, 295), (10, 384, 2, 2, 1, 297), (10, 385, 2, 4, 1, 301), (10, 388, 2, 5, 1, 303), (10, 391, 6, 1, 1, 320), (10, 300, 6, 9, 1, 333), (10, 224, 3, 1, 1, 207)]
def flW (q : Nat × Nat × Nat × Nat × Nat × Nat) : Cond := if q.2.2.2.2.1 = 0 then .fieldLink (clsN q.1) q.2.1 (TXc q.2.2.1 q.2.2.2.1).1 (TXc q.2.2.1 q.2.2.2.1).2.1 (TXc q.2.2.1 q.2.2.2.1).2.2.1 else .fieldLinkNest (clsN q.1) q.2.1 (TXc q.2.2.1 q.2.2.2.1).1 (TXc q.2.2.1 q.2.2.2.1).2.1 (TXc q.2.2.1 q.2.2.2.1).2.2.1 "HouseholdMail"
set_option maxRecDepth 20000 in
theorem FL_ok : ∀ q ∈ FL, lw_tbl[q.2.2.2.2.2]? = some (flW q) ∧ q.2.2.1 < 11 ∧ q.2.2.2.1 < nXc q.2.2.1 := by decide +kernel
-- method links: own class, index, callee, nest mate's, place
def ML : List (Nat × Nat × Nat × Nat × Nat) := [(0, 3, 9003, 0, 218), (0, 15, 3, 0, 499), (0, 23, 4, 0, 506), (0, 27, 88, 1, 503), (0, 31, 7, 0, 509), (0, 34, 5, 0, 512), (0, 38, 6, 0, 518), (0, 41, 8, 0, 515), (1, 3, 9003, 0, 237), (1, 39, 11, 0, 738), (1, 43, 19, 0, 746), (1, 47, 12, 0, 742), (1, 51, 13, 0, 754), (1, 54, 15, 0, 814), (1, 71, 17, 0, 750), (1, 80, 18, 0, 759), (1, 84, 14, 0, 811), (1, 88, 16, 0, 818), (1, 96, 56, 0, 822), (1, 112, 185, 0, 763), (1, 117, 186, 0, 773), (2, 3, 9003, 0, 287), (3, 3, 9003, 0, 201), (3, 17, 47, 0, 204), (3, 22, 26, 0, 539), (3, 25, 48, 0, 543), (4, 3, 9003, 0, 67), (4, 15, 184, 0, 561), (4, 25, 9001, 0, 564), (4, 31, 29, 0, 891), (5, 3, 9003, 0, 256), (5, 28, 35, 0, 837), (6, 3, 9003, 0, 280), (6, 38, 20, 1, 284), (6, 52, 40, 0, 714), (6, 56, 10, 0, 734), (6, 68, 33, 0, 829), (6, 74, 34, 0, 833), (6, 89, 42, 0, 841), (6, 115, 49, 0, 718), (6, 124, 41, 0, 726), (6, 128, 21, 0, 730), (7, 3, 9003, 0, 85), (7, 21, 184, 0, 569), (7, 33, 9001, 0, 551), (8, 3, 9003, 0, 57), (8, 25, 27, 1, 64), (8, 34, 44, 1, 82), (8, 35, 52, 1, 127), (8, 39, 9001, 0, 145), (8, 49, 46, 0, 547), (8, 56, 54, 0, 552), (8, 65, 28, 0, 557), (8, 90, 31, 0, 722), (9, 3, 9003, 0, 130), (9, 28, 184, 0, 583), (9, 35, 9001, 0, 556), (10, 1, 9003, 0, 49), (10, 9, 47, 0, 54), (10, 18, 23, 0, 198), (10, 25, 0, 1, 215), (10, 32, 9, 1, 234), (10, 35, 32, 1, 253), (10, 38, 36, 0, 277), (10, 52, 85, 0, 525), (10, 63, 2, 0, 529), (10, 77, 24, 0, 535), (10, 85, 45, 0, 565), (10, 105, 53, 0, 579), (10, 119, 28, 0, 592), (10, 125, 29, 0, 593), (10, 129, 89, 0, 601), (10, 142, 90, 0, 621), (10, 154, 50, 0, 635), (10, 157, 86, 0, 649), (10, 162, 87, 0, 653), (10, 174, 38, 0, 710), (10, 220, 1, 0, 495), (10, 234, 93, 0, 874), (10, 254, 37, 0, 845), (10, 261, 95, 0, 865), (10, 279, 10, 0, 850), (10, 286, 22, 0, 856), (10, 291, 96, 0, 883), (10, 394, 30, 0, 887), (15, 335, 187, 0, 767), (15, 492, 188, 0, 777), (15, 495, 190, 0, 781), (15, 1059, 191, 0, 789), (16, 9, 189, 0, 784), (12, 8, 68, 0, 395), (12, 14, 194, 0, 399), (12, 20, 67, 0, 402), (12, 24, 69, 0, 490), (12, 27, 58, 0, 521), (12, 31, 59, 0, 573), (12, 34, 193, 0, 389), (12, 37, 199, 0, 691), (12, 41, 200, 0, 688), (12, 45, 201, 0, 694), (12, 48, 204, 0, 670), (12, 52, 205, 0, 667), (12, 56, 206, 0, 673), (12, 59, 202, 0, 685), (12, 62, 208, 0, 697), (12, 66, 198, 0, 679), (12, 70, 209, 0, 682), (12, 74, 210, 0, 700), (12, 78, 203, 0, 703), (12, 81, 195, 0, 392), (12, 85, 196, 0, 570), (12, 89, 197, 0, 584), (12, 93, 60, 0, 587), (12, 96, 62, 0, 597), (12, 99, 61, 0, 626), (12, 102, 63, 0, 631), (12, 106, 66, 0, 639), (12, 109, 64, 0, 645), (12, 112, 207, 0, 664), (12, 116, 211, 0, 676), (12, 120, 75, 0, 706), (12, 123, 76, 0, 851), (12, 126, 74, 0, 860), (12, 128, 71, 0, 869), (12, 131, 77, 0, 878), (12, 134, 65, 0, 892), (12, 137, 57, 0, 46), (12, 138, 192, 0, 382), (12, 142, 212, 0, 386), (12, 146, 213, 0, 661)]
def nmN (y : Nat) : MethodName := if y = 9001 then arraycopyName else if y = 9003 then objectInit else match mT y with
  | some r => mi_nm r
  | none => objectInit
def mlW (q : Nat × Nat × Nat × Nat × Nat) : Cond := if q.2.2.2.1 = 0 then .methodLink (clsN q.1) q.2.1 (nmN q.2.2.1) else .methodLinkNest (clsN q.1) q.2.1 (nmN q.2.2.1) "HouseholdMail"
set_option maxRecDepth 20000 in
theorem ML_ok : ∀ q ∈ ML, lw_tbl[q.2.2.2.2]? = some (mlW q) := by decide +kernel
def flAt (ts : List Nat) : Option (Nat × Nat × Nat × Nat × Nat × Nat) := match ts with
  | [j] => FL[j]?
  | _ => none
def okFl (r : MI) (i a b : Nat) (ts : List Nat) : Bool := match flAt ts with
  | some q => q.1 == mi_cn r && q.2.1 == i && q.2.2.1 == a && q.2.2.2.1 == b
  | none => false
def mlAt (ts : List Nat) : Option (Nat × Nat × Nat × Nat × Nat) := match ts with
  | [j] => ML[j]?
  | _ => none
def okMl (r : MI) (i b c : Nat) (ts : List Nat) : Bool := match mlAt ts with
  | some q => q.1 == mi_cn r && q.2.1 == i && q.2.2.1 == b && q.2.2.2.1 == c
  | none => false
def okWd (ts : List Nat) (w : Cond) : Bool := match ts with
  | [j] => decide (lw_tbl[20 + j]? = some w)
  | _ => false
def thK (a : Nat) : Nat := if a = 0 then 56 else if a = 1 then 72 else 132
def thC (a : Nat) : Nat := if a = 0 then 60 else if a = 1 then 76 else 136
def gsW (cn i a : Nat) : Cond := if a = 0 then .fieldLinkNest (clsN cn) i "HouseholdMail" "FIRST" "[I" "HouseholdMail" else if a = 1 then .fieldLink (clsN cn) i "HouseholdMail" "LEAST" "[I" else if a = 2 then .fieldLink (clsN cn) i "HouseholdMail" "MOST" "[I" else if a = 3 then .fieldLink (clsN cn) i "java/lang/String" "COMPACT_STRINGS" "Z" else .fieldLink (clsN cn) i "jdk/internal/util/Preconditions" "SIOOBE_FORMATTER" "Ljava/util/function/BiFunction;"
def ldcAt (by_ : ByteArray) (pc : Nat) : Option (Nat × Nat) := match decode by_ pc with
  | .ok (.ldc i, 2) => some (i, 2)
  | .ok (.ldc_w i, 3) => some (i, 3)
  | _ => none
/-- a throw: new, dup, ldc, the constructor, athrow -/
def okTh (r : MI) (pc i a : Nat) : Bool := decide (a < 3) && mi_cn r == 10 && i == thK a && mi_hh r == [] && decide (6 ≤ mi_ht r) && mi_mc r == 1 && mi_ms r == 6 && decide (decode (mi_by r) (pc + 3) = .ok (.dup, 1)) && (match ldcAt (mi_by r) (pc + 4) with
  | some (j, n) => (strs.any fun q => q.1 == 10 && q.2.1 == j) && decide (decode (mi_by r) (pc + 4 + n) = .ok (.invokespecial (thC a), 3)) && decide (decode (mi_by r) (pc + 7 + n) = .ok (.athrow, 1))
  | none => false)
def okX (r : MI) (pc : Nat) (e : AIn) : Bool := match e with
  | (ins, len, a, b, c, ts, w, q) => match ins with
    | .aload_n j => j.val == a && len == 1
    | .iload_n j => j.val == a && len == 1
    | .lload_n j => j.val == a && len == 1
    | .dload_n j => j.val == a && len == 1
    | .istore_n j => j.val == a && len == 1
    | .astore_n j => j.val == a && len == 1
    | .lstore_n j => j.val == a && len == 1
    | .dstore_n j => j.val == a && len == 1
    | .aload j => j == a && len == 2
    | .iload j => j == a && len == 2
    | .lload j => j == a && len == 2
    | .dload j => j == a && len == 2
    | .istore j => j == a && len == 2
    | .astore j => j == a && len == 2
    | .lstore j => j == a && len == 2
    | .dstore j => j == a && len == 2
    | .iinc j n => j == a && len == 3 && Int32.ofInt n == w
    | .iconst n => len == 1 && Int32.ofInt n == w
    | .bipush n => len == 2 && (Int8.ofInt n).toInt32 == w
    | .sipush n => len == 3 && (Int16.ofInt n).toInt32 == w
    | .lconst n => len == 1 && Int64.ofNat n.val == q
    | .dconst n => len == 1 && ((n.val == 0 && a == 0) || (n.val == 1 && a == 4607182418800017408))
    | .ldc i => len == 2 && (if c = 1 then okWd ts (.constant (clsN (mi_cn r)) i w) else (!(c == 0) || strs.any fun s => s.1 == mi_cn r && s.2.1 == i && s.2.2.2 == 100 + a))
    | .ldc2_w i => len == 3 && (if b = 0 then okWd ts (.constantLong (clsN (mi_cn r)) i q) else okWd ts (.constantDouble (clsN (mi_cn r)) i (UInt64.ofNat a)))
    | .if_icmp _ off => len == 3 && decide ((pc : Int) + off = (a : Int))
    | .ifCond _ off => len == 3 && decide ((pc : Int) + off = (a : Int))
    | .goto off => len == 3 && decide ((pc : Int) + off = (a : Int))
    | .tableswitch d _ _ offs => decide ((pc : Int) + d = (a : Int)) && decide (offs.toList.map (fun o => (pc : Int) + o) = ts.map (fun t : Nat => (t : Int)))
    | .lookupswitch _ ps => (ps.toList.zip (ps.toList.drop 1)).all (fun (x, next) => x.1 < next.1)
    | .getfield i => len == 3 && (if a = 60 then mi_cn r == 15 && ((b == 0 && i == 15 && c == 0) || (b == 1 && i == 9 && c == 3)) else okFl r i a b ts && c == tcF (tyc a b))
    | .putfield i => len == 3 && okFl r i a b ts && c == tcF (tyc a b) && (!(TXc a b).2.2.2 || (decide ((mi_nm r).name = "<init>") && mi_cn r == a))
    | .getstatic i => len == 3 && decide (a < 5) && okWd ts (gsW (mi_cn r) i a)
    | .new i => len == 3 && (if c = 9 then okTh r pc i a else decide (a < 11) && b == nXc a && okWd ts (.classLink (clsN (mi_cn r)) i (clsN a)))
    | .newarray t => len == 2 && (a == 20 && decide (t = .int))
    | .anewarray i => len == 3 && ((a == 22 && okWd ts (.classLink (clsN (mi_cn r)) i RX2)) || (a == 23 && okWd ts (.classLink (clsN (mi_cn r)) i RX7)) || (a == 24 && okWd ts (.classLink (clsN (mi_cn r)) i RX8)) || (a == 25 && okWd ts (.classLink (clsN (mi_cn r)) i RX9)))
    | .invokevirtual i => len == 3 && (match mT b with
      | some ry => decide (b < 214) && okMl r i b c ts && !mi_st ry && mi_hh ry == [] && (decide (mi_hh r = []) || c == 0) && decide (c < 2) && decide (mi_cn ry < 11 ∨ mi_cn ry = 15) && !(decide ((mi_nm ry).name = "<init>")) && (parseMethodDescriptor (mi_nm ry).desc).map (fun d => d.parameters.length) == some a
      | none => true)
    | .invokestatic i => len == 3 && (if b = 9001 then okMl r i b 0 ts else match mT b with
      | some ry => decide (b < 214) && okMl r i b c ts && mi_st ry && decide (mi_hh r = []) && decide (c < 2) && (decide (mi_hh ry = []) || c == 0) && (parseMethodDescriptor (mi_nm ry).desc).map (fun d => d.parameters.length) == some a
      | none => true)
    | .invokespecial i => len == 3 && (if b = 9003 then okMl r i b 0 ts else match mT b with
      | some ry => decide (b < 214) && okMl r i b c ts && !mi_st ry && decide (mi_hh r = []) && decide (mi_hh ry = []) && decide (c < 2) && decide (mi_cn ry < 11) && decide ((mi_nm ry).name = "<init>") && decide (mi_rt ry = none) && (parseMethodDescriptor (mi_nm ry).desc).map (fun d => d.parameters.length) == some a
      | none => true)
    | .ldc_w _ => true
    | .return_ => len == 1 && decide (mi_rt r = none)
    | .lreturn => len == 1 && decide (mi_rt r = some .long)
    | .dreturn => len == 1 && decide (mi_rt r = some .double)
    | .areturn => len == 1 && (match mi_rt r with
      | some (.object _) => true
      | some (.array _) => true
      | _ => false)
    | _ => len == 1
def okE (r : MI) (pc : Nat) (e : AIn) : Bool := decide (decode (mi_by r) pc = .ok (e.1, e.2.1)) && okX r pc e
/-- what the tables say of a method: its code, its class, its kind; its handlers -/
def okM (r : MI) (p1 p2 p3 p4 : Nat) : Bool := decide (clsN (mi_cn r) = (mi_nm r).cls) && plainName (mi_nm r).cls && decide (mi_ml r ≤ 23) && decide ((mi_nm r).cls ≠ "java/lang/invoke/MethodHandle") && decide ((mi_nm r).cls ≠ "java/lang/invoke/VarHandle") &&
  (decide ((mi_nm r).name = "law") || (decide (lw_tbl[p1]? = some (if mi_hh r = [] then .code (mi_nm r) (mi_by r) (mi_ml r) (mi_rt r) else .codeWith (mi_nm r) (mi_by r) (mi_ml r) (mi_rt r) (mi_hh r))) &&
  decide (lw_tbl[p2]? = some (.initialized (mi_nm r).cls)) && decide (lw_tbl[p3]? = some (if mi_st r = true then .static (mi_nm r) else .instanceMethod (mi_nm r))) &&
  (mi_st r || decide ((mi_nm r).name = "<init>") || decide (lw_tbl[p4]? = some (.selects (mi_nm r).cls (mi_nm r) (mi_nm r)))))) &&
  ((mi_hh r).zip (mi_hx r)).all (fun q => decide (q.2 < 3) && decide (q.1.2.2.2 ≠ 0) && (decide ((Cond.classLink (clsN (mi_cn r)) q.1.2.2.2 (exc q.2)) ∈ lw_tbl))) && decide ((mi_hh r).length = (mi_hx r).length)
