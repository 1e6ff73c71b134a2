/-! the tables are right: every instruction is what the bytes decode to, every link has its word -/
def FL : List (Nat × Nat × Nat × Nat × Nat × Nat) := [(0, 9, 0, 0, 0, 279), (0, 19, 0, 1, 0, 285), (1, 9, 1, 0, 0, 298), (1, 15, 1, 2, 0, 304), (1, 18, 1, 1, 0, 301), (1, 22, 8, 4, 1, 221), (1, 28, 4, 1, 1, 128), (1, 31, 4, 0, 1, 125), (1, 34, 2, 1, 1, 354), (1, 57, 8, 0, 1, 209), (1, 61, 2, 0, 1, 350), (1, 63, 7, 0, 1, 143), (1, 68, 7, 1, 1, 146), (1, 75, 7, 3, 1, 152), (1, 92, 8, 2, 1, 216), (1, 102, 9, 0, 1, 189), (1, 105, 9, 1, 1, 191), (1, 106, 7, 4, 1, 157), (1, 109, 8, 3, 1, 219), (2, 9, 2, 0, 0, 349), (2, 15, 2, 1, 0, 353), (3, 11, 3, 0, 0, 265), (3, 18, 3, 1, 0, 266), (4, 9, 4, 0, 0, 124), (4, 21, 4, 1, 0, 127), (5, 9, 5, 0, 0, 318), (5, 15, 5, 1, 0, 319), (5, 18, 5, 2, 0, 320), (5, 22, 5, 3, 0, 321), (5, 25, 5, 4, 0, 323), (6, 11, 6, 0, 0, 378), (6, 17, 6, 2, 0, 382), (6, 21, 6, 3, 0, 384), (6, 24, 6, 6, 0, 389), (6, 27, 6, 7, 0, 390), (6, 30, 6, 4, 0, 386), (6, 34, 6, 5, 0, 388), (6, 39, 6, 1, 0, 380), (6, 43, 6, 8, 0, 391), (6, 46, 6, 9, 0, 393), (6, 49, 6, 10, 0, 395), (6, 62, 1, 0, 1, 299), (6, 65, 1, 1, 1, 302), (6, 78, 2, 3, 1, 359), (6, 81, 5, 3, 1, 322), (6, 84, 2, 4, 1, 361), (6, 85, 5, 4, 1, 324), (6, 88, 2, 5, 1, 363), (6, 93, 6, 11, 0, 397), (6, 96, 8, 5, 1, 224), (6, 105, 8, 1, 1, 213), (6, 108, 8, 0, 1, 210), (6, 112, 8, 6, 1, 227), (6, 119, 7, 2, 1, 150), (6, 132, 2, 2, 1, 357), (6, 133, 2, 1, 1, 355), (6, 136, 2, 0, 1, 351), (7, 9, 7, 0, 0, 142), (7, 15, 0, 1, 1, 284), (7, 27, 7, 1, 0, 145), (7, 30, 0, 0, 1, 281), (7, 39, 7, 2, 0, 148), (7, 42, 7, 3, 0, 151), (7, 45, 7, 4, 0, 154), (7, 48, 7, 5, 0, 158), (7, 52, 7, 6, 0, 161), (7, 55, 7, 7, 0, 164), (8, 11, 8, 0, 0, 207), (8, 19, 8, 2, 0, 214), (8, 26, 8, 4, 0, 220), (8, 30, 8, 5, 0, 223), (8, 45, 8, 1, 0, 211), (8, 53, 8, 3, 0, 217), (8, 59, 4, 0, 1, 126), (8, 62, 4, 1, 1, 129), (8, 68, 8, 6, 0, 226), (8, 71, 8, 7, 0, 229), (8, 74, 8, 8, 0, 231), (8, 77, 8, 9, 0, 233), (8, 80, 7, 5, 1, 159), (8, 84, 7, 6, 1, 162), (8, 87, 7, 4, 1, 155), (9, 9, 9, 0, 0, 188), (9, 15, 0, 1, 1, 283), (9, 21, 0, 0, 1, 280), (9, 24, 9, 2, 0, 193), (9, 34, 9, 1, 0, 190), (10, 10, 10, 0, 0, 424), (10, 19, 10, 1, 0, 425), (10, 26, 10, 2, 0, 426), (10, 41, 10, 3, 0, 427), (10, 45, 10, 4, 0, 428), (10, 48, 10, 5, 0, 429), (10, 68, 8, 1, 1, 212), (10, 81, 8, 0, 1, 208), (10, 91, 0, 1, 1, 286), (10, 96, 8, 3, 1, 218), (10, 101, 8, 2, 1, 215), (10, 112, 8, 4, 1, 222), (10, 116, 0, 0, 1, 282), (10, 139, 7, 2, 1, 149), (10, 147, 7, 4, 1, 156), (10, 150, 7, 5, 1, 160), (10, 168, 8, 5, 1, 225), (10, 171, 4, 1, 1, 130), (10, 178, 6, 8, 1, 392), (10, 183, 6, 2, 1, 383), (10, 186, 8, 6, 1, 228), (10, 189, 7, 6, 1, 163), (10, 192, 7, 7, 1, 165), (10, 195, 8, 7, 1, 230), (10, 198, 8, 8, 1, 232), (10, 201, 6, 10, 1, 396), (10, 204, 8, 9, 1, 234), (10, 207, 6, 11, 1, 398), (10, 224, 3, 1, 1, 267), (10, 238, 7, 1, 1, 147), (10, 243, 7, 0, 1, 144), (10, 264, 6, 0, 1, 379), (10, 268, 2, 3, 1, 360), (10, 275, 6, 4, 1, 387), (10, 283, 1, 0, 1, 300), (10, 300, 6, 9, 1, 394), (10, 360, 7, 3, 1, 153), (10, 363, 6, 3, 1, 385), (10, 366, 9, 1, 1, 192), (10, 367, 9, 2, 1, 194), (10, 381, 2, 0, 1, 352), (10, 383, 2, 1, 1, 356), (10, 384, 2, 2, 1, 358), (10, 385, 2, 4, 1, 362), (10, 388, 2, 5, 1, 364), (10, 391, 6, 1, 1, 381), (10, 407, 1, 1, 1, 303), (11, 7, 11, 0, 0, 1080), (11, 13, 11, 2, 0, 1082), (11, 16, 11, 4, 0, 1084), (11, 19, 11, 6, 0, 1086), (11, 22, 11, 7, 0, 1087), (11, 25, 11, 8, 0, 1088), (11, 28, 11, 9, 0, 1089), (11, 31, 11, 10, 0, 1090), (11, 34, 11, 11, 0, 1091), (11, 37, 11, 13, 0, 1093), (11, 40, 11, 5, 0, 1085), (11, 44, 11, 1, 0, 1081), (11, 55, 11, 12, 0, 1092), (11, 68, 11, 14, 0, 1094), (11, 97, 11, 17, 0, 1097), (11, 100, 11, 15, 0, 1095), (11, 103, 11, 16, 0, 1096), (11, 135, 11, 3, 0, 1083), (11, 144, 11, 19, 0, 1099), (11, 147, 11, 18, 0, 1098), (11, 176, 11, 21, 0, 1101), (11, 182, 11, 20, 0, 1100), (11, 228, 11, 22, 0, 1102)]
def flW (q : Nat × Nat × Nat × Nat × Nat × Nat) : Cond := if q.2.2.2.2.1 = 0 then .fieldLink (clsN q.1) q.2.1 (TXc q.2.2.1 q.2.2.2.1).1 (TXc q.2.2.1 q.2.2.2.1).2.1 (TXc q.2.2.1 q.2.2.2.1).2.2.1 else .fieldLinkNest (clsN q.1) q.2.1 (TXc q.2.2.1 q.2.2.2.1).1 (TXc q.2.2.1 q.2.2.2.1).2.1 (TXc q.2.2.1 q.2.2.2.1).2.2.1 "HouseholdMail"
set_option maxRecDepth 20000 in
theorem FL_ok : ∀ q ∈ FL, lw_tbl[q.2.2.2.2.2]? = some (flW q) ∧ q.2.2.1 < 12 ∧ q.2.2.2.1 < nXc q.2.2.1 := by decide +kernel
-- method links: own class, index, callee, nest mate's, place
def ML : List (Nat × Nat × Nat × Nat × Nat) := [(0, 3, 9003, 0, 278), (0, 15, 3, 0, 777), (0, 23, 4, 0, 784), (0, 27, 88, 1, 781), (0, 31, 7, 0, 787), (0, 34, 5, 0, 790), (0, 38, 6, 0, 796), (0, 41, 8, 0, 793), (1, 3, 9003, 0, 297), (1, 39, 11, 0, 484), (1, 43, 19, 0, 492), (1, 47, 12, 0, 488), (1, 51, 13, 0, 500), (1, 54, 15, 0, 560), (1, 71, 17, 0, 496), (1, 80, 18, 0, 505), (1, 84, 14, 0, 557), (1, 88, 16, 0, 564), (1, 96, 56, 0, 568), (1, 112, 185, 0, 509), (1, 117, 186, 0, 519), (2, 3, 9003, 0, 348), (3, 3, 9003, 0, 261), (3, 17, 47, 0, 264), (3, 22, 26, 0, 820), (3, 25, 48, 0, 824), (4, 3, 9003, 0, 123), (4, 15, 184, 0, 842), (4, 25, 9001, 0, 845), (4, 31, 29, 0, 633), (5, 3, 9003, 0, 317), (5, 28, 35, 0, 583), (6, 3, 9003, 0, 341), (6, 38, 20, 1, 345), (6, 52, 40, 0, 460), (6, 56, 10, 0, 480), (6, 68, 33, 0, 575), (6, 74, 34, 0, 579), (6, 89, 42, 0, 587), (6, 101, 43, 0, 600), (6, 115, 49, 0, 464), (6, 124, 41, 0, 472), (6, 128, 21, 0, 476), (7, 3, 9003, 0, 141), (7, 21, 184, 0, 850), (7, 33, 9001, 0, 832), (8, 3, 9003, 0, 113), (8, 25, 27, 1, 120), (8, 34, 44, 1, 138), (8, 35, 52, 1, 184), (8, 39, 9001, 0, 204), (8, 49, 46, 0, 828), (8, 56, 54, 0, 833), (8, 65, 28, 0, 838), (8, 90, 31, 0, 468), (9, 3, 9003, 0, 187), (9, 28, 184, 0, 864), (9, 35, 9001, 0, 837), (10, 1, 9003, 0, 105), (10, 9, 47, 0, 110), (10, 18, 23, 0, 258), (10, 25, 0, 1, 275), (10, 32, 9, 1, 294), (10, 35, 32, 1, 314), (10, 38, 36, 0, 338), (10, 52, 85, 0, 703), (10, 63, 2, 0, 773), (10, 77, 24, 0, 816), (10, 85, 45, 0, 846), (10, 105, 53, 0, 860), (10, 119, 28, 0, 873), (10, 125, 29, 0, 621), (10, 129, 89, 0, 882), (10, 142, 90, 0, 910), (10, 154, 50, 0, 625), (10, 157, 86, 0, 929), (10, 162, 87, 0, 933), (10, 174, 38, 0, 456), (10, 220, 1, 0, 976), (10, 229, 25, 0, 988), (10, 234, 93, 0, 642), (10, 248, 55, 0, 668), (10, 251, 94, 0, 658), (10, 254, 37, 0, 1023), (10, 261, 95, 0, 676), (10, 279, 10, 0, 684), (10, 286, 22, 0, 680), (10, 291, 96, 0, 617), (10, 296, 91, 0, 451), (10, 303, 39, 0, 596), (10, 307, 92, 0, 649), (10, 310, 97, 0, 608), (10, 316, 99, 0, 634), (10, 320, 101, 0, 638), (10, 324, 102, 0, 654), (10, 327, 103, 0, 672), (10, 330, 80, 0, 685), (10, 333, 81, 0, 686), (10, 336, 98, 0, 687), (10, 340, 100, 0, 646), (10, 350, 9001, 0, 455), (10, 356, 49, 0, 653), (10, 370, 51, 0, 662), (10, 373, 56, 0, 666), (10, 377, 185, 0, 667), (10, 394, 30, 0, 629), (11, 1, 9003, 0, 1079), (11, 47, 106, 0, 1158), (11, 51, 110, 0, 1247), (11, 58, 113, 0, 1255), (11, 61, 112, 0, 1243), (11, 65, 114, 0, 1251), (11, 71, 116, 0, 1275), (11, 75, 117, 0, 1271), (11, 79, 120, 0, 1291), (11, 82, 121, 0, 1287), (11, 85, 118, 0, 1267), (11, 88, 119, 0, 1279), (11, 91, 122, 0, 1283), (11, 94, 123, 0, 1263), (11, 107, 125, 0, 1299), (11, 110, 126, 0, 1307), (11, 113, 127, 0, 1303), (11, 116, 128, 0, 1311), (11, 119, 115, 0, 1239), (11, 122, 124, 0, 1259), (11, 125, 129, 0, 1295), (11, 128, 131, 0, 1319), (11, 132, 150, 0, 1161), (11, 138, 151, 0, 1177), (11, 141, 107, 0, 1181), (11, 150, 111, 0, 1193), (11, 154, 108, 0, 1201), (11, 157, 109, 0, 1209), (11, 160, 138, 0, 1217), (11, 163, 140, 0, 1225), (11, 166, 141, 0, 1228), (11, 170, 130, 0, 1235), (11, 173, 132, 0, 1315), (11, 179, 148, 0, 1169), (11, 185, 149, 0, 1165), (11, 188, 147, 0, 1173), (11, 191, 154, 0, 1351), (11, 194, 155, 0, 1347), (11, 197, 158, 0, 1367), (11, 200, 159, 0, 1363), (11, 203, 161, 0, 1375), (11, 206, 165, 0, 1391), (11, 209, 168, 0, 1403), (11, 213, 170, 0, 1411), (11, 216, 172, 0, 1419), (11, 219, 174, 0, 1427), (11, 222, 176, 0, 1435), (11, 232, 178, 0, 1444), (11, 238, 179, 0, 1449), (11, 241, 180, 0, 1453), (11, 244, 183, 0, 1457), (13, 122, 182, 0, 1460), (13, 134, 9002, 0, 1463), (15, 335, 187, 0, 513), (15, 492, 188, 0, 523), (15, 495, 190, 0, 527), (15, 1059, 191, 0, 535), (16, 9, 189, 0, 530), (12, 7, 58, 0, 699), (12, 17, 59, 0, 854), (12, 21, 60, 0, 868), (12, 24, 61, 0, 878), (12, 29, 62, 0, 906), (12, 32, 63, 0, 918), (12, 36, 64, 0, 925), (12, 39, 65, 0, 944), (12, 42, 66, 0, 953), (12, 46, 67, 0, 962), (12, 49, 69, 0, 971), (12, 52, 70, 0, 983), (12, 55, 71, 0, 995), (12, 58, 72, 0, 1003), (12, 61, 73, 0, 1011), (12, 64, 74, 0, 1019), (12, 67, 75, 0, 1032), (12, 70, 76, 0, 1040), (12, 73, 77, 0, 1047), (12, 76, 78, 0, 1055), (12, 79, 79, 0, 1062), (12, 83, 82, 0, 1070), (12, 86, 57, 0, 102), (12, 89, 104, 0, 1076), (12, 90, 192, 0, 694), (12, 95, 133, 0, 1154), (12, 96, 105, 0, 1150), (12, 99, 193, 0, 851), (12, 102, 134, 0, 1185), (12, 103, 194, 0, 865), (12, 105, 135, 0, 1189), (12, 106, 195, 0, 874), (12, 108, 136, 0, 1197), (12, 109, 196, 0, 903), (12, 111, 137, 0, 1205), (12, 112, 197, 0, 915), (12, 115, 139, 0, 1213), (12, 116, 198, 0, 922), (12, 118, 142, 0, 1221), (12, 119, 199, 0, 941), (12, 121, 143, 0, 1231), (12, 122, 200, 0, 950), (12, 125, 144, 0, 1323), (12, 126, 201, 0, 959), (12, 128, 145, 0, 1327), (12, 129, 68, 0, 443), (12, 132, 146, 0, 1331), (12, 133, 202, 0, 968), (12, 135, 152, 0, 1335), (12, 136, 203, 0, 980), (12, 138, 153, 0, 1339), (12, 139, 204, 0, 992), (12, 141, 156, 0, 1343), (12, 142, 205, 0, 1000), (12, 144, 157, 0, 1355), (12, 145, 206, 0, 1008), (12, 147, 160, 0, 1359), (12, 148, 207, 0, 1016), (12, 150, 162, 0, 1371), (12, 151, 208, 0, 1029), (12, 153, 163, 0, 1379), (12, 154, 209, 0, 1037), (12, 156, 164, 0, 1383), (12, 157, 210, 0, 1044), (12, 159, 166, 0, 1387), (12, 160, 211, 0, 1052), (12, 162, 167, 0, 1395), (12, 163, 212, 0, 1059), (12, 166, 169, 0, 1399), (12, 167, 80, 0, 447), (12, 170, 171, 0, 1407), (12, 171, 81, 0, 592), (12, 174, 173, 0, 1415), (12, 175, 213, 0, 1067), (12, 177, 175, 0, 1423), (12, 178, 83, 0, 604), (12, 182, 177, 0, 1431), (12, 183, 84, 0, 612), (12, 187, 181, 0, 1439)]
def nmN (y : Nat) : MethodName := if y = 9001 then arraycopyName else if y = 9002 then ⟨"java/lang/Double", "doubleToRawLongBits", "(D)J"⟩ else if y = 9003 then objectInit else match mT y with
  | some r => mi_nm r
  | none => objectInit
def mlW (q : Nat × Nat × Nat × Nat × Nat) : Cond := if q.2.2.2.1 = 0 then .methodLink (clsN q.1) q.2.1 (nmN q.2.2.1) else .methodLinkNest (clsN q.1) q.2.1 (nmN q.2.2.1) "HouseholdMail"
set_option maxRecDepth 20000 in
theorem ML_ok : ∀ q ∈ ML, lw_tbl[q.2.2.2.2]? = some (mlW q) := by decide +kernel
def flAt (ts : List Nat) : Option (Nat × Nat × Nat × Nat × Nat × Nat) := match ts with
  | [j] => FL[j]?
  | _ => none
def okFl (r : MI) (i a b : Nat) (ts : List Nat) : Bool := match flAt ts with
  | some q => q.1 == mi_cn r && q.2.1 == i && q.2.2.1 == a && q.2.2.2.1 == b
  | none => false
def mlAt (ts : List Nat) : Option (Nat × Nat × Nat × Nat × Nat) := match ts with
  | [j] => ML[j]?
  | _ => none
def okMl (r : MI) (i b c : Nat) (ts : List Nat) : Bool := match mlAt ts with
  | some q => q.1 == mi_cn r && q.2.1 == i && q.2.2.1 == b && q.2.2.2.1 == c
  | none => false
def okWd (ts : List Nat) (w : Cond) : Bool := match ts with
  | [j] => decide (lw_tbl[74 + j]? = some w)
  | _ => false
def thK (a : Nat) : Nat := if a = 0 then 56 else if a = 1 then 72 else 132
def thC (a : Nat) : Nat := if a = 0 then 60 else if a = 1 then 76 else 136
def gsW (cn i a : Nat) : Cond := if a = 0 then .fieldLinkNest (clsN cn) i "HouseholdMail" "FIRST" "[I" "HouseholdMail" else if a = 1 then .fieldLink (clsN cn) i "HouseholdMail" "LEAST" "[I" else if a = 2 then .fieldLink (clsN cn) i "HouseholdMail" "MOST" "[I" else if a = 3 then .fieldLink (clsN cn) i "java/lang/String" "COMPACT_STRINGS" "Z" else .fieldLink (clsN cn) i "jdk/internal/util/Preconditions" "SIOOBE_FORMATTER" "Ljava/util/function/BiFunction;"
def ldcAt (by_ : ByteArray) (pc : Nat) : Option (Nat × Nat) := match decode by_ pc with
  | .ok (.ldc i, 2) => some (i, 2)
  | .ok (.ldc_w i, 3) => some (i, 3)
  | _ => none
/-- a throw: new, dup, ldc, the constructor, athrow -/
def okTh (r : MI) (pc i a : Nat) : Bool := decide (a < 3) && mi_cn r == 10 && i == thK a && mi_hh r == [] && decide (6 ≤ mi_ht r) && mi_mc r == 1 && mi_ms r == 6 && decide (decode (mi_by r) (pc + 3) = .ok (.dup, 1)) && (match ldcAt (mi_by r) (pc + 4) with
  | some (j, n) => (strs.any fun q => q.1 == 10 && q.2.1 == j) && decide (decode (mi_by r) (pc + 4 + n) = .ok (.invokespecial (thC a), 3)) && decide (decode (mi_by r) (pc + 7 + n) = .ok (.athrow, 1))
  | none => false)
def okX (r : MI) (pc : Nat) (e : AIn) : Bool := match e with
  | (ins, len, a, b, c, ts, w, q) => match ins with
    | .aload_n j => j.val == a && len == 1
    | .iload_n j => j.val == a && len == 1
    | .lload_n j => j.val == a && len == 1
    | .dload_n j => j.val == a && len == 1
    | .istore_n j => j.val == a && len == 1
    | .astore_n j => j.val == a && len == 1
    | .lstore_n j => j.val == a && len == 1
    | .dstore_n j => j.val == a && len == 1
    | .aload j => j == a && len == 2
    | .iload j => j == a && len == 2
    | .lload j => j == a && len == 2
    | .dload j => j == a && len == 2
    | .istore j => j == a && len == 2
    | .astore j => j == a && len == 2
    | .lstore j => j == a && len == 2
    | .dstore j => j == a && len == 2
    | .iinc j n => j == a && len == 3 && Int32.ofInt n == w
    | .iconst n => len == 1 && Int32.ofInt n == w
    | .bipush n => len == 2 && (Int8.ofInt n).toInt32 == w
    | .sipush n => len == 3 && (Int16.ofInt n).toInt32 == w
    | .lconst n => len == 1 && Int64.ofNat n.val == q
    | .dconst n => len == 1 && ((n.val == 0 && a == 0) || (n.val == 1 && a == 4607182418800017408))
    | .ldc i => len == 2 && (!(c == 0) || strs.any fun s => s.1 == mi_cn r && s.2.1 == i && s.2.2.2 == 100 + a)
    | .ldc2_w i => len == 3 && (if b = 0 then okWd ts (.constantLong (clsN (mi_cn r)) i q) else okWd ts (.constantDouble (clsN (mi_cn r)) i (UInt64.ofNat a)))
    | .if_icmp _ off => len == 3 && decide ((pc : Int) + off = (a : Int))
    | .ifCond _ off => len == 3 && decide ((pc : Int) + off = (a : Int))
    | .goto off => len == 3 && decide ((pc : Int) + off = (a : Int))
    | .tableswitch d _ _ offs => decide ((pc : Int) + d = (a : Int)) && decide (offs.toList.map (fun o => (pc : Int) + o) = ts.map (fun t : Nat => (t : Int)))
    | .lookupswitch _ ps => (ps.toList.zip (ps.toList.drop 1)).all (fun (x, next) => x.1 < next.1)
    | .getfield i => len == 3 && (if a = 60 then mi_cn r == 15 && ((b == 0 && i == 15 && c == 0) || (b == 1 && i == 9 && c == 3)) else okFl r i a b ts && c == tcF (tyc a b))
    | .putfield i => len == 3 && okFl r i a b ts && c == tcF (tyc a b) && (!(TXc a b).2.2.2 || (decide ((mi_nm r).name = "<init>") && mi_cn r == a))
    | .getstatic i => len == 3 && decide (a < 5) && okWd ts (gsW (mi_cn r) i a)
    | .new i => len == 3 && (if c = 9 then okTh r pc i a else decide (a < 12) && b == nXc a && okWd ts (.classLink (clsN (mi_cn r)) i (clsN a)))
    | .newarray t => len == 2 && ((a == 20 && decide (t = .int)) || (a == 21 && decide (t = .long)))
    | .anewarray i => len == 3 && ((a == 22 && okWd ts (.classLink (clsN (mi_cn r)) i RX2)) || (a == 23 && okWd ts (.classLink (clsN (mi_cn r)) i RX7)) || (a == 24 && okWd ts (.classLink (clsN (mi_cn r)) i RX8)) || (a == 25 && okWd ts (.classLink (clsN (mi_cn r)) i RX9)))
    | .invokevirtual i => len == 3 && (match mT b with
      | some ry => decide (b < 214) && okMl r i b c ts && !mi_st ry && mi_hh ry == [] && (decide (mi_hh r = []) || c == 0) && decide (c < 2) && decide (mi_cn ry < 12 ∨ mi_cn ry = 15) && !(decide ((mi_nm ry).name = "<init>")) && (parseMethodDescriptor (mi_nm ry).desc).map (fun d => d.parameters.length) == some a
      | none => true)
    | .invokestatic i => len == 3 && (if b = 9001 ∨ b = 9002 then okMl r i b 0 ts else match mT b with
      | some ry => decide (b < 214) && okMl r i b c ts && mi_st ry && decide (mi_hh r = []) && decide (c < 2) && (decide (mi_hh ry = []) || c == 0) && (parseMethodDescriptor (mi_nm ry).desc).map (fun d => d.parameters.length) == some a
      | none => true)
    | .invokespecial i => len == 3 && (if b = 9003 then okMl r i b 0 ts else match mT b with
      | some ry => decide (b < 214) && okMl r i b c ts && !mi_st ry && decide (mi_hh r = []) && decide (mi_hh ry = []) && decide (c < 2) && decide (mi_cn ry < 12) && decide ((mi_nm ry).name = "<init>") && decide (mi_rt ry = none) && (parseMethodDescriptor (mi_nm ry).desc).map (fun d => d.parameters.length) == some a
      | none => true)
    | .ldc_w _ => true
    | .return_ => len == 1 && decide (mi_rt r = none)
    | .lreturn => len == 1 && decide (mi_rt r = some .long)
    | .dreturn => len == 1 && decide (mi_rt r = some .double)
    | .areturn => len == 1 && (match mi_rt r with
      | some (.object _) => true
      | some (.array _) => true
      | _ => false)
    | _ => len == 1
def okE (r : MI) (pc : Nat) (e : AIn) : Bool := decide (decode (mi_by r) pc = .ok (e.1, e.2.1)) && okX r pc e
/-- what the tables say of a method: its code, its class, its kind; its handlers -/
def okM (r : MI) (p1 p2 p3 p4 : Nat) : Bool := decide (clsN (mi_cn r) = (mi_nm r).cls) && plainName (mi_nm r).cls && decide (mi_ml r ≤ 19) && decide ((mi_nm r).cls ≠ "java/lang/invoke/MethodHandle") && decide ((mi_nm r).cls ≠ "java/lang/invoke/VarHandle") &&
  (decide ((mi_nm r).name = "law") || (decide (lw_tbl[p1]? = some (if mi_hh r = [] then .code (mi_nm r) (mi_by r) (mi_ml r) (mi_rt r) else .codeWith (mi_nm r) (mi_by r) (mi_ml r) (mi_rt r) (mi_hh r))) &&
  decide (lw_tbl[p2]? = some (.initialized (mi_nm r).cls)) && decide (lw_tbl[p3]? = some (if mi_st r = true then .static (mi_nm r) else .instanceMethod (mi_nm r))) &&
  (mi_st r || decide ((mi_nm r).name = "<init>") || decide (lw_tbl[p4]? = some (.selects (mi_nm r).cls (mi_nm r) (mi_nm r)))))) &&
  ((mi_hh r).zip (mi_hx r)).all (fun q => decide (q.2 < 3) && decide (q.1.2.2.2 ≠ 0) && (decide ((Cond.classLink (clsN (mi_cn r)) q.1.2.2.2 (exc q.2)) ∈ lw_tbl))) && decide ((mi_hh r).length = (mi_hx r).length)
