def okM2 (r : MI) (p1 p2 p3 p4 : Nat) : Bool := decide (clsN (mi_cn r) = (mi_nm r).cls) && plainFor (mi_nm r) && decide (mi_ml r ≤ 19) && decide ((mi_nm r).cls ≠ "java/lang/invoke/MethodHandle") && decide ((mi_nm r).cls ≠ "java/lang/invoke/VarHandle") &&
  (decide ((mi_nm r).name = "law") || (decide (lw_tbl[p1]? = some (if mi_hh r = [] then .code (mi_nm r) (mi_by r) (mi_ml r) (mi_rt r) else .codeWith (mi_nm r) (mi_by r) (mi_ml r) (mi_rt r) (mi_hh r))) &&
  decide (lw_tbl[p2]? = some (.initialized (mi_nm r).cls)) && decide (lw_tbl[p3]? = some (if mi_st r = true then .static (mi_nm r) else .instanceMethod (mi_nm r))) &&
  (mi_st r || decide ((mi_nm r).name = "<init>") || decide (lw_tbl[p4]? = some (.selects (mi_nm r).cls (mi_nm r) (mi_nm r)))))) &&
  ((mi_hh r).zip (mi_hx r)).all (fun q => decide (q.2 < 3) && decide (q.1.2.2.2 ≠ 0) && (decide ((Cond.classLink (clsN (mi_cn r)) q.1.2.2.2 (exc q.2)) ∈ lw_tbl))) && decide ((mi_hh r).length = (mi_hx r).length)
set_option maxRecDepth 100000 in
theorem okm0 : okM2 mi0 277 82 276 0 = true := by decide +kernel
set_option maxRecDepth 100000 in
theorem okm1 : okM2 mi1 979 82 977 978 = true := by decide +kernel
set_option maxRecDepth 100000 in
theorem okm2 : okM2 mi2 776 82 774 775 = true := by decide +kernel
set_option maxRecDepth 100000 in
theorem okm3 : okM2 mi3 780 82 779 24 = true := by decide +kernel
set_option maxRecDepth 100000 in
theorem okm4 : okM2 mi4 786 82 785 0 = true := by decide +kernel
set_option maxRecDepth 100000 in
theorem okm5 : okM2 mi5 792 82 791 0 = true := by decide +kernel
set_option maxRecDepth 100000 in
theorem okm6 : okM2 mi6 798 82 797 0 = true := by decide +kernel
set_option maxRecDepth 100000 in
theorem okm7 : okM2 mi7 789 82 788 0 = true := by decide +kernel
set_option maxRecDepth 100000 in
theorem okm8 : okM2 mi8 795 82 794 0 = true := by decide +kernel
set_option maxRecDepth 100000 in
theorem okm9 : okM2 mi9 296 83 295 0 = true := by decide +kernel
set_option maxRecDepth 100000 in
theorem okm10 : okM2 mi10 483 83 481 482 = true := by decide +kernel
set_option maxRecDepth 100000 in
theorem okm11 : okM2 mi11 487 83 486 3 = true := by decide +kernel
set_option maxRecDepth 100000 in
theorem okm12 : okM2 mi12 491 83 490 4 = true := by decide +kernel
set_option maxRecDepth 100000 in
theorem okm13 : okM2 mi13 503 83 502 7 = true := by decide +kernel
set_option maxRecDepth 100000 in
theorem okm14 : okM2 mi14 559 83 558 0 = true := by decide +kernel
set_option maxRecDepth 100000 in
theorem okm15 : okM2 mi15 563 83 562 9 = true := by decide +kernel
set_option maxRecDepth 100000 in
theorem okm16 : okM2 mi16 567 83 566 10 = true := by decide +kernel
set_option maxRecDepth 100000 in
theorem okm17 : okM2 mi17 499 83 498 6 = true := by decide +kernel
set_option maxRecDepth 100000 in
theorem okm18 : okM2 mi18 508 83 507 8 = true := by decide +kernel
set_option maxRecDepth 100000 in
theorem okm19 : okM2 mi19 495 83 494 5 = true := by decide +kernel
set_option maxRecDepth 100000 in
theorem okm20 : okM2 mi20 347 86 346 0 = true := by decide +kernel
set_option maxRecDepth 100000 in
theorem okm21 : okM2 mi21 479 86 477 478 = true := by decide +kernel
set_option maxRecDepth 100000 in
theorem okm22 : okM2 mi22 683 86 681 682 = true := by decide +kernel
set_option maxRecDepth 100000 in
theorem okm23 : okM2 mi23 260 81 259 0 = true := by decide +kernel
set_option maxRecDepth 100000 in
theorem okm24 : okM2 mi24 819 81 817 818 = true := by decide +kernel
set_option maxRecDepth 100000 in
theorem okm25 : okM2 mi25 991 81 989 990 = true := by decide +kernel
set_option maxRecDepth 100000 in
theorem okm26 : okM2 mi26 823 81 822 25 = true := by decide +kernel
set_option maxRecDepth 100000 in
theorem okm27 : okM2 mi27 122 77 121 0 = true := by decide +kernel
set_option maxRecDepth 100000 in
theorem okm28 : okM2 mi28 841 77 839 840 = true := by decide +kernel
set_option maxRecDepth 100000 in
theorem okm29 : okM2 mi29 624 77 622 623 = true := by decide +kernel
set_option maxRecDepth 100000 in
theorem okm30 : okM2 mi30 632 77 630 631 = true := by decide +kernel
set_option maxRecDepth 100000 in
theorem okm31 : okM2 mi31 471 77 469 470 = true := by decide +kernel
set_option maxRecDepth 100000 in
theorem okm32 : okM2 mi32 316 84 315 0 = true := by decide +kernel
set_option maxRecDepth 100000 in
theorem okm33 : okM2 mi33 578 84 576 577 = true := by decide +kernel
set_option maxRecDepth 100000 in
theorem okm34 : okM2 mi34 582 84 580 581 = true := by decide +kernel
set_option maxRecDepth 100000 in
theorem okm35 : okM2 mi35 586 84 585 11 = true := by decide +kernel
set_option maxRecDepth 100000 in
theorem okm36 : okM2 mi36 340 85 339 0 = true := by decide +kernel
set_option maxRecDepth 100000 in
theorem okm37 : okM2 mi37 1026 85 1024 1025 = true := by decide +kernel
set_option maxRecDepth 100000 in
theorem okm38 : okM2 mi38 459 85 457 458 = true := by decide +kernel
set_option maxRecDepth 100000 in
theorem okm39 : okM2 mi39 599 85 597 598 = true := by decide +kernel
set_option maxRecDepth 100000 in
theorem okm40 : okM2 mi40 463 85 462 1 = true := by decide +kernel
set_option maxRecDepth 100000 in
theorem okm41 : okM2 mi41 475 85 474 2 = true := by decide +kernel
set_option maxRecDepth 100000 in
theorem okm42 : okM2 mi42 590 85 589 12 = true := by decide +kernel
set_option maxRecDepth 100000 in
theorem okm43 : okM2 mi43 603 85 602 13 = true := by decide +kernel
set_option maxRecDepth 100000 in
theorem okm44 : okM2 mi44 140 78 139 0 = true := by decide +kernel
set_option maxRecDepth 100000 in
theorem okm45 : okM2 mi45 849 78 847 848 = true := by decide +kernel
set_option maxRecDepth 100000 in
theorem okm46 : okM2 mi46 831 78 829 830 = true := by decide +kernel
set_option maxRecDepth 100000 in
theorem okm47 : okM2 mi47 112 76 111 0 = true := by decide +kernel
set_option maxRecDepth 100000 in
theorem okm48 : okM2 mi48 827 76 825 826 = true := by decide +kernel
set_option maxRecDepth 100000 in
theorem okm49 : okM2 mi49 467 76 465 466 = true := by decide +kernel
set_option maxRecDepth 100000 in
theorem okm50 : okM2 mi50 628 76 626 627 = true := by decide +kernel
set_option maxRecDepth 100000 in
theorem okm51 : okM2 mi51 665 76 663 664 = true := by decide +kernel
set_option maxRecDepth 100000 in
theorem okm52 : okM2 mi52 186 79 185 0 = true := by decide +kernel
set_option maxRecDepth 100000 in
theorem okm53 : okM2 mi53 863 79 861 862 = true := by decide +kernel
set_option maxRecDepth 100000 in
theorem okm54 : okM2 mi54 836 79 834 835 = true := by decide +kernel
set_option maxRecDepth 100000 in
theorem okm55 : okM2 mi55 671 79 669 670 = true := by decide +kernel
set_option maxRecDepth 100000 in
theorem okm56 : okM2 mi56 571 79 569 570 = true := by decide +kernel
set_option maxRecDepth 100000 in
theorem okm57 : okM2 mi57 104 75 103 0 = true := by decide +kernel
set_option maxRecDepth 100000 in
theorem okm58 : okM2 mi58 702 75 700 701 = true := by decide +kernel
set_option maxRecDepth 100000 in
theorem okm59 : okM2 mi59 857 75 855 856 = true := by decide +kernel
set_option maxRecDepth 100000 in
theorem okm60 : okM2 mi60 871 75 869 870 = true := by decide +kernel
set_option maxRecDepth 100000 in
theorem okm61 : okM2 mi61 881 75 879 880 = true := by decide +kernel
set_option maxRecDepth 100000 in
theorem okm62 : okM2 mi62 909 75 907 908 = true := by decide +kernel
set_option maxRecDepth 100000 in
theorem okm63 : okM2 mi63 921 75 919 920 = true := by decide +kernel
set_option maxRecDepth 100000 in
theorem okm64 : okM2 mi64 928 75 926 927 = true := by decide +kernel
set_option maxRecDepth 100000 in
theorem okm65 : okM2 mi65 947 75 945 946 = true := by decide +kernel
set_option maxRecDepth 100000 in
theorem okm66 : okM2 mi66 956 75 954 955 = true := by decide +kernel
set_option maxRecDepth 100000 in
theorem okm67 : okM2 mi67 965 75 963 964 = true := by decide +kernel
set_option maxRecDepth 100000 in
theorem okm68 : okM2 mi68 446 75 444 445 = true := by decide +kernel
set_option maxRecDepth 100000 in
theorem okm69 : okM2 mi69 974 75 972 973 = true := by decide +kernel
set_option maxRecDepth 100000 in
theorem okm70 : okM2 mi70 986 75 984 985 = true := by decide +kernel
set_option maxRecDepth 100000 in
theorem okm71 : okM2 mi71 998 75 996 997 = true := by decide +kernel
set_option maxRecDepth 100000 in
theorem okm72 : okM2 mi72 1006 75 1004 1005 = true := by decide +kernel
set_option maxRecDepth 100000 in
theorem okm73 : okM2 mi73 1014 75 1012 1013 = true := by decide +kernel
set_option maxRecDepth 100000 in
theorem okm74 : okM2 mi74 1022 75 1020 1021 = true := by decide +kernel
set_option maxRecDepth 100000 in
theorem okm75 : okM2 mi75 1035 75 1033 1034 = true := by decide +kernel
set_option maxRecDepth 100000 in
theorem okm76 : okM2 mi76 1043 75 1041 1042 = true := by decide +kernel
set_option maxRecDepth 100000 in
theorem okm77 : okM2 mi77 1050 75 1048 1049 = true := by decide +kernel
set_option maxRecDepth 100000 in
theorem okm78 : okM2 mi78 1058 75 1056 1057 = true := by decide +kernel
set_option maxRecDepth 100000 in
theorem okm79 : okM2 mi79 1065 75 1063 1064 = true := by decide +kernel
set_option maxRecDepth 100000 in
theorem okm80 : okM2 mi80 450 75 448 449 = true := by decide +kernel
set_option maxRecDepth 100000 in
theorem okm81 : okM2 mi81 595 75 593 594 = true := by decide +kernel
set_option maxRecDepth 100000 in
theorem okm82 : okM2 mi82 1073 75 1071 1072 = true := by decide +kernel
set_option maxRecDepth 100000 in
theorem okm83 : okM2 mi83 607 75 605 606 = true := by decide +kernel
set_option maxRecDepth 100000 in
theorem okm84 : okM2 mi84 615 75 613 614 = true := by decide +kernel
set_option maxRecDepth 100000 in
theorem okm85 : okM2 mi85 705 75 704 0 = true := by decide +kernel
set_option maxRecDepth 100000 in
theorem okm86 : okM2 mi86 931 75 930 0 = true := by decide +kernel
set_option maxRecDepth 100000 in
theorem okm87 : okM2 mi87 935 75 934 0 = true := by decide +kernel
set_option maxRecDepth 100000 in
theorem okm88 : okM2 mi88 783 75 782 0 = true := by decide +kernel
set_option maxRecDepth 100000 in
theorem okm89 : okM2 mi89 885 75 884 26 = true := by decide +kernel
set_option maxRecDepth 100000 in
theorem okm90 : okM2 mi90 913 75 912 27 = true := by decide +kernel
set_option maxRecDepth 100000 in
theorem okm91 : okM2 mi91 454 75 453 0 = true := by decide +kernel
set_option maxRecDepth 100000 in
theorem okm92 : okM2 mi92 652 75 651 18 = true := by decide +kernel
set_option maxRecDepth 100000 in
theorem okm93 : okM2 mi93 645 75 644 17 = true := by decide +kernel
set_option maxRecDepth 100000 in
theorem okm94 : okM2 mi94 661 75 660 20 = true := by decide +kernel
set_option maxRecDepth 100000 in
theorem okm95 : okM2 mi95 679 75 678 22 = true := by decide +kernel
set_option maxRecDepth 100000 in
theorem okm96 : okM2 mi96 620 75 619 15 = true := by decide +kernel
set_option maxRecDepth 100000 in
theorem okm97 : okM2 mi97 611 75 610 14 = true := by decide +kernel
set_option maxRecDepth 100000 in
theorem okm98 : okM2 mi98 689 75 688 0 = true := by decide +kernel
set_option maxRecDepth 100000 in
theorem okm99 : okM2 mi99 636 75 635 0 = true := by decide +kernel
set_option maxRecDepth 100000 in
theorem okm100 : okM2 mi100 648 75 647 0 = true := by decide +kernel
set_option maxRecDepth 100000 in
theorem okm101 : okM2 mi101 641 75 640 16 = true := by decide +kernel
set_option maxRecDepth 100000 in
theorem okm102 : okM2 mi102 657 75 656 19 = true := by decide +kernel
set_option maxRecDepth 100000 in
theorem okm103 : okM2 mi103 675 75 674 21 = true := by decide +kernel
set_option maxRecDepth 100000 in
theorem okm104 : okM2 mi104 1078 87 1077 0 = true := by decide +kernel
set_option maxRecDepth 100000 in
theorem okm105 : okM2 mi105 1153 87 1151 1152 = true := by decide +kernel
set_option maxRecDepth 100000 in
theorem okm106 : okM2 mi106 1160 87 1159 0 = true := by decide +kernel
set_option maxRecDepth 100000 in
theorem okm107 : okM2 mi107 1184 87 1183 33 = true := by decide +kernel
set_option maxRecDepth 100000 in
theorem okm108 : okM2 mi108 1204 87 1203 35 = true := by decide +kernel
set_option maxRecDepth 100000 in
theorem okm109 : okM2 mi109 1212 87 1211 36 = true := by decide +kernel
set_option maxRecDepth 100000 in
theorem okm110 : okM2 mi110 1250 87 1249 41 = true := by decide +kernel
set_option maxRecDepth 100000 in
theorem okm111 : okM2 mi111 1196 87 1195 34 = true := by decide +kernel
set_option maxRecDepth 100000 in
theorem okm112 : okM2 mi112 1246 87 1245 40 = true := by decide +kernel
set_option maxRecDepth 100000 in
theorem okm113 : okM2 mi113 1258 87 1257 43 = true := by decide +kernel
set_option maxRecDepth 100000 in
theorem okm114 : okM2 mi114 1254 87 1253 42 = true := by decide +kernel
set_option maxRecDepth 100000 in
theorem okm115 : okM2 mi115 1242 87 1241 39 = true := by decide +kernel
set_option maxRecDepth 100000 in
theorem okm116 : okM2 mi116 1278 87 1277 48 = true := by decide +kernel
set_option maxRecDepth 100000 in
theorem okm117 : okM2 mi117 1274 87 1273 47 = true := by decide +kernel
set_option maxRecDepth 100000 in
theorem okm118 : okM2 mi118 1270 87 1269 46 = true := by decide +kernel
set_option maxRecDepth 100000 in
theorem okm119 : okM2 mi119 1282 87 1281 49 = true := by decide +kernel
set_option maxRecDepth 100000 in
theorem okm120 : okM2 mi120 1294 87 1293 52 = true := by decide +kernel
set_option maxRecDepth 100000 in
theorem okm121 : okM2 mi121 1290 87 1289 51 = true := by decide +kernel
set_option maxRecDepth 100000 in
theorem okm122 : okM2 mi122 1286 87 1285 50 = true := by decide +kernel
set_option maxRecDepth 100000 in
theorem okm123 : okM2 mi123 1266 87 1265 45 = true := by decide +kernel
set_option maxRecDepth 100000 in
theorem okm124 : okM2 mi124 1262 87 1261 44 = true := by decide +kernel
set_option maxRecDepth 100000 in
theorem okm125 : okM2 mi125 1302 87 1301 54 = true := by decide +kernel
set_option maxRecDepth 100000 in
theorem okm126 : okM2 mi126 1310 87 1309 56 = true := by decide +kernel
set_option maxRecDepth 100000 in
theorem okm127 : okM2 mi127 1306 87 1305 55 = true := by decide +kernel
set_option maxRecDepth 100000 in
theorem okm128 : okM2 mi128 1314 87 1313 57 = true := by decide +kernel
set_option maxRecDepth 100000 in
theorem okm129 : okM2 mi129 1298 87 1297 53 = true := by decide +kernel
set_option maxRecDepth 100000 in
theorem okm130 : okM2 mi130 1238 87 1237 38 = true := by decide +kernel
set_option maxRecDepth 100000 in
theorem okm131 : okM2 mi131 1322 87 1321 59 = true := by decide +kernel
set_option maxRecDepth 100000 in
theorem okm132 : okM2 mi132 1318 87 1317 58 = true := by decide +kernel
set_option maxRecDepth 100000 in
theorem okm133 : okM2 mi133 1157 87 1155 1156 = true := by decide +kernel
set_option maxRecDepth 100000 in
theorem okm134 : okM2 mi134 1188 87 1186 1187 = true := by decide +kernel
set_option maxRecDepth 100000 in
theorem okm135 : okM2 mi135 1192 87 1190 1191 = true := by decide +kernel
set_option maxRecDepth 100000 in
theorem okm136 : okM2 mi136 1200 87 1198 1199 = true := by decide +kernel
set_option maxRecDepth 100000 in
theorem okm137 : okM2 mi137 1208 87 1206 1207 = true := by decide +kernel
set_option maxRecDepth 100000 in
theorem okm138 : okM2 mi138 1220 87 1219 37 = true := by decide +kernel
set_option maxRecDepth 100000 in
theorem okm139 : okM2 mi139 1216 87 1214 1215 = true := by decide +kernel
set_option maxRecDepth 100000 in
theorem okm140 : okM2 mi140 1227 87 1226 0 = true := by decide +kernel
set_option maxRecDepth 100000 in
theorem okm141 : okM2 mi141 1230 87 1229 0 = true := by decide +kernel
set_option maxRecDepth 100000 in
theorem okm142 : okM2 mi142 1224 87 1222 1223 = true := by decide +kernel
set_option maxRecDepth 100000 in
theorem okm143 : okM2 mi143 1234 87 1232 1233 = true := by decide +kernel
set_option maxRecDepth 100000 in
theorem okm144 : okM2 mi144 1326 87 1324 1325 = true := by decide +kernel
set_option maxRecDepth 100000 in
theorem okm145 : okM2 mi145 1330 87 1328 1329 = true := by decide +kernel
set_option maxRecDepth 100000 in
theorem okm146 : okM2 mi146 1334 87 1332 1333 = true := by decide +kernel
set_option maxRecDepth 100000 in
theorem okm147 : okM2 mi147 1176 87 1175 31 = true := by decide +kernel
set_option maxRecDepth 100000 in
theorem okm148 : okM2 mi148 1172 87 1171 30 = true := by decide +kernel
set_option maxRecDepth 100000 in
theorem okm149 : okM2 mi149 1168 87 1167 29 = true := by decide +kernel
set_option maxRecDepth 100000 in
theorem okm150 : okM2 mi150 1164 87 1163 28 = true := by decide +kernel
set_option maxRecDepth 100000 in
theorem okm151 : okM2 mi151 1180 87 1179 32 = true := by decide +kernel
set_option maxRecDepth 100000 in
theorem okm152 : okM2 mi152 1338 87 1336 1337 = true := by decide +kernel
set_option maxRecDepth 100000 in
theorem okm153 : okM2 mi153 1342 87 1340 1341 = true := by decide +kernel
set_option maxRecDepth 100000 in
theorem okm154 : okM2 mi154 1354 87 1353 61 = true := by decide +kernel
set_option maxRecDepth 100000 in
theorem okm155 : okM2 mi155 1350 87 1349 60 = true := by decide +kernel
set_option maxRecDepth 100000 in
theorem okm156 : okM2 mi156 1346 87 1344 1345 = true := by decide +kernel
set_option maxRecDepth 100000 in
theorem okm157 : okM2 mi157 1358 87 1356 1357 = true := by decide +kernel
set_option maxRecDepth 100000 in
theorem okm158 : okM2 mi158 1370 87 1369 63 = true := by decide +kernel
set_option maxRecDepth 100000 in
theorem okm159 : okM2 mi159 1366 87 1365 62 = true := by decide +kernel
set_option maxRecDepth 100000 in
theorem okm160 : okM2 mi160 1362 87 1360 1361 = true := by decide +kernel
set_option maxRecDepth 100000 in
theorem okm161 : okM2 mi161 1378 87 1377 64 = true := by decide +kernel
set_option maxRecDepth 100000 in
theorem okm162 : okM2 mi162 1374 87 1372 1373 = true := by decide +kernel
set_option maxRecDepth 100000 in
theorem okm163 : okM2 mi163 1382 87 1380 1381 = true := by decide +kernel
set_option maxRecDepth 100000 in
theorem okm164 : okM2 mi164 1386 87 1384 1385 = true := by decide +kernel
set_option maxRecDepth 100000 in
theorem okm165 : okM2 mi165 1394 87 1393 65 = true := by decide +kernel
set_option maxRecDepth 100000 in
theorem okm166 : okM2 mi166 1390 87 1388 1389 = true := by decide +kernel
set_option maxRecDepth 100000 in
theorem okm167 : okM2 mi167 1398 87 1396 1397 = true := by decide +kernel
set_option maxRecDepth 100000 in
theorem okm168 : okM2 mi168 1406 87 1405 66 = true := by decide +kernel
set_option maxRecDepth 100000 in
theorem okm169 : okM2 mi169 1402 87 1400 1401 = true := by decide +kernel
set_option maxRecDepth 100000 in
theorem okm170 : okM2 mi170 1414 87 1413 67 = true := by decide +kernel
set_option maxRecDepth 100000 in
theorem okm171 : okM2 mi171 1410 87 1408 1409 = true := by decide +kernel
set_option maxRecDepth 100000 in
theorem okm172 : okM2 mi172 1422 87 1421 68 = true := by decide +kernel
set_option maxRecDepth 100000 in
theorem okm173 : okM2 mi173 1418 87 1416 1417 = true := by decide +kernel
set_option maxRecDepth 100000 in
theorem okm174 : okM2 mi174 1430 87 1429 69 = true := by decide +kernel
set_option maxRecDepth 100000 in
theorem okm175 : okM2 mi175 1426 87 1424 1425 = true := by decide +kernel
set_option maxRecDepth 100000 in
theorem okm176 : okM2 mi176 1438 87 1437 70 = true := by decide +kernel
set_option maxRecDepth 100000 in
theorem okm177 : okM2 mi177 1434 87 1432 1433 = true := by decide +kernel
set_option maxRecDepth 100000 in
theorem okm178 : okM2 mi178 1447 87 1446 71 = true := by decide +kernel
set_option maxRecDepth 100000 in
theorem okm179 : okM2 mi179 1452 87 1451 72 = true := by decide +kernel
set_option maxRecDepth 100000 in
theorem okm180 : okM2 mi180 1456 87 1455 73 = true := by decide +kernel
set_option maxRecDepth 100000 in
theorem okm181 : okM2 mi181 1442 87 1440 1441 = true := by decide +kernel
set_option maxRecDepth 100000 in
theorem okm182 : okM2 mi182 1462 99 1461 0 = true := by decide +kernel
set_option maxRecDepth 100000 in
theorem okm183 : okM2 mi183 1459 99 1458 0 = true := by decide +kernel
set_option maxRecDepth 100000 in
theorem okm184 : okM2 mi184 844 93 843 0 = true := by decide +kernel
set_option maxRecDepth 100000 in
theorem okm185 : okM2 mi185 512 95 510 511 = true := by decide +kernel
set_option maxRecDepth 100000 in
theorem okm186 : okM2 mi186 522 95 520 521 = true := by decide +kernel
set_option maxRecDepth 100000 in
theorem okm187 : okM2 mi187 516 95 514 515 = true := by decide +kernel
set_option maxRecDepth 100000 in
theorem okm188 : okM2 mi188 526 95 524 525 = true := by decide +kernel
set_option maxRecDepth 100000 in
theorem okm189 : okM2 mi189 532 95 531 0 = true := by decide +kernel
set_option maxRecDepth 100000 in
theorem okm190 : okM2 mi190 529 96 528 0 = true := by decide +kernel
set_option maxRecDepth 100000 in
theorem okm191 : okM2 mi191 537 97 536 0 = true := by decide +kernel
set_option maxRecDepth 100000 in
theorem okm192 : okM2 mi192 696 74 695 0 = true := by decide +kernel
set_option maxRecDepth 100000 in
theorem okm193 : okM2 mi193 853 74 852 0 = true := by decide +kernel
set_option maxRecDepth 100000 in
theorem okm194 : okM2 mi194 867 74 866 0 = true := by decide +kernel
set_option maxRecDepth 100000 in
theorem okm195 : okM2 mi195 876 74 875 0 = true := by decide +kernel
set_option maxRecDepth 100000 in
theorem okm196 : okM2 mi196 905 74 904 0 = true := by decide +kernel
set_option maxRecDepth 100000 in
theorem okm197 : okM2 mi197 917 74 916 0 = true := by decide +kernel
set_option maxRecDepth 100000 in
theorem okm198 : okM2 mi198 924 74 923 0 = true := by decide +kernel
set_option maxRecDepth 100000 in
theorem okm199 : okM2 mi199 943 74 942 0 = true := by decide +kernel
set_option maxRecDepth 100000 in
theorem okm200 : okM2 mi200 952 74 951 0 = true := by decide +kernel
set_option maxRecDepth 100000 in
theorem okm201 : okM2 mi201 961 74 960 0 = true := by decide +kernel
set_option maxRecDepth 100000 in
theorem okm202 : okM2 mi202 970 74 969 0 = true := by decide +kernel
set_option maxRecDepth 100000 in
theorem okm203 : okM2 mi203 982 74 981 0 = true := by decide +kernel
set_option maxRecDepth 100000 in
theorem okm204 : okM2 mi204 994 74 993 0 = true := by decide +kernel
set_option maxRecDepth 100000 in
theorem okm205 : okM2 mi205 1002 74 1001 0 = true := by decide +kernel
set_option maxRecDepth 100000 in
theorem okm206 : okM2 mi206 1010 74 1009 0 = true := by decide +kernel
set_option maxRecDepth 100000 in
theorem okm207 : okM2 mi207 1018 74 1017 0 = true := by decide +kernel
set_option maxRecDepth 100000 in
theorem okm208 : okM2 mi208 1031 74 1030 0 = true := by decide +kernel
set_option maxRecDepth 100000 in
theorem okm209 : okM2 mi209 1039 74 1038 0 = true := by decide +kernel
set_option maxRecDepth 100000 in
theorem okm210 : okM2 mi210 1046 74 1045 0 = true := by decide +kernel
set_option maxRecDepth 100000 in
theorem okm211 : okM2 mi211 1054 74 1053 0 = true := by decide +kernel
set_option maxRecDepth 100000 in
theorem okm212 : okM2 mi212 1061 74 1060 0 = true := by decide +kernel
set_option maxRecDepth 100000 in
theorem okm213 : okM2 mi213 1069 74 1068 0 = true := by decide +kernel
set_option maxRecDepth 100000 in
theorem okm214 : okM2 mi214 0 0 0 0 = true := by decide +kernel
set_option maxRecDepth 100000 in
theorem tok_all : ∀ r ∈ mtab, (mi_tb r).all (fun q => okE r q.1 q.2) = true := List.forall_mem_cons.mpr ⟨tok0, List.forall_mem_cons.mpr ⟨tok1, List.forall_mem_cons.mpr ⟨tok2, List.forall_mem_cons.mpr ⟨tok3, List.forall_mem_cons.mpr ⟨tok4, List.forall_mem_cons.mpr ⟨tok5, List.forall_mem_cons.mpr ⟨tok6, List.forall_mem_cons.mpr ⟨tok7, List.forall_mem_cons.mpr ⟨tok8, List.forall_mem_cons.mpr ⟨tok9, List.forall_mem_cons.mpr ⟨tok10, List.forall_mem_cons.mpr ⟨tok11, List.forall_mem_cons.mpr ⟨tok12, List.forall_mem_cons.mpr ⟨tok13, List.forall_mem_cons.mpr ⟨tok14, List.forall_mem_cons.mpr ⟨tok15, List.forall_mem_cons.mpr ⟨tok16, List.forall_mem_cons.mpr ⟨tok17, List.forall_mem_cons.mpr ⟨tok18, List.forall_mem_cons.mpr ⟨tok19, List.forall_mem_cons.mpr ⟨tok20, List.forall_mem_cons.mpr ⟨tok21, List.forall_mem_cons.mpr ⟨tok22, List.forall_mem_cons.mpr ⟨tok23, List.forall_mem_cons.mpr ⟨tok24, List.forall_mem_cons.mpr ⟨tok25, List.forall_mem_cons.mpr ⟨tok26, List.forall_mem_cons.mpr ⟨tok27, List.forall_mem_cons.mpr ⟨tok28, List.forall_mem_cons.mpr ⟨tok29, List.forall_mem_cons.mpr ⟨tok30, List.forall_mem_cons.mpr ⟨tok31, List.forall_mem_cons.mpr ⟨tok32, List.forall_mem_cons.mpr ⟨tok33, List.forall_mem_cons.mpr ⟨tok34, List.forall_mem_cons.mpr ⟨tok35, List.forall_mem_cons.mpr ⟨tok36, List.forall_mem_cons.mpr ⟨tok37, List.forall_mem_cons.mpr ⟨tok38, List.forall_mem_cons.mpr ⟨tok39, List.forall_mem_cons.mpr ⟨tok40, List.forall_mem_cons.mpr ⟨tok41, List.forall_mem_cons.mpr ⟨tok42, List.forall_mem_cons.mpr ⟨tok43, List.forall_mem_cons.mpr ⟨tok44, List.forall_mem_cons.mpr ⟨tok45, List.forall_mem_cons.mpr ⟨tok46, List.forall_mem_cons.mpr ⟨tok47, List.forall_mem_cons.mpr ⟨tok48, List.forall_mem_cons.mpr ⟨tok49, List.forall_mem_cons.mpr ⟨tok50, List.forall_mem_cons.mpr ⟨tok51, List.forall_mem_cons.mpr ⟨tok52, List.forall_mem_cons.mpr ⟨tok53, List.forall_mem_cons.mpr ⟨tok54, List.forall_mem_cons.mpr ⟨tok55, List.forall_mem_cons.mpr ⟨tok56, List.forall_mem_cons.mpr ⟨tok57, List.forall_mem_cons.mpr ⟨tok58, List.forall_mem_cons.mpr ⟨tok59, List.forall_mem_cons.mpr ⟨tok60, List.forall_mem_cons.mpr ⟨tok61, List.forall_mem_cons.mpr ⟨tok62, List.forall_mem_cons.mpr ⟨tok63, List.forall_mem_cons.mpr ⟨tok64, List.forall_mem_cons.mpr ⟨tok65, List.forall_mem_cons.mpr ⟨tok66, List.forall_mem_cons.mpr ⟨tok67, List.forall_mem_cons.mpr ⟨tok68, List.forall_mem_cons.mpr ⟨tok69, List.forall_mem_cons.mpr ⟨tok70, List.forall_mem_cons.mpr ⟨tok71, List.forall_mem_cons.mpr ⟨tok72, List.forall_mem_cons.mpr ⟨tok73, List.forall_mem_cons.mpr ⟨tok74, List.forall_mem_cons.mpr ⟨tok75, List.forall_mem_cons.mpr ⟨tok76, List.forall_mem_cons.mpr ⟨tok77, List.forall_mem_cons.mpr ⟨tok78, List.forall_mem_cons.mpr ⟨tok79, List.forall_mem_cons.mpr ⟨tok80, List.forall_mem_cons.mpr ⟨tok81, List.forall_mem_cons.mpr ⟨tok82, List.forall_mem_cons.mpr ⟨tok83, List.forall_mem_cons.mpr ⟨tok84, List.forall_mem_cons.mpr ⟨tok85, List.forall_mem_cons.mpr ⟨tok86, List.forall_mem_cons.mpr ⟨tok87, List.forall_mem_cons.mpr ⟨tok88, List.forall_mem_cons.mpr ⟨tok89, List.forall_mem_cons.mpr ⟨tok90, List.forall_mem_cons.mpr ⟨tok91, List.forall_mem_cons.mpr ⟨tok92, List.forall_mem_cons.mpr ⟨tok93, List.forall_mem_cons.mpr ⟨tok94, List.forall_mem_cons.mpr ⟨tok95, List.forall_mem_cons.mpr ⟨tok96, List.forall_mem_cons.mpr ⟨tok97, List.forall_mem_cons.mpr ⟨tok98, List.forall_mem_cons.mpr ⟨tok99, List.forall_mem_cons.mpr ⟨tok100, List.forall_mem_cons.mpr ⟨tok101, List.forall_mem_cons.mpr ⟨tok102, List.forall_mem_cons.mpr ⟨tok103, List.forall_mem_cons.mpr ⟨tok104, List.forall_mem_cons.mpr ⟨tok105, List.forall_mem_cons.mpr ⟨tok106, List.forall_mem_cons.mpr ⟨tok107, List.forall_mem_cons.mpr ⟨tok108, List.forall_mem_cons.mpr ⟨tok109, List.forall_mem_cons.mpr ⟨tok110, List.forall_mem_cons.mpr ⟨tok111, List.forall_mem_cons.mpr ⟨tok112, List.forall_mem_cons.mpr ⟨tok113, List.forall_mem_cons.mpr ⟨tok114, List.forall_mem_cons.mpr ⟨tok115, List.forall_mem_cons.mpr ⟨tok116, List.forall_mem_cons.mpr ⟨tok117, List.forall_mem_cons.mpr ⟨tok118, List.forall_mem_cons.mpr ⟨tok119, List.forall_mem_cons.mpr ⟨tok120, List.forall_mem_cons.mpr ⟨tok121, List.forall_mem_cons.mpr ⟨tok122, List.forall_mem_cons.mpr ⟨tok123, List.forall_mem_cons.mpr ⟨tok124, List.forall_mem_cons.mpr ⟨tok125, List.forall_mem_cons.mpr ⟨tok126, List.forall_mem_cons.mpr ⟨tok127, List.forall_mem_cons.mpr ⟨tok128, List.forall_mem_cons.mpr ⟨tok129, List.forall_mem_cons.mpr ⟨tok130, List.forall_mem_cons.mpr ⟨tok131, List.forall_mem_cons.mpr ⟨tok132, List.forall_mem_cons.mpr ⟨tok133, List.forall_mem_cons.mpr ⟨tok134, List.forall_mem_cons.mpr ⟨tok135, List.forall_mem_cons.mpr ⟨tok136, List.forall_mem_cons.mpr ⟨tok137, List.forall_mem_cons.mpr ⟨tok138, List.forall_mem_cons.mpr ⟨tok139, List.forall_mem_cons.mpr ⟨tok140, List.forall_mem_cons.mpr ⟨tok141, List.forall_mem_cons.mpr ⟨tok142, List.forall_mem_cons.mpr ⟨tok143, List.forall_mem_cons.mpr ⟨tok144, List.forall_mem_cons.mpr ⟨tok145, List.forall_mem_cons.mpr ⟨tok146, List.forall_mem_cons.mpr ⟨tok147, List.forall_mem_cons.mpr ⟨tok148, List.forall_mem_cons.mpr ⟨tok149, List.forall_mem_cons.mpr ⟨tok150, List.forall_mem_cons.mpr ⟨tok151, List.forall_mem_cons.mpr ⟨tok152, List.forall_mem_cons.mpr ⟨tok153, List.forall_mem_cons.mpr ⟨tok154, List.forall_mem_cons.mpr ⟨tok155, List.forall_mem_cons.mpr ⟨tok156, List.forall_mem_cons.mpr ⟨tok157, List.forall_mem_cons.mpr ⟨tok158, List.forall_mem_cons.mpr ⟨tok159, List.forall_mem_cons.mpr ⟨tok160, List.forall_mem_cons.mpr ⟨tok161, List.forall_mem_cons.mpr ⟨tok162, List.forall_mem_cons.mpr ⟨tok163, List.forall_mem_cons.mpr ⟨tok164, List.forall_mem_cons.mpr ⟨tok165, List.forall_mem_cons.mpr ⟨tok166, List.forall_mem_cons.mpr ⟨tok167, List.forall_mem_cons.mpr ⟨tok168, List.forall_mem_cons.mpr ⟨tok169, List.forall_mem_cons.mpr ⟨tok170, List.forall_mem_cons.mpr ⟨tok171, List.forall_mem_cons.mpr ⟨tok172, List.forall_mem_cons.mpr ⟨tok173, List.forall_mem_cons.mpr ⟨tok174, List.forall_mem_cons.mpr ⟨tok175, List.forall_mem_cons.mpr ⟨tok176, List.forall_mem_cons.mpr ⟨tok177, List.forall_mem_cons.mpr ⟨tok178, List.forall_mem_cons.mpr ⟨tok179, List.forall_mem_cons.mpr ⟨tok180, List.forall_mem_cons.mpr ⟨tok181, List.forall_mem_cons.mpr ⟨tok182, List.forall_mem_cons.mpr ⟨tok183, List.forall_mem_cons.mpr ⟨tok184, List.forall_mem_cons.mpr ⟨tok185, List.forall_mem_cons.mpr ⟨tok186, List.forall_mem_cons.mpr ⟨tok187, List.forall_mem_cons.mpr ⟨tok188, List.forall_mem_cons.mpr ⟨tok189, List.forall_mem_cons.mpr ⟨tok190, List.forall_mem_cons.mpr ⟨tok191, List.forall_mem_cons.mpr ⟨tok192, List.forall_mem_cons.mpr ⟨tok193, List.forall_mem_cons.mpr ⟨tok194, List.forall_mem_cons.mpr ⟨tok195, List.forall_mem_cons.mpr ⟨tok196, List.forall_mem_cons.mpr ⟨tok197, List.forall_mem_cons.mpr ⟨tok198, List.forall_mem_cons.mpr ⟨tok199, List.forall_mem_cons.mpr ⟨tok200, List.forall_mem_cons.mpr ⟨tok201, List.forall_mem_cons.mpr ⟨tok202, List.forall_mem_cons.mpr ⟨tok203, List.forall_mem_cons.mpr ⟨tok204, List.forall_mem_cons.mpr ⟨tok205, List.forall_mem_cons.mpr ⟨tok206, List.forall_mem_cons.mpr ⟨tok207, List.forall_mem_cons.mpr ⟨tok208, List.forall_mem_cons.mpr ⟨tok209, List.forall_mem_cons.mpr ⟨tok210, List.forall_mem_cons.mpr ⟨tok211, List.forall_mem_cons.mpr ⟨tok212, List.forall_mem_cons.mpr ⟨tok213, List.forall_mem_cons.mpr ⟨tok214, fun _ h => absurd h List.not_mem_nil⟩⟩⟩⟩⟩⟩⟩⟩⟩⟩⟩⟩⟩⟩⟩⟩⟩⟩⟩⟩⟩⟩⟩⟩⟩⟩⟩⟩⟩⟩⟩⟩⟩⟩⟩⟩⟩⟩⟩⟩⟩⟩⟩⟩⟩⟩⟩⟩⟩⟩⟩⟩⟩⟩⟩⟩⟩⟩⟩⟩⟩⟩⟩⟩⟩⟩⟩⟩⟩⟩⟩⟩⟩⟩⟩⟩⟩⟩⟩⟩⟩⟩⟩⟩⟩⟩⟩⟩⟩⟩⟩⟩⟩⟩⟩⟩⟩⟩⟩⟩⟩⟩⟩⟩⟩⟩⟩⟩⟩⟩⟩⟩⟩⟩⟩⟩⟩⟩⟩⟩⟩⟩⟩⟩⟩⟩⟩⟩⟩⟩⟩⟩⟩⟩⟩⟩⟩⟩⟩⟩⟩⟩⟩⟩⟩⟩⟩⟩⟩⟩⟩⟩⟩⟩⟩⟩⟩⟩⟩⟩⟩⟩⟩⟩⟩⟩⟩⟩⟩⟩⟩⟩⟩⟩⟩⟩⟩⟩⟩⟩⟩⟩⟩⟩⟩⟩⟩⟩⟩⟩⟩⟩⟩⟩⟩⟩⟩⟩⟩⟩⟩⟩⟩⟩⟩⟩⟩⟩⟩⟩⟩⟩⟩⟩⟩
set_option maxRecDepth 100000 in
theorem okm_all : ∀ r ∈ mtab, ∃ a b c d, okM2 r a b c d = true := List.forall_mem_cons.mpr ⟨⟨_, _, _, _, okm0⟩, List.forall_mem_cons.mpr ⟨⟨_, _, _, _, okm1⟩, List.forall_mem_cons.mpr ⟨⟨_, _, _, _, okm2⟩, List.forall_mem_cons.mpr ⟨⟨_, _, _, _, okm3⟩, List.forall_mem_cons.mpr ⟨⟨_, _, _, _, okm4⟩, List.forall_mem_cons.mpr ⟨⟨_, _, _, _, okm5⟩, List.forall_mem_cons.mpr ⟨⟨_, _, _, _, okm6⟩, List.forall_mem_cons.mpr ⟨⟨_, _, _, _, okm7⟩, List.forall_mem_cons.mpr ⟨⟨_, _, _, _, okm8⟩, List.forall_mem_cons.mpr ⟨⟨_, _, _, _, okm9⟩, List.forall_mem_cons.mpr ⟨⟨_, _, _, _, okm10⟩, List.forall_mem_cons.mpr ⟨⟨_, _, _, _, okm11⟩, List.forall_mem_cons.mpr ⟨⟨_, _, _, _, okm12⟩, List.forall_mem_cons.mpr ⟨⟨_, _, _, _, okm13⟩, List.forall_mem_cons.mpr ⟨⟨_, _, _, _, okm14⟩, List.forall_mem_cons.mpr ⟨⟨_, _, _, _, okm15⟩, List.forall_mem_cons.mpr ⟨⟨_, _, _, _, okm16⟩, List.forall_mem_cons.mpr ⟨⟨_, _, _, _, okm17⟩, List.forall_mem_cons.mpr ⟨⟨_, _, _, _, okm18⟩, List.forall_mem_cons.mpr ⟨⟨_, _, _, _, okm19⟩, List.forall_mem_cons.mpr ⟨⟨_, _, _, _, okm20⟩, List.forall_mem_cons.mpr ⟨⟨_, _, _, _, okm21⟩, List.forall_mem_cons.mpr ⟨⟨_, _, _, _, okm22⟩, List.forall_mem_cons.mpr ⟨⟨_, _, _, _, okm23⟩, List.forall_mem_cons.mpr ⟨⟨_, _, _, _, okm24⟩, List.forall_mem_cons.mpr ⟨⟨_, _, _, _, okm25⟩, List.forall_mem_cons.mpr ⟨⟨_, _, _, _, okm26⟩, List.forall_mem_cons.mpr ⟨⟨_, _, _, _, okm27⟩, List.forall_mem_cons.mpr ⟨⟨_, _, _, _, okm28⟩, List.forall_mem_cons.mpr ⟨⟨_, _, _, _, okm29⟩, List.forall_mem_cons.mpr ⟨⟨_, _, _, _, okm30⟩, List.forall_mem_cons.mpr ⟨⟨_, _, _, _, okm31⟩, List.forall_mem_cons.mpr ⟨⟨_, _, _, _, okm32⟩, List.forall_mem_cons.mpr ⟨⟨_, _, _, _, okm33⟩, List.forall_mem_cons.mpr ⟨⟨_, _, _, _, okm34⟩, List.forall_mem_cons.mpr ⟨⟨_, _, _, _, okm35⟩, List.forall_mem_cons.mpr ⟨⟨_, _, _, _, okm36⟩, List.forall_mem_cons.mpr ⟨⟨_, _, _, _, okm37⟩, List.forall_mem_cons.mpr ⟨⟨_, _, _, _, okm38⟩, List.forall_mem_cons.mpr ⟨⟨_, _, _, _, okm39⟩, List.forall_mem_cons.mpr ⟨⟨_, _, _, _, okm40⟩, List.forall_mem_cons.mpr ⟨⟨_, _, _, _, okm41⟩, List.forall_mem_cons.mpr ⟨⟨_, _, _, _, okm42⟩, List.forall_mem_cons.mpr ⟨⟨_, _, _, _, okm43⟩, List.forall_mem_cons.mpr ⟨⟨_, _, _, _, okm44⟩, List.forall_mem_cons.mpr ⟨⟨_, _, _, _, okm45⟩, List.forall_mem_cons.mpr ⟨⟨_, _, _, _, okm46⟩, List.forall_mem_cons.mpr ⟨⟨_, _, _, _, okm47⟩, List.forall_mem_cons.mpr ⟨⟨_, _, _, _, okm48⟩, List.forall_mem_cons.mpr ⟨⟨_, _, _, _, okm49⟩, List.forall_mem_cons.mpr ⟨⟨_, _, _, _, okm50⟩, List.forall_mem_cons.mpr ⟨⟨_, _, _, _, okm51⟩, List.forall_mem_cons.mpr ⟨⟨_, _, _, _, okm52⟩, List.forall_mem_cons.mpr ⟨⟨_, _, _, _, okm53⟩, List.forall_mem_cons.mpr ⟨⟨_, _, _, _, okm54⟩, List.forall_mem_cons.mpr ⟨⟨_, _, _, _, okm55⟩, List.forall_mem_cons.mpr ⟨⟨_, _, _, _, okm56⟩, List.forall_mem_cons.mpr ⟨⟨_, _, _, _, okm57⟩, List.forall_mem_cons.mpr ⟨⟨_, _, _, _, okm58⟩, List.forall_mem_cons.mpr ⟨⟨_, _, _, _, okm59⟩, List.forall_mem_cons.mpr ⟨⟨_, _, _, _, okm60⟩, List.forall_mem_cons.mpr ⟨⟨_, _, _, _, okm61⟩, List.forall_mem_cons.mpr ⟨⟨_, _, _, _, okm62⟩, List.forall_mem_cons.mpr ⟨⟨_, _, _, _, okm63⟩, List.forall_mem_cons.mpr ⟨⟨_, _, _, _, okm64⟩, List.forall_mem_cons.mpr ⟨⟨_, _, _, _, okm65⟩, List.forall_mem_cons.mpr ⟨⟨_, _, _, _, okm66⟩, List.forall_mem_cons.mpr ⟨⟨_, _, _, _, okm67⟩, List.forall_mem_cons.mpr ⟨⟨_, _, _, _, okm68⟩, List.forall_mem_cons.mpr ⟨⟨_, _, _, _, okm69⟩, List.forall_mem_cons.mpr ⟨⟨_, _, _, _, okm70⟩, List.forall_mem_cons.mpr ⟨⟨_, _, _, _, okm71⟩, List.forall_mem_cons.mpr ⟨⟨_, _, _, _, okm72⟩, List.forall_mem_cons.mpr ⟨⟨_, _, _, _, okm73⟩, List.forall_mem_cons.mpr ⟨⟨_, _, _, _, okm74⟩, List.forall_mem_cons.mpr ⟨⟨_, _, _, _, okm75⟩, List.forall_mem_cons.mpr ⟨⟨_, _, _, _, okm76⟩, List.forall_mem_cons.mpr ⟨⟨_, _, _, _, okm77⟩, List.forall_mem_cons.mpr ⟨⟨_, _, _, _, okm78⟩, List.forall_mem_cons.mpr ⟨⟨_, _, _, _, okm79⟩, List.forall_mem_cons.mpr ⟨⟨_, _, _, _, okm80⟩, List.forall_mem_cons.mpr ⟨⟨_, _, _, _, okm81⟩, List.forall_mem_cons.mpr ⟨⟨_, _, _, _, okm82⟩, List.forall_mem_cons.mpr ⟨⟨_, _, _, _, okm83⟩, List.forall_mem_cons.mpr ⟨⟨_, _, _, _, okm84⟩, List.forall_mem_cons.mpr ⟨⟨_, _, _, _, okm85⟩, List.forall_mem_cons.mpr ⟨⟨_, _, _, _, okm86⟩, List.forall_mem_cons.mpr ⟨⟨_, _, _, _, okm87⟩, List.forall_mem_cons.mpr ⟨⟨_, _, _, _, okm88⟩, List.forall_mem_cons.mpr ⟨⟨_, _, _, _, okm89⟩, List.forall_mem_cons.mpr ⟨⟨_, _, _, _, okm90⟩, List.forall_mem_cons.mpr ⟨⟨_, _, _, _, okm91⟩, List.forall_mem_cons.mpr ⟨⟨_, _, _, _, okm92⟩, List.forall_mem_cons.mpr ⟨⟨_, _, _, _, okm93⟩, List.forall_mem_cons.mpr ⟨⟨_, _, _, _, okm94⟩, List.forall_mem_cons.mpr ⟨⟨_, _, _, _, okm95⟩, List.forall_mem_cons.mpr ⟨⟨_, _, _, _, okm96⟩, List.forall_mem_cons.mpr ⟨⟨_, _, _, _, okm97⟩, List.forall_mem_cons.mpr ⟨⟨_, _, _, _, okm98⟩, List.forall_mem_cons.mpr ⟨⟨_, _, _, _, okm99⟩, List.forall_mem_cons.mpr ⟨⟨_, _, _, _, okm100⟩, List.forall_mem_cons.mpr ⟨⟨_, _, _, _, okm101⟩, List.forall_mem_cons.mpr ⟨⟨_, _, _, _, okm102⟩, List.forall_mem_cons.mpr ⟨⟨_, _, _, _, okm103⟩, List.forall_mem_cons.mpr ⟨⟨_, _, _, _, okm104⟩, List.forall_mem_cons.mpr ⟨⟨_, _, _, _, okm105⟩, List.forall_mem_cons.mpr ⟨⟨_, _, _, _, okm106⟩, List.forall_mem_cons.mpr ⟨⟨_, _, _, _, okm107⟩, List.forall_mem_cons.mpr ⟨⟨_, _, _, _, okm108⟩, List.forall_mem_cons.mpr ⟨⟨_, _, _, _, okm109⟩, List.forall_mem_cons.mpr ⟨⟨_, _, _, _, okm110⟩, List.forall_mem_cons.mpr ⟨⟨_, _, _, _, okm111⟩, List.forall_mem_cons.mpr ⟨⟨_, _, _, _, okm112⟩, List.forall_mem_cons.mpr ⟨⟨_, _, _, _, okm113⟩, List.forall_mem_cons.mpr ⟨⟨_, _, _, _, okm114⟩, List.forall_mem_cons.mpr ⟨⟨_, _, _, _, okm115⟩, List.forall_mem_cons.mpr ⟨⟨_, _, _, _, okm116⟩, List.forall_mem_cons.mpr ⟨⟨_, _, _, _, okm117⟩, List.forall_mem_cons.mpr ⟨⟨_, _, _, _, okm118⟩, List.forall_mem_cons.mpr ⟨⟨_, _, _, _, okm119⟩, List.forall_mem_cons.mpr ⟨⟨_, _, _, _, okm120⟩, List.forall_mem_cons.mpr ⟨⟨_, _, _, _, okm121⟩, List.forall_mem_cons.mpr ⟨⟨_, _, _, _, okm122⟩, List.forall_mem_cons.mpr ⟨⟨_, _, _, _, okm123⟩, List.forall_mem_cons.mpr ⟨⟨_, _, _, _, okm124⟩, List.forall_mem_cons.mpr ⟨⟨_, _, _, _, okm125⟩, List.forall_mem_cons.mpr ⟨⟨_, _, _, _, okm126⟩, List.forall_mem_cons.mpr ⟨⟨_, _, _, _, okm127⟩, List.forall_mem_cons.mpr ⟨⟨_, _, _, _, okm128⟩, List.forall_mem_cons.mpr ⟨⟨_, _, _, _, okm129⟩, List.forall_mem_cons.mpr ⟨⟨_, _, _, _, okm130⟩, List.forall_mem_cons.mpr ⟨⟨_, _, _, _, okm131⟩, List.forall_mem_cons.mpr ⟨⟨_, _, _, _, okm132⟩, List.forall_mem_cons.mpr ⟨⟨_, _, _, _, okm133⟩, List.forall_mem_cons.mpr ⟨⟨_, _, _, _, okm134⟩, List.forall_mem_cons.mpr ⟨⟨_, _, _, _, okm135⟩, List.forall_mem_cons.mpr ⟨⟨_, _, _, _, okm136⟩, List.forall_mem_cons.mpr ⟨⟨_, _, _, _, okm137⟩, List.forall_mem_cons.mpr ⟨⟨_, _, _, _, okm138⟩, List.forall_mem_cons.mpr ⟨⟨_, _, _, _, okm139⟩, List.forall_mem_cons.mpr ⟨⟨_, _, _, _, okm140⟩, List.forall_mem_cons.mpr ⟨⟨_, _, _, _, okm141⟩, List.forall_mem_cons.mpr ⟨⟨_, _, _, _, okm142⟩, List.forall_mem_cons.mpr ⟨⟨_, _, _, _, okm143⟩, List.forall_mem_cons.mpr ⟨⟨_, _, _, _, okm144⟩, List.forall_mem_cons.mpr ⟨⟨_, _, _, _, okm145⟩, List.forall_mem_cons.mpr ⟨⟨_, _, _, _, okm146⟩, List.forall_mem_cons.mpr ⟨⟨_, _, _, _, okm147⟩, List.forall_mem_cons.mpr ⟨⟨_, _, _, _, okm148⟩, List.forall_mem_cons.mpr ⟨⟨_, _, _, _, okm149⟩, List.forall_mem_cons.mpr ⟨⟨_, _, _, _, okm150⟩, List.forall_mem_cons.mpr ⟨⟨_, _, _, _, okm151⟩, List.forall_mem_cons.mpr ⟨⟨_, _, _, _, okm152⟩, List.forall_mem_cons.mpr ⟨⟨_, _, _, _, okm153⟩, List.forall_mem_cons.mpr ⟨⟨_, _, _, _, okm154⟩, List.forall_mem_cons.mpr ⟨⟨_, _, _, _, okm155⟩, List.forall_mem_cons.mpr ⟨⟨_, _, _, _, okm156⟩, List.forall_mem_cons.mpr ⟨⟨_, _, _, _, okm157⟩, List.forall_mem_cons.mpr ⟨⟨_, _, _, _, okm158⟩, List.forall_mem_cons.mpr ⟨⟨_, _, _, _, okm159⟩, List.forall_mem_cons.mpr ⟨⟨_, _, _, _, okm160⟩, List.forall_mem_cons.mpr ⟨⟨_, _, _, _, okm161⟩, List.forall_mem_cons.mpr ⟨⟨_, _, _, _, okm162⟩, List.forall_mem_cons.mpr ⟨⟨_, _, _, _, okm163⟩, List.forall_mem_cons.mpr ⟨⟨_, _, _, _, okm164⟩, List.forall_mem_cons.mpr ⟨⟨_, _, _, _, okm165⟩, List.forall_mem_cons.mpr ⟨⟨_, _, _, _, okm166⟩, List.forall_mem_cons.mpr ⟨⟨_, _, _, _, okm167⟩, List.forall_mem_cons.mpr ⟨⟨_, _, _, _, okm168⟩, List.forall_mem_cons.mpr ⟨⟨_, _, _, _, okm169⟩, List.forall_mem_cons.mpr ⟨⟨_, _, _, _, okm170⟩, List.forall_mem_cons.mpr ⟨⟨_, _, _, _, okm171⟩, List.forall_mem_cons.mpr ⟨⟨_, _, _, _, okm172⟩, List.forall_mem_cons.mpr ⟨⟨_, _, _, _, okm173⟩, List.forall_mem_cons.mpr ⟨⟨_, _, _, _, okm174⟩, List.forall_mem_cons.mpr ⟨⟨_, _, _, _, okm175⟩, List.forall_mem_cons.mpr ⟨⟨_, _, _, _, okm176⟩, List.forall_mem_cons.mpr ⟨⟨_, _, _, _, okm177⟩, List.forall_mem_cons.mpr ⟨⟨_, _, _, _, okm178⟩, List.forall_mem_cons.mpr ⟨⟨_, _, _, _, okm179⟩, List.forall_mem_cons.mpr ⟨⟨_, _, _, _, okm180⟩, List.forall_mem_cons.mpr ⟨⟨_, _, _, _, okm181⟩, List.forall_mem_cons.mpr ⟨⟨_, _, _, _, okm182⟩, List.forall_mem_cons.mpr ⟨⟨_, _, _, _, okm183⟩, List.forall_mem_cons.mpr ⟨⟨_, _, _, _, okm184⟩, List.forall_mem_cons.mpr ⟨⟨_, _, _, _, okm185⟩, List.forall_mem_cons.mpr ⟨⟨_, _, _, _, okm186⟩, List.forall_mem_cons.mpr ⟨⟨_, _, _, _, okm187⟩, List.forall_mem_cons.mpr ⟨⟨_, _, _, _, okm188⟩, List.forall_mem_cons.mpr ⟨⟨_, _, _, _, okm189⟩, List.forall_mem_cons.mpr ⟨⟨_, _, _, _, okm190⟩, List.forall_mem_cons.mpr ⟨⟨_, _, _, _, okm191⟩, List.forall_mem_cons.mpr ⟨⟨_, _, _, _, okm192⟩, List.forall_mem_cons.mpr ⟨⟨_, _, _, _, okm193⟩, List.forall_mem_cons.mpr ⟨⟨_, _, _, _, okm194⟩, List.forall_mem_cons.mpr ⟨⟨_, _, _, _, okm195⟩, List.forall_mem_cons.mpr ⟨⟨_, _, _, _, okm196⟩, List.forall_mem_cons.mpr ⟨⟨_, _, _, _, okm197⟩, List.forall_mem_cons.mpr ⟨⟨_, _, _, _, okm198⟩, List.forall_mem_cons.mpr ⟨⟨_, _, _, _, okm199⟩, List.forall_mem_cons.mpr ⟨⟨_, _, _, _, okm200⟩, List.forall_mem_cons.mpr ⟨⟨_, _, _, _, okm201⟩, List.forall_mem_cons.mpr ⟨⟨_, _, _, _, okm202⟩, List.forall_mem_cons.mpr ⟨⟨_, _, _, _, okm203⟩, List.forall_mem_cons.mpr ⟨⟨_, _, _, _, okm204⟩, List.forall_mem_cons.mpr ⟨⟨_, _, _, _, okm205⟩, List.forall_mem_cons.mpr ⟨⟨_, _, _, _, okm206⟩, List.forall_mem_cons.mpr ⟨⟨_, _, _, _, okm207⟩, List.forall_mem_cons.mpr ⟨⟨_, _, _, _, okm208⟩, List.forall_mem_cons.mpr ⟨⟨_, _, _, _, okm209⟩, List.forall_mem_cons.mpr ⟨⟨_, _, _, _, okm210⟩, List.forall_mem_cons.mpr ⟨⟨_, _, _, _, okm211⟩, List.forall_mem_cons.mpr ⟨⟨_, _, _, _, okm212⟩, List.forall_mem_cons.mpr ⟨⟨_, _, _, _, okm213⟩, List.forall_mem_cons.mpr ⟨⟨_, _, _, _, okm214⟩, fun _ h => absurd h List.not_mem_nil⟩⟩⟩⟩⟩⟩⟩⟩⟩⟩⟩⟩⟩⟩⟩⟩⟩⟩⟩⟩⟩⟩⟩⟩⟩⟩⟩⟩⟩⟩⟩⟩⟩⟩⟩⟩⟩⟩⟩⟩⟩⟩⟩⟩⟩⟩⟩⟩⟩⟩⟩⟩⟩⟩⟩⟩⟩⟩⟩⟩⟩⟩⟩⟩⟩⟩⟩⟩⟩⟩⟩⟩⟩⟩⟩⟩⟩⟩⟩⟩⟩⟩⟩⟩⟩⟩⟩⟩⟩⟩⟩⟩⟩⟩⟩⟩⟩⟩⟩⟩⟩⟩⟩⟩⟩⟩⟩⟩⟩⟩⟩⟩⟩⟩⟩⟩⟩⟩⟩⟩⟩⟩⟩⟩⟩⟩⟩⟩⟩⟩⟩⟩⟩⟩⟩⟩⟩⟩⟩⟩⟩⟩⟩⟩⟩⟩⟩⟩⟩⟩⟩⟩⟩⟩⟩⟩⟩⟩⟩⟩⟩⟩⟩⟩⟩⟩⟩⟩⟩⟩⟩⟩⟩⟩⟩⟩⟩⟩⟩⟩⟩⟩⟩⟩⟩⟩⟩⟩⟩⟩⟩⟩⟩⟩⟩⟩⟩⟩⟩⟩⟩⟩⟩⟩⟩⟩⟩⟩⟩⟩⟩⟩⟩⟩⟩
