set_option maxRecDepth 100000 in
theorem tok0 : tb0.all (fun q => okE mi0 q.1 q.2) = true := by decide +kernel
set_option maxRecDepth 100000 in
theorem tok1 : tb1.all (fun q => okE mi1 q.1 q.2) = true := by decide +kernel
set_option maxRecDepth 100000 in
theorem tok2 : tb2.all (fun q => okE mi2 q.1 q.2) = true := by decide +kernel
set_option maxRecDepth 100000 in
theorem tok3 : tb3.all (fun q => okE mi3 q.1 q.2) = true := by decide +kernel
set_option maxRecDepth 100000 in
theorem tok4 : tb4.all (fun q => okE mi4 q.1 q.2) = true := by decide +kernel
set_option maxRecDepth 100000 in
theorem tok5 : tb5.all (fun q => okE mi5 q.1 q.2) = true := by decide +kernel
set_option maxRecDepth 100000 in
theorem tok6 : tb6.all (fun q => okE mi6 q.1 q.2) = true := by decide +kernel
set_option maxRecDepth 100000 in
theorem tok7 : tb7.all (fun q => okE mi7 q.1 q.2) = true := by decide +kernel
set_option maxRecDepth 100000 in
theorem tok8 : tb8.all (fun q => okE mi8 q.1 q.2) = true := by decide +kernel
set_option maxRecDepth 100000 in
theorem tok9 : tb9.all (fun q => okE mi9 q.1 q.2) = true := by decide +kernel
set_option maxRecDepth 100000 in
theorem tok10 : tb10.all (fun q => okE mi10 q.1 q.2) = true := by decide +kernel
set_option maxRecDepth 100000 in
theorem tok11 : tb11.all (fun q => okE mi11 q.1 q.2) = true := by decide +kernel
set_option maxRecDepth 100000 in
theorem tok12 : tb12.all (fun q => okE mi12 q.1 q.2) = true := by decide +kernel
set_option maxRecDepth 100000 in
theorem tok13 : tb13.all (fun q => okE mi13 q.1 q.2) = true := by decide +kernel
set_option maxRecDepth 100000 in
theorem tok14 : tb14.all (fun q => okE mi14 q.1 q.2) = true := by decide +kernel
set_option maxRecDepth 100000 in
theorem tok15 : tb15.all (fun q => okE mi15 q.1 q.2) = true := by decide +kernel
set_option maxRecDepth 100000 in
theorem tok16 : tb16.all (fun q => okE mi16 q.1 q.2) = true := by decide +kernel
set_option maxRecDepth 100000 in
theorem tok17 : tb17.all (fun q => okE mi17 q.1 q.2) = true := by decide +kernel
set_option maxRecDepth 100000 in
theorem tok18 : tb18.all (fun q => okE mi18 q.1 q.2) = true := by decide +kernel
set_option maxRecDepth 100000 in
theorem tok19 : tb19.all (fun q => okE mi19 q.1 q.2) = true := by decide +kernel
set_option maxRecDepth 100000 in
theorem tok20 : tb20.all (fun q => okE mi20 q.1 q.2) = true := by decide +kernel
set_option maxRecDepth 100000 in
theorem tok21 : tb21.all (fun q => okE mi21 q.1 q.2) = true := by decide +kernel
set_option maxRecDepth 100000 in
theorem tok22 : tb22.all (fun q => okE mi22 q.1 q.2) = true := by decide +kernel
set_option maxRecDepth 100000 in
theorem tok23 : tb23.all (fun q => okE mi23 q.1 q.2) = true := by decide +kernel
set_option maxRecDepth 100000 in
theorem tok24 : tb24.all (fun q => okE mi24 q.1 q.2) = true := by decide +kernel
set_option maxRecDepth 100000 in
theorem tok25 : tb25.all (fun q => okE mi25 q.1 q.2) = true := by decide +kernel
set_option maxRecDepth 100000 in
theorem tok26 : tb26.all (fun q => okE mi26 q.1 q.2) = true := by decide +kernel
set_option maxRecDepth 100000 in
theorem tok27 : tb27.all (fun q => okE mi27 q.1 q.2) = true := by decide +kernel
set_option maxRecDepth 100000 in
theorem tok28 : tb28.all (fun q => okE mi28 q.1 q.2) = true := by decide +kernel
set_option maxRecDepth 100000 in
theorem tok29 : tb29.all (fun q => okE mi29 q.1 q.2) = true := by decide +kernel
set_option maxRecDepth 100000 in
theorem tok30 : tb30.all (fun q => okE mi30 q.1 q.2) = true := by decide +kernel
set_option maxRecDepth 100000 in
theorem tok31 : tb31.all (fun q => okE mi31 q.1 q.2) = true := by decide +kernel
set_option maxRecDepth 100000 in
theorem tok32 : tb32.all (fun q => okE mi32 q.1 q.2) = true := by decide +kernel
set_option maxRecDepth 100000 in
theorem tok33 : tb33.all (fun q => okE mi33 q.1 q.2) = true := by decide +kernel
set_option maxRecDepth 100000 in
theorem tok34 : tb34.all (fun q => okE mi34 q.1 q.2) = true := by decide +kernel
set_option maxRecDepth 100000 in
theorem tok35 : tb35.all (fun q => okE mi35 q.1 q.2) = true := by decide +kernel
set_option maxRecDepth 100000 in
theorem tok36 : tb36.all (fun q => okE mi36 q.1 q.2) = true := by decide +kernel
set_option maxRecDepth 100000 in
theorem tok37 : tb37.all (fun q => okE mi37 q.1 q.2) = true := by decide +kernel
set_option maxRecDepth 100000 in
theorem tok38 : tb38.all (fun q => okE mi38 q.1 q.2) = true := by decide +kernel
set_option maxRecDepth 100000 in
theorem tok39 : tb39.all (fun q => okE mi39 q.1 q.2) = true := by decide +kernel
set_option maxRecDepth 100000 in
theorem tok40 : tb40.all (fun q => okE mi40 q.1 q.2) = true := by decide +kernel
set_option maxRecDepth 100000 in
theorem tok41 : tb41.all (fun q => okE mi41 q.1 q.2) = true := by decide +kernel
set_option maxRecDepth 100000 in
theorem tok42 : tb42.all (fun q => okE mi42 q.1 q.2) = true := by decide +kernel
set_option maxRecDepth 100000 in
theorem tok43 : tb43.all (fun q => okE mi43 q.1 q.2) = true := by decide +kernel
set_option maxRecDepth 100000 in
theorem tok44 : tb44.all (fun q => okE mi44 q.1 q.2) = true := by decide +kernel
set_option maxRecDepth 100000 in
theorem tok45 : tb45.all (fun q => okE mi45 q.1 q.2) = true := by decide +kernel
set_option maxRecDepth 100000 in
theorem tok46 : tb46.all (fun q => okE mi46 q.1 q.2) = true := by decide +kernel
set_option maxRecDepth 100000 in
theorem tok47 : tb47.all (fun q => okE mi47 q.1 q.2) = true := by decide +kernel
set_option maxRecDepth 100000 in
theorem tok48 : tb48.all (fun q => okE mi48 q.1 q.2) = true := by decide +kernel
set_option maxRecDepth 100000 in
theorem tok49 : tb49.all (fun q => okE mi49 q.1 q.2) = true := by decide +kernel
set_option maxRecDepth 100000 in
theorem tok50 : tb50.all (fun q => okE mi50 q.1 q.2) = true := by decide +kernel
set_option maxRecDepth 100000 in
theorem tok51 : tb51.all (fun q => okE mi51 q.1 q.2) = true := by decide +kernel
set_option maxRecDepth 100000 in
theorem tok52 : tb52.all (fun q => okE mi52 q.1 q.2) = true := by decide +kernel
set_option maxRecDepth 100000 in
theorem tok53 : tb53.all (fun q => okE mi53 q.1 q.2) = true := by decide +kernel
set_option maxRecDepth 100000 in
theorem tok54 : tb54.all (fun q => okE mi54 q.1 q.2) = true := by decide +kernel
set_option maxRecDepth 100000 in
theorem tok55 : tb55.all (fun q => okE mi55 q.1 q.2) = true := by decide +kernel
set_option maxRecDepth 100000 in
theorem tok56 : tb56.all (fun q => okE mi56 q.1 q.2) = true := by decide +kernel
set_option maxRecDepth 100000 in
theorem tok57 : tb57.all (fun q => okE mi57 q.1 q.2) = true := by decide +kernel
set_option maxRecDepth 100000 in
theorem tok58 : tb58.all (fun q => okE mi58 q.1 q.2) = true := by decide +kernel
set_option maxRecDepth 100000 in
theorem tok59 : tb59.all (fun q => okE mi59 q.1 q.2) = true := by decide +kernel
set_option maxRecDepth 100000 in
theorem tok60 : tb60.all (fun q => okE mi60 q.1 q.2) = true := by decide +kernel
set_option maxRecDepth 100000 in
theorem tok61 : tb61.all (fun q => okE mi61 q.1 q.2) = true := by decide +kernel
set_option maxRecDepth 100000 in
theorem tok62 : tb62.all (fun q => okE mi62 q.1 q.2) = true := by decide +kernel
set_option maxRecDepth 100000 in
theorem tok63 : tb63.all (fun q => okE mi63 q.1 q.2) = true := by decide +kernel
set_option maxRecDepth 100000 in
theorem tok64 : tb64.all (fun q => okE mi64 q.1 q.2) = true := by decide +kernel
set_option maxRecDepth 100000 in
theorem tok65 : tb65.all (fun q => okE mi65 q.1 q.2) = true := by decide +kernel
set_option maxRecDepth 100000 in
theorem tok66 : tb66.all (fun q => okE mi66 q.1 q.2) = true := by decide +kernel
set_option maxRecDepth 100000 in
theorem tok67 : tb67.all (fun q => okE mi67 q.1 q.2) = true := by decide +kernel
set_option maxRecDepth 100000 in
theorem tok68 : tb68.all (fun q => okE mi68 q.1 q.2) = true := by decide +kernel
set_option maxRecDepth 100000 in
theorem tok69 : tb69.all (fun q => okE mi69 q.1 q.2) = true := by decide +kernel
set_option maxRecDepth 100000 in
theorem tok70 : tb70.all (fun q => okE mi70 q.1 q.2) = true := by decide +kernel
set_option maxRecDepth 100000 in
theorem tok71 : tb71.all (fun q => okE mi71 q.1 q.2) = true := by decide +kernel
set_option maxRecDepth 100000 in
theorem tok72 : tb72.all (fun q => okE mi72 q.1 q.2) = true := by decide +kernel
set_option maxRecDepth 100000 in
theorem tok73 : tb73.all (fun q => okE mi73 q.1 q.2) = true := by decide +kernel
set_option maxRecDepth 100000 in
theorem tok74 : tb74.all (fun q => okE mi74 q.1 q.2) = true := by decide +kernel
set_option maxRecDepth 100000 in
theorem tok75 : tb75.all (fun q => okE mi75 q.1 q.2) = true := by decide +kernel
set_option maxRecDepth 100000 in
theorem tok76 : tb76.all (fun q => okE mi76 q.1 q.2) = true := by decide +kernel
set_option maxRecDepth 100000 in
theorem tok77 : tb77.all (fun q => okE mi77 q.1 q.2) = true := by decide +kernel
set_option maxRecDepth 100000 in
theorem tok78 : tb78.all (fun q => okE mi78 q.1 q.2) = true := by decide +kernel
set_option maxRecDepth 100000 in
theorem tok79 : tb79.all (fun q => okE mi79 q.1 q.2) = true := by decide +kernel
set_option maxRecDepth 100000 in
theorem tok80 : tb80.all (fun q => okE mi80 q.1 q.2) = true := by decide +kernel
set_option maxRecDepth 100000 in
theorem tok81 : tb81.all (fun q => okE mi81 q.1 q.2) = true := by decide +kernel
set_option maxRecDepth 100000 in
theorem tok82 : tb82.all (fun q => okE mi82 q.1 q.2) = true := by decide +kernel
set_option maxRecDepth 100000 in
theorem tok83 : tb83.all (fun q => okE mi83 q.1 q.2) = true := by decide +kernel
set_option maxRecDepth 100000 in
theorem tok84 : tb84.all (fun q => okE mi84 q.1 q.2) = true := by decide +kernel
set_option maxRecDepth 100000 in
theorem tok85 : tb85.all (fun q => okE mi85 q.1 q.2) = true := by decide +kernel
set_option maxRecDepth 100000 in
theorem tok86 : tb86.all (fun q => okE mi86 q.1 q.2) = true := by decide +kernel
set_option maxRecDepth 100000 in
theorem tok87 : tb87.all (fun q => okE mi87 q.1 q.2) = true := by decide +kernel
set_option maxRecDepth 100000 in
theorem tok88 : tb88.all (fun q => okE mi88 q.1 q.2) = true := by decide +kernel
set_option maxRecDepth 100000 in
theorem tok89 : tb89.all (fun q => okE mi89 q.1 q.2) = true := by decide +kernel
set_option maxRecDepth 100000 in
theorem tok90 : tb90.all (fun q => okE mi90 q.1 q.2) = true := by decide +kernel
set_option maxRecDepth 100000 in
theorem tok91 : tb91.all (fun q => okE mi91 q.1 q.2) = true := by decide +kernel
set_option maxRecDepth 100000 in
theorem tok92 : tb92.all (fun q => okE mi92 q.1 q.2) = true := by decide +kernel
set_option maxRecDepth 100000 in
theorem tok93 : tb93.all (fun q => okE mi93 q.1 q.2) = true := by decide +kernel
set_option maxRecDepth 100000 in
theorem tok94 : tb94.all (fun q => okE mi94 q.1 q.2) = true := by decide +kernel
set_option maxRecDepth 100000 in
theorem tok95 : tb95.all (fun q => okE mi95 q.1 q.2) = true := by decide +kernel
set_option maxRecDepth 100000 in
theorem tok96 : tb96.all (fun q => okE mi96 q.1 q.2) = true := by decide +kernel
set_option maxRecDepth 100000 in
theorem tok97 : tb97.all (fun q => okE mi97 q.1 q.2) = true := by decide +kernel
set_option maxRecDepth 100000 in
theorem tok98 : tb98.all (fun q => okE mi98 q.1 q.2) = true := by decide +kernel
set_option maxRecDepth 100000 in
theorem tok99 : tb99.all (fun q => okE mi99 q.1 q.2) = true := by decide +kernel
set_option maxRecDepth 100000 in
theorem tok100 : tb100.all (fun q => okE mi100 q.1 q.2) = true := by decide +kernel
set_option maxRecDepth 100000 in
theorem tok101 : tb101.all (fun q => okE mi101 q.1 q.2) = true := by decide +kernel
set_option maxRecDepth 100000 in
theorem tok102 : tb102.all (fun q => okE mi102 q.1 q.2) = true := by decide +kernel
set_option maxRecDepth 100000 in
theorem tok103 : tb103.all (fun q => okE mi103 q.1 q.2) = true := by decide +kernel
set_option maxRecDepth 100000 in
theorem tok104 : tb104.all (fun q => okE mi104 q.1 q.2) = true := by decide +kernel
set_option maxRecDepth 100000 in
theorem tok105 : tb105.all (fun q => okE mi105 q.1 q.2) = true := by decide +kernel
set_option maxRecDepth 100000 in
theorem tok106 : tb106.all (fun q => okE mi106 q.1 q.2) = true := by decide +kernel
set_option maxRecDepth 100000 in
theorem tok107 : tb107.all (fun q => okE mi107 q.1 q.2) = true := by decide +kernel
set_option maxRecDepth 100000 in
theorem tok108 : tb108.all (fun q => okE mi108 q.1 q.2) = true := by decide +kernel
set_option maxRecDepth 100000 in
theorem tok109 : tb109.all (fun q => okE mi109 q.1 q.2) = true := by decide +kernel
