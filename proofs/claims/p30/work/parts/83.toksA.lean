set_option maxRecDepth 100000 in
theorem tok0 : tb0.all (fun q => okE mi0 q.1 q.2) = true := by decide +kernel
set_option maxRecDepth 100000 in
theorem tok1 : tb1.all (fun q => okE mi1 q.1 q.2) = true := by decide +kernel
set_option maxRecDepth 100000 in
theorem tok2 : tb2.all (fun q => okE mi2 q.1 q.2) = true := by decide +kernel
set_option maxRecDepth 100000 in
theorem tok3 : tb3.all (fun q => okE mi3 q.1 q.2) = true := by decide +kernel
set_option maxRecDepth 100000 in
theorem tok4 : tb4.all (fun q => okE mi4 q.1 q.2) = true := by decide +kernel
set_option maxRecDepth 100000 in
theorem tok5 : tb5.all (fun q => okE mi5 q.1 q.2) = true := by decide +kernel
set_option maxRecDepth 100000 in
theorem tok6 : tb6.all (fun q => okE mi6 q.1 q.2) = true := by decide +kernel
set_option maxRecDepth 100000 in
theorem tok7 : tb7.all (fun q => okE mi7 q.1 q.2) = true := by decide +kernel
set_option maxRecDepth 100000 in
theorem tok8 : tb8.all (fun q => okE mi8 q.1 q.2) = true := by decide +kernel
set_option maxRecDepth 100000 in
theorem tok9 : tb9.all (fun q => okE mi9 q.1 q.2) = true := by decide +kernel
set_option maxRecDepth 100000 in
theorem tok10 : tb10.all (fun q => okE mi10 q.1 q.2) = true := by decide +kernel
set_option maxRecDepth 100000 in
theorem tok11 : tb11.all (fun q => okE mi11 q.1 q.2) = true := by decide +kernel
set_option maxRecDepth 100000 in
theorem tok12 : tb12.all (fun q => okE mi12 q.1 q.2) = true := by decide +kernel
set_option maxRecDepth 100000 in
theorem tok13 : tb13.all (fun q => okE mi13 q.1 q.2) = true := by decide +kernel
set_option maxRecDepth 100000 in
theorem tok14 : tb14.all (fun q => okE mi14 q.1 q.2) = true := by decide +kernel
set_option maxRecDepth 100000 in
theorem tok15 : tb15.all (fun q => okE mi15 q.1 q.2) = true := by decide +kernel
set_option maxRecDepth 100000 in
theorem tok16 : tb16.all (fun q => okE mi16 q.1 q.2) = true := by decide +kernel
set_option maxRecDepth 100000 in
theorem tok17 : tb17.all (fun q => okE mi17 q.1 q.2) = true := by decide +kernel
set_option maxRecDepth 100000 in
theorem tok18 : tb18.all (fun q => okE mi18 q.1 q.2) = true := by decide +kernel
set_option maxRecDepth 100000 in
theorem tok19 : tb19.all (fun q => okE mi19 q.1 q.2) = true := by decide +kernel
set_option maxRecDepth 100000 in
theorem tok20 : tb20.all (fun q => okE mi20 q.1 q.2) = true := by decide +kernel
set_option maxRecDepth 100000 in
theorem tok21 : tb21.all (fun q => okE mi21 q.1 q.2) = true := by decide +kernel
set_option maxRecDepth 100000 in
theorem tok22 : tb22.all (fun q => okE mi22 q.1 q.2) = true := by decide +kernel
set_option maxRecDepth 100000 in
theorem tok23 : tb23.all (fun q => okE mi23 q.1 q.2) = true := by decide +kernel
set_option maxRecDepth 100000 in
theorem tok24 : tb24.all (fun q => okE mi24 q.1 q.2) = true := by decide +kernel
set_option maxRecDepth 100000 in
theorem tok26 : tb26.all (fun q => okE mi26 q.1 q.2) = true := by decide +kernel
set_option maxRecDepth 100000 in
theorem tok27 : tb27.all (fun q => okE mi27 q.1 q.2) = true := by decide +kernel
set_option maxRecDepth 100000 in
theorem tok28 : tb28.all (fun q => okE mi28 q.1 q.2) = true := by decide +kernel
set_option maxRecDepth 100000 in
theorem tok29 : tb29.all (fun q => okE mi29 q.1 q.2) = true := by decide +kernel
set_option maxRecDepth 100000 in
theorem tok30 : tb30.all (fun q => okE mi30 q.1 q.2) = true := by decide +kernel
set_option maxRecDepth 100000 in
theorem tok31 : tb31.all (fun q => okE mi31 q.1 q.2) = true := by decide +kernel
set_option maxRecDepth 100000 in
theorem tok32 : tb32.all (fun q => okE mi32 q.1 q.2) = true := by decide +kernel
set_option maxRecDepth 100000 in
theorem tok33 : tb33.all (fun q => okE mi33 q.1 q.2) = true := by decide +kernel
set_option maxRecDepth 100000 in
theorem tok34 : tb34.all (fun q => okE mi34 q.1 q.2) = true := by decide +kernel
set_option maxRecDepth 100000 in
theorem tok35 : tb35.all (fun q => okE mi35 q.1 q.2) = true := by decide +kernel
set_option maxRecDepth 100000 in
theorem tok36 : tb36.all (fun q => okE mi36 q.1 q.2) = true := by decide +kernel
set_option maxRecDepth 100000 in
theorem tok37 : tb37.all (fun q => okE mi37 q.1 q.2) = true := by decide +kernel
set_option maxRecDepth 100000 in
theorem tok38 : tb38.all (fun q => okE mi38 q.1 q.2) = true := by decide +kernel
set_option maxRecDepth 100000 in
theorem tok40 : tb40.all (fun q => okE mi40 q.1 q.2) = true := by decide +kernel
set_option maxRecDepth 100000 in
theorem tok41 : tb41.all (fun q => okE mi41 q.1 q.2) = true := by decide +kernel
set_option maxRecDepth 100000 in
theorem tok42 : tb42.all (fun q => okE mi42 q.1 q.2) = true := by decide +kernel
set_option maxRecDepth 100000 in
theorem tok44 : tb44.all (fun q => okE mi44 q.1 q.2) = true := by decide +kernel
set_option maxRecDepth 100000 in
theorem tok45 : tb45.all (fun q => okE mi45 q.1 q.2) = true := by decide +kernel
set_option maxRecDepth 100000 in
theorem tok46 : tb46.all (fun q => okE mi46 q.1 q.2) = true := by decide +kernel
set_option maxRecDepth 100000 in
theorem tok47 : tb47.all (fun q => okE mi47 q.1 q.2) = true := by decide +kernel
set_option maxRecDepth 100000 in
theorem tok48 : tb48.all (fun q => okE mi48 q.1 q.2) = true := by decide +kernel
set_option maxRecDepth 100000 in
theorem tok49 : tb49.all (fun q => okE mi49 q.1 q.2) = true := by decide +kernel
set_option maxRecDepth 100000 in
theorem tok50 : tb50.all (fun q => okE mi50 q.1 q.2) = true := by decide +kernel
set_option maxRecDepth 100000 in
theorem tok52 : tb52.all (fun q => okE mi52 q.1 q.2) = true := by decide +kernel
set_option maxRecDepth 100000 in
theorem tok53 : tb53.all (fun q => okE mi53 q.1 q.2) = true := by decide +kernel
set_option maxRecDepth 100000 in
theorem tok54 : tb54.all (fun q => okE mi54 q.1 q.2) = true := by decide +kernel
set_option maxRecDepth 100000 in
theorem tok56 : tb56.all (fun q => okE mi56 q.1 q.2) = true := by decide +kernel
set_option maxRecDepth 100000 in
theorem tok57 : tb57.all (fun q => okE mi57 q.1 q.2) = true := by decide +kernel
set_option maxRecDepth 100000 in
theorem tok58 : tb58.all (fun q => okE mi58 q.1 q.2) = true := by decide +kernel
set_option maxRecDepth 100000 in
theorem tok59 : tb59.all (fun q => okE mi59 q.1 q.2) = true := by decide +kernel
set_option maxRecDepth 100000 in
theorem tok60 : tb60.all (fun q => okE mi60 q.1 q.2) = true := by decide +kernel
set_option maxRecDepth 100000 in
theorem tok61 : tb61.all (fun q => okE mi61 q.1 q.2) = true := by decide +kernel
set_option maxRecDepth 100000 in
theorem tok62 : tb62.all (fun q => okE mi62 q.1 q.2) = true := by decide +kernel
set_option maxRecDepth 100000 in
theorem tok63 : tb63.all (fun q => okE mi63 q.1 q.2) = true := by decide +kernel
set_option maxRecDepth 100000 in
theorem tok64 : tb64.all (fun q => okE mi64 q.1 q.2) = true := by decide +kernel
set_option maxRecDepth 100000 in
theorem tok65 : tb65.all (fun q => okE mi65 q.1 q.2) = true := by decide +kernel
set_option maxRecDepth 100000 in
theorem tok66 : tb66.all (fun q => okE mi66 q.1 q.2) = true := by decide +kernel
set_option maxRecDepth 100000 in
theorem tok67 : tb67.all (fun q => okE mi67 q.1 q.2) = true := by decide +kernel
set_option maxRecDepth 100000 in
theorem tok68 : tb68.all (fun q => okE mi68 q.1 q.2) = true := by decide +kernel
set_option maxRecDepth 100000 in
theorem tok69 : tb69.all (fun q => okE mi69 q.1 q.2) = true := by decide +kernel
set_option maxRecDepth 100000 in
theorem tok71 : tb71.all (fun q => okE mi71 q.1 q.2) = true := by decide +kernel
set_option maxRecDepth 100000 in
theorem tok74 : tb74.all (fun q => okE mi74 q.1 q.2) = true := by decide +kernel
set_option maxRecDepth 100000 in
theorem tok75 : tb75.all (fun q => okE mi75 q.1 q.2) = true := by decide +kernel
set_option maxRecDepth 100000 in
theorem tok76 : tb76.all (fun q => okE mi76 q.1 q.2) = true := by decide +kernel
set_option maxRecDepth 100000 in
theorem tok77 : tb77.all (fun q => okE mi77 q.1 q.2) = true := by decide +kernel
set_option maxRecDepth 100000 in
theorem tok85 : tb85.all (fun q => okE mi85 q.1 q.2) = true := by decide +kernel
set_option maxRecDepth 100000 in
theorem tok86 : tb86.all (fun q => okE mi86 q.1 q.2) = true := by decide +kernel
set_option maxRecDepth 100000 in
theorem tok87 : tb87.all (fun q => okE mi87 q.1 q.2) = true := by decide +kernel
set_option maxRecDepth 100000 in
theorem tok88 : tb88.all (fun q => okE mi88 q.1 q.2) = true := by decide +kernel
set_option maxRecDepth 100000 in
theorem tok89 : tb89.all (fun q => okE mi89 q.1 q.2) = true := by decide +kernel
set_option maxRecDepth 100000 in
theorem tok90 : tb90.all (fun q => okE mi90 q.1 q.2) = true := by decide +kernel
set_option maxRecDepth 100000 in
theorem tok93 : tb93.all (fun q => okE mi93 q.1 q.2) = true := by decide +kernel
set_option maxRecDepth 100000 in
theorem tok95 : tb95.all (fun q => okE mi95 q.1 q.2) = true := by decide +kernel
set_option maxRecDepth 100000 in
theorem tok96 : tb96.all (fun q => okE mi96 q.1 q.2) = true := by decide +kernel
set_option maxRecDepth 100000 in
theorem tok184 : tb184.all (fun q => okE mi184 q.1 q.2) = true := by decide +kernel
set_option maxRecDepth 100000 in
theorem tok185 : tb185.all (fun q => okE mi185 q.1 q.2) = true := by decide +kernel
set_option maxRecDepth 100000 in
theorem tok186 : tb186.all (fun q => okE mi186 q.1 q.2) = true := by decide +kernel
set_option maxRecDepth 100000 in
theorem tok187 : tb187.all (fun q => okE mi187 q.1 q.2) = true := by decide +kernel
set_option maxRecDepth 100000 in
theorem tok188 : tb188.all (fun q => okE mi188 q.1 q.2) = true := by decide +kernel
set_option maxRecDepth 100000 in
theorem tok189 : tb189.all (fun q => okE mi189 q.1 q.2) = true := by decide +kernel
set_option maxRecDepth 100000 in
theorem tok190 : tb190.all (fun q => okE mi190 q.1 q.2) = true := by decide +kernel
set_option maxRecDepth 100000 in
theorem tok191 : tb191.all (fun q => okE mi191 q.1 q.2) = true := by decide +kernel
set_option maxRecDepth 100000 in
theorem tok192 : tb192.all (fun q => okE mi192 q.1 q.2) = true := by decide +kernel
set_option maxRecDepth 100000 in
theorem tok193 : tb193.all (fun q => okE mi193 q.1 q.2) = true := by decide +kernel
set_option maxRecDepth 100000 in
theorem tok194 : tb194.all (fun q => okE mi194 q.1 q.2) = true := by decide +kernel
set_option maxRecDepth 100000 in
theorem tok195 : tb195.all (fun q => okE mi195 q.1 q.2) = true := by decide +kernel
set_option maxRecDepth 100000 in
theorem tok196 : tb196.all (fun q => okE mi196 q.1 q.2) = true := by decide +kernel
set_option maxRecDepth 100000 in
theorem tok197_0 : tb197_0.all (fun q => okE mi197 q.1 q.2) = true := by decide +kernel
set_option maxRecDepth 100000 in
theorem tok197_1 : tb197_1.all (fun q => okE mi197 q.1 q.2) = true := by decide +kernel
theorem tok197 : tb197.all (fun q => okE mi197 q.1 q.2) = true := by simp only [tb197, List.all_append, tok197_0, tok197_1, Bool.and_true, Bool.and_self]
set_option maxRecDepth 100000 in
theorem tok198 : tb198.all (fun q => okE mi198 q.1 q.2) = true := by decide +kernel
set_option maxRecDepth 100000 in
theorem tok199 : tb199.all (fun q => okE mi199 q.1 q.2) = true := by decide +kernel
set_option maxRecDepth 100000 in
theorem tok200 : tb200.all (fun q => okE mi200 q.1 q.2) = true := by decide +kernel
set_option maxRecDepth 100000 in
theorem tok201 : tb201.all (fun q => okE mi201 q.1 q.2) = true := by decide +kernel
set_option maxRecDepth 100000 in
theorem tok202 : tb202.all (fun q => okE mi202 q.1 q.2) = true := by decide +kernel
set_option maxRecDepth 100000 in
theorem tok203 : tb203.all (fun q => okE mi203 q.1 q.2) = true := by decide +kernel
set_option maxRecDepth 100000 in
theorem tok204 : tb204.all (fun q => okE mi204 q.1 q.2) = true := by decide +kernel
set_option maxRecDepth 100000 in
theorem tok205 : tb205.all (fun q => okE mi205 q.1 q.2) = true := by decide +kernel
set_option maxRecDepth 100000 in
theorem tok206 : tb206.all (fun q => okE mi206 q.1 q.2) = true := by decide +kernel
set_option maxRecDepth 100000 in
theorem tok207 : tb207.all (fun q => okE mi207 q.1 q.2) = true := by decide +kernel
set_option maxRecDepth 100000 in
theorem tok208 : tb208.all (fun q => okE mi208 q.1 q.2) = true := by decide +kernel
set_option maxRecDepth 100000 in
theorem tok209_0 : tb209_0.all (fun q => okE mi209 q.1 q.2) = true := by decide +kernel
set_option maxRecDepth 100000 in
theorem tok209_1 : tb209_1.all (fun q => okE mi209 q.1 q.2) = true := by decide +kernel
theorem tok209 : tb209.all (fun q => okE mi209 q.1 q.2) = true := by simp only [tb209, List.all_append, tok209_0, tok209_1, Bool.and_true, Bool.and_self]
set_option maxRecDepth 100000 in
theorem tok210 : tb210.all (fun q => okE mi210 q.1 q.2) = true := by decide +kernel
