set_option maxRecDepth 100000 in
theorem tok110 : tb110.all (fun q => okE mi110 q.1 q.2) = true := by decide +kernel
set_option maxRecDepth 100000 in
theorem tok111 : tb111.all (fun q => okE mi111 q.1 q.2) = true := by decide +kernel
set_option maxRecDepth 100000 in
theorem tok112 : tb112.all (fun q => okE mi112 q.1 q.2) = true := by decide +kernel
set_option maxRecDepth 100000 in
theorem tok113 : tb113.all (fun q => okE mi113 q.1 q.2) = true := by decide +kernel
set_option maxRecDepth 100000 in
theorem tok114 : tb114.all (fun q => okE mi114 q.1 q.2) = true := by decide +kernel
set_option maxRecDepth 100000 in
theorem tok115 : tb115.all (fun q => okE mi115 q.1 q.2) = true := by decide +kernel
set_option maxRecDepth 100000 in
theorem tok116 : tb116.all (fun q => okE mi116 q.1 q.2) = true := by decide +kernel
set_option maxRecDepth 100000 in
theorem tok117 : tb117.all (fun q => okE mi117 q.1 q.2) = true := by decide +kernel
set_option maxRecDepth 100000 in
theorem tok118 : tb118.all (fun q => okE mi118 q.1 q.2) = true := by decide +kernel
set_option maxRecDepth 100000 in
theorem tok119 : tb119.all (fun q => okE mi119 q.1 q.2) = true := by decide +kernel
set_option maxRecDepth 100000 in
theorem tok120 : tb120.all (fun q => okE mi120 q.1 q.2) = true := by decide +kernel
set_option maxRecDepth 100000 in
theorem tok121 : tb121.all (fun q => okE mi121 q.1 q.2) = true := by decide +kernel
set_option maxRecDepth 100000 in
theorem tok122_0 : tb122_0.all (fun q => okE mi122 q.1 q.2) = true := by decide +kernel
set_option maxRecDepth 100000 in
theorem tok122_1 : tb122_1.all (fun q => okE mi122 q.1 q.2) = true := by decide +kernel
theorem tok122 : tb122.all (fun q => okE mi122 q.1 q.2) = true := by simp only [tb122, List.all_append, tok122_0, tok122_1, Bool.and_true, Bool.and_self]
set_option maxRecDepth 100000 in
theorem tok123 : tb123.all (fun q => okE mi123 q.1 q.2) = true := by decide +kernel
set_option maxRecDepth 100000 in
theorem tok124 : tb124.all (fun q => okE mi124 q.1 q.2) = true := by decide +kernel
set_option maxRecDepth 100000 in
theorem tok125 : tb125.all (fun q => okE mi125 q.1 q.2) = true := by decide +kernel
set_option maxRecDepth 100000 in
theorem tok126 : tb126.all (fun q => okE mi126 q.1 q.2) = true := by decide +kernel
set_option maxRecDepth 100000 in
theorem tok127 : tb127.all (fun q => okE mi127 q.1 q.2) = true := by decide +kernel
set_option maxRecDepth 100000 in
theorem tok128 : tb128.all (fun q => okE mi128 q.1 q.2) = true := by decide +kernel
set_option maxRecDepth 100000 in
theorem tok129 : tb129.all (fun q => okE mi129 q.1 q.2) = true := by decide +kernel
set_option maxRecDepth 100000 in
theorem tok130 : tb130.all (fun q => okE mi130 q.1 q.2) = true := by decide +kernel
set_option maxRecDepth 100000 in
theorem tok131 : tb131.all (fun q => okE mi131 q.1 q.2) = true := by decide +kernel
set_option maxRecDepth 100000 in
theorem tok132 : tb132.all (fun q => okE mi132 q.1 q.2) = true := by decide +kernel
set_option maxRecDepth 100000 in
theorem tok133_0 : tb133_0.all (fun q => okE mi133 q.1 q.2) = true := by decide +kernel
set_option maxRecDepth 100000 in
theorem tok133_1 : tb133_1.all (fun q => okE mi133 q.1 q.2) = true := by decide +kernel
theorem tok133 : tb133.all (fun q => okE mi133 q.1 q.2) = true := by simp only [tb133, List.all_append, tok133_0, tok133_1, Bool.and_true, Bool.and_self]
set_option maxRecDepth 100000 in
theorem tok134 : tb134.all (fun q => okE mi134 q.1 q.2) = true := by decide +kernel
set_option maxRecDepth 100000 in
theorem tok135 : tb135.all (fun q => okE mi135 q.1 q.2) = true := by decide +kernel
set_option maxRecDepth 100000 in
theorem tok136 : tb136.all (fun q => okE mi136 q.1 q.2) = true := by decide +kernel
set_option maxRecDepth 100000 in
theorem tok137 : tb137.all (fun q => okE mi137 q.1 q.2) = true := by decide +kernel
set_option maxRecDepth 100000 in
theorem tok138 : tb138.all (fun q => okE mi138 q.1 q.2) = true := by decide +kernel
set_option maxRecDepth 100000 in
theorem tok139 : tb139.all (fun q => okE mi139 q.1 q.2) = true := by decide +kernel
set_option maxRecDepth 100000 in
theorem tok140 : tb140.all (fun q => okE mi140 q.1 q.2) = true := by decide +kernel
set_option maxRecDepth 100000 in
theorem tok141 : tb141.all (fun q => okE mi141 q.1 q.2) = true := by decide +kernel
set_option maxRecDepth 100000 in
theorem tok142 : tb142.all (fun q => okE mi142 q.1 q.2) = true := by decide +kernel
set_option maxRecDepth 100000 in
theorem tok143 : tb143.all (fun q => okE mi143 q.1 q.2) = true := by decide +kernel
set_option maxRecDepth 100000 in
theorem tok144 : tb144.all (fun q => okE mi144 q.1 q.2) = true := by decide +kernel
set_option maxRecDepth 100000 in
theorem tok145 : tb145.all (fun q => okE mi145 q.1 q.2) = true := by decide +kernel
set_option maxRecDepth 100000 in
theorem tok146 : tb146.all (fun q => okE mi146 q.1 q.2) = true := by decide +kernel
set_option maxRecDepth 100000 in
theorem tok147 : tb147.all (fun q => okE mi147 q.1 q.2) = true := by decide +kernel
set_option maxRecDepth 100000 in
theorem tok148 : tb148.all (fun q => okE mi148 q.1 q.2) = true := by decide +kernel
set_option maxRecDepth 100000 in
theorem tok149 : tb149.all (fun q => okE mi149 q.1 q.2) = true := by decide +kernel
set_option maxRecDepth 100000 in
theorem tok150 : tb150.all (fun q => okE mi150 q.1 q.2) = true := by decide +kernel
set_option maxRecDepth 100000 in
theorem tok151 : tb151.all (fun q => okE mi151 q.1 q.2) = true := by decide +kernel
set_option maxRecDepth 100000 in
theorem tok152 : tb152.all (fun q => okE mi152 q.1 q.2) = true := by decide +kernel
set_option maxRecDepth 100000 in
theorem tok153 : tb153.all (fun q => okE mi153 q.1 q.2) = true := by decide +kernel
set_option maxRecDepth 100000 in
theorem tok154 : tb154.all (fun q => okE mi154 q.1 q.2) = true := by decide +kernel
set_option maxRecDepth 100000 in
theorem tok155 : tb155.all (fun q => okE mi155 q.1 q.2) = true := by decide +kernel
set_option maxRecDepth 100000 in
theorem tok156 : tb156.all (fun q => okE mi156 q.1 q.2) = true := by decide +kernel
set_option maxRecDepth 100000 in
theorem tok157 : tb157.all (fun q => okE mi157 q.1 q.2) = true := by decide +kernel
set_option maxRecDepth 100000 in
theorem tok158 : tb158.all (fun q => okE mi158 q.1 q.2) = true := by decide +kernel
set_option maxRecDepth 100000 in
theorem tok159 : tb159.all (fun q => okE mi159 q.1 q.2) = true := by decide +kernel
set_option maxRecDepth 100000 in
theorem tok160 : tb160.all (fun q => okE mi160 q.1 q.2) = true := by decide +kernel
set_option maxRecDepth 100000 in
theorem tok161 : tb161.all (fun q => okE mi161 q.1 q.2) = true := by decide +kernel
set_option maxRecDepth 100000 in
theorem tok162 : tb162.all (fun q => okE mi162 q.1 q.2) = true := by decide +kernel
set_option maxRecDepth 100000 in
theorem tok163 : tb163.all (fun q => okE mi163 q.1 q.2) = true := by decide +kernel
set_option maxRecDepth 100000 in
theorem tok164 : tb164.all (fun q => okE mi164 q.1 q.2) = true := by decide +kernel
set_option maxRecDepth 100000 in
theorem tok165 : tb165.all (fun q => okE mi165 q.1 q.2) = true := by decide +kernel
set_option maxRecDepth 100000 in
theorem tok166 : tb166.all (fun q => okE mi166 q.1 q.2) = true := by decide +kernel
set_option maxRecDepth 100000 in
theorem tok167 : tb167.all (fun q => okE mi167 q.1 q.2) = true := by decide +kernel
set_option maxRecDepth 100000 in
theorem tok168 : tb168.all (fun q => okE mi168 q.1 q.2) = true := by decide +kernel
set_option maxRecDepth 100000 in
theorem tok169 : tb169.all (fun q => okE mi169 q.1 q.2) = true := by decide +kernel
set_option maxRecDepth 100000 in
theorem tok170 : tb170.all (fun q => okE mi170 q.1 q.2) = true := by decide +kernel
set_option maxRecDepth 100000 in
theorem tok171 : tb171.all (fun q => okE mi171 q.1 q.2) = true := by decide +kernel
set_option maxRecDepth 100000 in
theorem tok172 : tb172.all (fun q => okE mi172 q.1 q.2) = true := by decide +kernel
set_option maxRecDepth 100000 in
theorem tok173 : tb173.all (fun q => okE mi173 q.1 q.2) = true := by decide +kernel
set_option maxRecDepth 100000 in
theorem tok174 : tb174.all (fun q => okE mi174 q.1 q.2) = true := by decide +kernel
set_option maxRecDepth 100000 in
theorem tok175 : tb175.all (fun q => okE mi175 q.1 q.2) = true := by decide +kernel
set_option maxRecDepth 100000 in
theorem tok176 : tb176.all (fun q => okE mi176 q.1 q.2) = true := by decide +kernel
set_option maxRecDepth 100000 in
theorem tok177 : tb177.all (fun q => okE mi177 q.1 q.2) = true := by decide +kernel
set_option maxRecDepth 100000 in
theorem tok178 : tb178.all (fun q => okE mi178 q.1 q.2) = true := by decide +kernel
set_option maxRecDepth 100000 in
theorem tok179 : tb179.all (fun q => okE mi179 q.1 q.2) = true := by decide +kernel
set_option maxRecDepth 100000 in
theorem tok180 : tb180.all (fun q => okE mi180 q.1 q.2) = true := by decide +kernel
set_option maxRecDepth 100000 in
theorem tok181 : tb181.all (fun q => okE mi181 q.1 q.2) = true := by decide +kernel
set_option maxRecDepth 100000 in
theorem tok182 : tb182.all (fun q => okE mi182 q.1 q.2) = true := by decide +kernel
set_option maxRecDepth 100000 in
theorem tok183 : tb183.all (fun q => okE mi183 q.1 q.2) = true := by decide +kernel
set_option maxRecDepth 100000 in
theorem tok184 : tb184.all (fun q => okE mi184 q.1 q.2) = true := by decide +kernel
set_option maxRecDepth 100000 in
theorem tok185 : tb185.all (fun q => okE mi185 q.1 q.2) = true := by decide +kernel
set_option maxRecDepth 100000 in
theorem tok186 : tb186.all (fun q => okE mi186 q.1 q.2) = true := by decide +kernel
set_option maxRecDepth 100000 in
theorem tok187 : tb187.all (fun q => okE mi187 q.1 q.2) = true := by decide +kernel
set_option maxRecDepth 100000 in
theorem tok188 : tb188.all (fun q => okE mi188 q.1 q.2) = true := by decide +kernel
set_option maxRecDepth 100000 in
theorem tok189 : tb189.all (fun q => okE mi189 q.1 q.2) = true := by decide +kernel
set_option maxRecDepth 100000 in
theorem tok190 : tb190.all (fun q => okE mi190 q.1 q.2) = true := by decide +kernel
set_option maxRecDepth 100000 in
theorem tok191 : tb191.all (fun q => okE mi191 q.1 q.2) = true := by decide +kernel
set_option maxRecDepth 100000 in
theorem tok192 : tb192.all (fun q => okE mi192 q.1 q.2) = true := by decide +kernel
set_option maxRecDepth 100000 in
theorem tok193 : tb193.all (fun q => okE mi193 q.1 q.2) = true := by decide +kernel
set_option maxRecDepth 100000 in
theorem tok194 : tb194.all (fun q => okE mi194 q.1 q.2) = true := by decide +kernel
set_option maxRecDepth 100000 in
theorem tok195 : tb195.all (fun q => okE mi195 q.1 q.2) = true := by decide +kernel
set_option maxRecDepth 100000 in
theorem tok196 : tb196.all (fun q => okE mi196 q.1 q.2) = true := by decide +kernel
set_option maxRecDepth 100000 in
theorem tok197 : tb197.all (fun q => okE mi197 q.1 q.2) = true := by decide +kernel
set_option maxRecDepth 100000 in
theorem tok198 : tb198.all (fun q => okE mi198 q.1 q.2) = true := by decide +kernel
set_option maxRecDepth 100000 in
theorem tok199 : tb199.all (fun q => okE mi199 q.1 q.2) = true := by decide +kernel
set_option maxRecDepth 100000 in
theorem tok200 : tb200.all (fun q => okE mi200 q.1 q.2) = true := by decide +kernel
set_option maxRecDepth 100000 in
theorem tok201 : tb201.all (fun q => okE mi201 q.1 q.2) = true := by decide +kernel
set_option maxRecDepth 100000 in
theorem tok202 : tb202.all (fun q => okE mi202 q.1 q.2) = true := by decide +kernel
set_option maxRecDepth 100000 in
theorem tok203 : tb203.all (fun q => okE mi203 q.1 q.2) = true := by decide +kernel
set_option maxRecDepth 100000 in
theorem tok204 : tb204.all (fun q => okE mi204 q.1 q.2) = true := by decide +kernel
set_option maxRecDepth 100000 in
theorem tok205 : tb205.all (fun q => okE mi205 q.1 q.2) = true := by decide +kernel
set_option maxRecDepth 100000 in
theorem tok206 : tb206.all (fun q => okE mi206 q.1 q.2) = true := by decide +kernel
set_option maxRecDepth 100000 in
theorem tok207 : tb207.all (fun q => okE mi207 q.1 q.2) = true := by decide +kernel
set_option maxRecDepth 100000 in
theorem tok208 : tb208.all (fun q => okE mi208 q.1 q.2) = true := by decide +kernel
set_option maxRecDepth 100000 in
theorem tok209 : tb209.all (fun q => okE mi209 q.1 q.2) = true := by decide +kernel
set_option maxRecDepth 100000 in
theorem tok210 : tb210.all (fun q => okE mi210 q.1 q.2) = true := by decide +kernel
set_option maxRecDepth 100000 in
theorem tok211 : tb211.all (fun q => okE mi211 q.1 q.2) = true := by decide +kernel
set_option maxRecDepth 100000 in
theorem tok212 : tb212.all (fun q => okE mi212 q.1 q.2) = true := by decide +kernel
set_option maxRecDepth 100000 in
theorem tok213 : tb213.all (fun q => okE mi213 q.1 q.2) = true := by decide +kernel
set_option maxRecDepth 100000 in
theorem tok214_0 : tb214_0.all (fun q => okE mi214 q.1 q.2) = true := by decide +kernel
set_option maxRecDepth 100000 in
theorem tok214_1 : tb214_1.all (fun q => okE mi214 q.1 q.2) = true := by decide +kernel
set_option maxRecDepth 100000 in
theorem tok214_2 : tb214_2.all (fun q => okE mi214 q.1 q.2) = true := by decide +kernel
set_option maxRecDepth 100000 in
theorem tok214_3 : tb214_3.all (fun q => okE mi214 q.1 q.2) = true := by decide +kernel
set_option maxRecDepth 100000 in
theorem tok214_4 : tb214_4.all (fun q => okE mi214 q.1 q.2) = true := by decide +kernel
set_option maxRecDepth 100000 in
theorem tok214_5 : tb214_5.all (fun q => okE mi214 q.1 q.2) = true := by decide +kernel
set_option maxRecDepth 100000 in
theorem tok214_6 : tb214_6.all (fun q => okE mi214 q.1 q.2) = true := by decide +kernel
set_option maxRecDepth 100000 in
theorem tok214_7 : tb214_7.all (fun q => okE mi214 q.1 q.2) = true := by decide +kernel
set_option maxRecDepth 100000 in
theorem tok214_8 : tb214_8.all (fun q => okE mi214 q.1 q.2) = true := by decide +kernel
set_option maxRecDepth 100000 in
theorem tok214_9 : tb214_9.all (fun q => okE mi214 q.1 q.2) = true := by decide +kernel
theorem tok214 : tb214.all (fun q => okE mi214 q.1 q.2) = true := by simp only [tb214, List.all_append, tok214_0, tok214_1, tok214_2, tok214_3, tok214_4, tok214_5, tok214_6, tok214_7, tok214_8, tok214_9, Bool.and_true, Bool.and_self]
