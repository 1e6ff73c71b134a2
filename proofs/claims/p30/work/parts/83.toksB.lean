set_option maxRecDepth 100000 in
theorem tok211 : tb211.all (fun q => okE mi211 q.1 q.2) = true := by decide +kernel
set_option maxRecDepth 100000 in
theorem tok212_0 : tb212_0.all (fun q => okE mi212 q.1 q.2) = true := by decide +kernel
set_option maxRecDepth 100000 in
theorem tok212_1 : tb212_1.all (fun q => okE mi212 q.1 q.2) = true := by decide +kernel
set_option maxRecDepth 100000 in
theorem tok212_2 : tb212_2.all (fun q => okE mi212 q.1 q.2) = true := by decide +kernel
set_option maxRecDepth 100000 in
theorem tok212_3 : tb212_3.all (fun q => okE mi212 q.1 q.2) = true := by decide +kernel
theorem tok212 : tb212.all (fun q => okE mi212 q.1 q.2) = true := by simp only [tb212, List.all_append, tok212_0, tok212_1, tok212_2, tok212_3, Bool.and_true, Bool.and_self]
set_option maxRecDepth 100000 in
theorem tok213_0 : tb213_0.all (fun q => okE mi213 q.1 q.2) = true := by decide +kernel
set_option maxRecDepth 100000 in
theorem tok213_1 : tb213_1.all (fun q => okE mi213 q.1 q.2) = true := by decide +kernel
set_option maxRecDepth 100000 in
theorem tok213_2 : tb213_2.all (fun q => okE mi213 q.1 q.2) = true := by decide +kernel
set_option maxRecDepth 100000 in
theorem tok213_3 : tb213_3.all (fun q => okE mi213 q.1 q.2) = true := by decide +kernel
set_option maxRecDepth 100000 in
theorem tok213_4 : tb213_4.all (fun q => okE mi213 q.1 q.2) = true := by decide +kernel
theorem tok213 : tb213.all (fun q => okE mi213 q.1 q.2) = true := by simp only [tb213, List.all_append, tok213_0, tok213_1, tok213_2, tok213_3, tok213_4, Bool.and_true, Bool.and_self]
set_option maxRecDepth 100000 in
theorem tok214_0 : tb214_0.all (fun q => okE mi214 q.1 q.2) = true := by decide +kernel
set_option maxRecDepth 100000 in
theorem tok214_1 : tb214_1.all (fun q => okE mi214 q.1 q.2) = true := by decide +kernel
theorem tok214 : tb214.all (fun q => okE mi214 q.1 q.2) = true := by simp only [tb214, List.all_append, tok214_0, tok214_1, Bool.and_true, Bool.and_self]
