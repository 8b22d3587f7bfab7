-- checked by the kernel, a set of nodes a row
set_option maxRecDepth 100000 in
theorem l2_1_0 : [0, 2, 4, 6, 8, 10, 12, 14, 16, 18, 20, 22, 24, 26, 28, 30].all (fun G => allF 5 1 (p2 5 1 0 G) 5 0 (fun _ => 0)) = true := by decide +kernel
set_option maxRecDepth 100000 in
theorem l2_2_1 : [0, 1, 4, 5, 8, 9, 12, 13, 16, 17, 20, 21, 24, 25, 28, 29].all (fun G => allF 5 2 (p2 5 2 1 G) 5 0 (fun _ => 0)) = true := by decide +kernel
set_option maxRecDepth 100000 in
theorem l2_3_0 : [0, 4, 8, 12, 16, 20, 24, 28].all (fun G => allF 5 3 (p2 5 3 0 G) 5 0 (fun _ => 0)) = true := by decide +kernel
set_option maxRecDepth 100000 in
theorem l2_3_1 : [0, 4, 8, 12, 16, 20, 24, 28].all (fun G => allF 5 3 (p2 5 3 1 G) 5 0 (fun _ => 0)) = true := by decide +kernel
set_option maxRecDepth 100000 in
theorem l2_4_2 : [0, 1, 2, 3, 8, 9, 10, 11, 16, 17, 18, 19, 24, 25, 26, 27].all (fun G => allF 5 4 (p2 5 4 2 G) 5 0 (fun _ => 0)) = true := by decide +kernel
set_option maxRecDepth 100000 in
theorem l2_5_0 : [0, 2, 8, 10, 16, 18, 24, 26].all (fun G => allF 5 5 (p2 5 5 0 G) 5 0 (fun _ => 0)) = true := by decide +kernel
set_option maxRecDepth 100000 in
theorem l2_5_2 : [0, 2, 8, 10, 16, 18, 24, 26].all (fun G => allF 5 5 (p2 5 5 2 G) 5 0 (fun _ => 0)) = true := by decide +kernel
set_option maxRecDepth 100000 in
theorem l2_6_1 : [0, 1, 8, 9, 16, 17, 24, 25].all (fun G => allF 5 6 (p2 5 6 1 G) 5 0 (fun _ => 0)) = true := by decide +kernel
set_option maxRecDepth 100000 in
theorem l2_6_2 : [0, 1, 8, 9, 16, 17, 24, 25].all (fun G => allF 5 6 (p2 5 6 2 G) 5 0 (fun _ => 0)) = true := by decide +kernel
set_option maxRecDepth 100000 in
theorem l2_7_0 : [0, 8, 16, 24].all (fun G => allF 5 7 (p2 5 7 0 G) 5 0 (fun _ => 0)) = true := by decide +kernel
set_option maxRecDepth 100000 in
theorem l2_7_1 : [0, 8, 16, 24].all (fun G => allF 5 7 (p2 5 7 1 G) 5 0 (fun _ => 0)) = true := by decide +kernel
set_option maxRecDepth 100000 in
theorem l2_7_2 : [0, 8, 16, 24].all (fun G => allF 5 7 (p2 5 7 2 G) 5 0 (fun _ => 0)) = true := by decide +kernel
set_option maxRecDepth 100000 in
theorem l2_8_3 : [0, 1, 2, 3, 4, 5, 6, 7, 16, 17, 18, 19, 20, 21, 22, 23].all (fun G => allF 5 8 (p2 5 8 3 G) 5 0 (fun _ => 0)) = true := by decide +kernel
set_option maxRecDepth 100000 in
theorem l2_9_0 : [0, 2, 4, 6, 16, 18, 20, 22].all (fun G => allF 5 9 (p2 5 9 0 G) 5 0 (fun _ => 0)) = true := by decide +kernel
set_option maxRecDepth 100000 in
theorem l2_9_3 : [0, 2, 4, 6, 16, 18, 20, 22].all (fun G => allF 5 9 (p2 5 9 3 G) 5 0 (fun _ => 0)) = true := by decide +kernel
set_option maxRecDepth 100000 in
theorem l2_10_1 : [0, 1, 4, 5, 16, 17, 20, 21].all (fun G => allF 5 10 (p2 5 10 1 G) 5 0 (fun _ => 0)) = true := by decide +kernel
set_option maxRecDepth 100000 in
theorem l2_10_3 : [0, 1, 4, 5, 16, 17, 20, 21].all (fun G => allF 5 10 (p2 5 10 3 G) 5 0 (fun _ => 0)) = true := by decide +kernel
set_option maxRecDepth 100000 in
theorem l2_11_0 : [0, 4, 16, 20].all (fun G => allF 5 11 (p2 5 11 0 G) 5 0 (fun _ => 0)) = true := by decide +kernel
set_option maxRecDepth 100000 in
theorem l2_11_1 : [0, 4, 16, 20].all (fun G => allF 5 11 (p2 5 11 1 G) 5 0 (fun _ => 0)) = true := by decide +kernel
set_option maxRecDepth 100000 in
theorem l2_11_3 : [0, 4, 16, 20].all (fun G => allF 5 11 (p2 5 11 3 G) 5 0 (fun _ => 0)) = true := by decide +kernel
set_option maxRecDepth 100000 in
theorem l2_12_2 : [0, 1, 2, 3, 16, 17, 18, 19].all (fun G => allF 5 12 (p2 5 12 2 G) 5 0 (fun _ => 0)) = true := by decide +kernel
set_option maxRecDepth 100000 in
theorem l2_12_3 : [0, 1, 2, 3, 16, 17, 18, 19].all (fun G => allF 5 12 (p2 5 12 3 G) 5 0 (fun _ => 0)) = true := by decide +kernel
set_option maxRecDepth 100000 in
theorem l2_13_0 : [0, 2, 16, 18].all (fun G => allF 5 13 (p2 5 13 0 G) 5 0 (fun _ => 0)) = true := by decide +kernel
set_option maxRecDepth 100000 in
theorem l2_13_2 : [0, 2, 16, 18].all (fun G => allF 5 13 (p2 5 13 2 G) 5 0 (fun _ => 0)) = true := by decide +kernel
set_option maxRecDepth 100000 in
theorem l2_13_3 : [0, 2, 16, 18].all (fun G => allF 5 13 (p2 5 13 3 G) 5 0 (fun _ => 0)) = true := by decide +kernel
set_option maxRecDepth 100000 in
theorem l2_14_1 : [0, 1, 16, 17].all (fun G => allF 5 14 (p2 5 14 1 G) 5 0 (fun _ => 0)) = true := by decide +kernel
