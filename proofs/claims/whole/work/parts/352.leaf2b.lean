-- checked by the kernel, a set of nodes a row
set_option maxRecDepth 100000 in
theorem l2_14_2 : [0, 1, 16, 17].all (fun G => allF 5 14 (p2 5 14 2 G) 5 0 (fun _ => 0)) = true := by decide +kernel
set_option maxRecDepth 100000 in
theorem l2_14_3 : [0, 1, 16, 17].all (fun G => allF 5 14 (p2 5 14 3 G) 5 0 (fun _ => 0)) = true := by decide +kernel
set_option maxRecDepth 100000 in
theorem l2_15_0 : [0, 16].all (fun G => allF 5 15 (p2 5 15 0 G) 5 0 (fun _ => 0)) = true := by decide +kernel
set_option maxRecDepth 100000 in
theorem l2_15_1 : [0, 16].all (fun G => allF 5 15 (p2 5 15 1 G) 5 0 (fun _ => 0)) = true := by decide +kernel
set_option maxRecDepth 100000 in
theorem l2_15_2 : [0, 16].all (fun G => allF 5 15 (p2 5 15 2 G) 5 0 (fun _ => 0)) = true := by decide +kernel
set_option maxRecDepth 100000 in
theorem l2_15_3 : [0, 16].all (fun G => allF 5 15 (p2 5 15 3 G) 5 0 (fun _ => 0)) = true := by decide +kernel
set_option maxRecDepth 100000 in
theorem l2_16_4 : [0, 1, 2, 3, 4, 5, 6, 7, 8, 9, 10, 11, 12, 13, 14, 15].all (fun G => allF 5 16 (p2 5 16 4 G) 5 0 (fun _ => 0)) = true := by decide +kernel
set_option maxRecDepth 100000 in
theorem l2_17_0 : [0, 2, 4, 6, 8, 10, 12, 14].all (fun G => allF 5 17 (p2 5 17 0 G) 5 0 (fun _ => 0)) = true := by decide +kernel
set_option maxRecDepth 100000 in
theorem l2_17_4 : [0, 2, 4, 6, 8, 10, 12, 14].all (fun G => allF 5 17 (p2 5 17 4 G) 5 0 (fun _ => 0)) = true := by decide +kernel
set_option maxRecDepth 100000 in
theorem l2_18_1 : [0, 1, 4, 5, 8, 9, 12, 13].all (fun G => allF 5 18 (p2 5 18 1 G) 5 0 (fun _ => 0)) = true := by decide +kernel
set_option maxRecDepth 100000 in
theorem l2_18_4 : [0, 1, 4, 5, 8, 9, 12, 13].all (fun G => allF 5 18 (p2 5 18 4 G) 5 0 (fun _ => 0)) = true := by decide +kernel
set_option maxRecDepth 100000 in
theorem l2_19_0 : [0, 4, 8, 12].all (fun G => allF 5 19 (p2 5 19 0 G) 5 0 (fun _ => 0)) = true := by decide +kernel
set_option maxRecDepth 100000 in
theorem l2_19_1 : [0, 4, 8, 12].all (fun G => allF 5 19 (p2 5 19 1 G) 5 0 (fun _ => 0)) = true := by decide +kernel
set_option maxRecDepth 100000 in
theorem l2_19_4 : [0, 4, 8, 12].all (fun G => allF 5 19 (p2 5 19 4 G) 5 0 (fun _ => 0)) = true := by decide +kernel
set_option maxRecDepth 100000 in
theorem l2_20_2 : [0, 1, 2, 3, 8, 9, 10, 11].all (fun G => allF 5 20 (p2 5 20 2 G) 5 0 (fun _ => 0)) = true := by decide +kernel
set_option maxRecDepth 100000 in
theorem l2_20_4 : [0, 1, 2, 3, 8, 9, 10, 11].all (fun G => allF 5 20 (p2 5 20 4 G) 5 0 (fun _ => 0)) = true := by decide +kernel
set_option maxRecDepth 100000 in
theorem l2_21_0 : [0, 2, 8, 10].all (fun G => allF 5 21 (p2 5 21 0 G) 5 0 (fun _ => 0)) = true := by decide +kernel
set_option maxRecDepth 100000 in
theorem l2_21_2 : [0, 2, 8, 10].all (fun G => allF 5 21 (p2 5 21 2 G) 5 0 (fun _ => 0)) = true := by decide +kernel
set_option maxRecDepth 100000 in
theorem l2_21_4 : [0, 2, 8, 10].all (fun G => allF 5 21 (p2 5 21 4 G) 5 0 (fun _ => 0)) = true := by decide +kernel
set_option maxRecDepth 100000 in
theorem l2_22_1 : [0, 1, 8, 9].all (fun G => allF 5 22 (p2 5 22 1 G) 5 0 (fun _ => 0)) = true := by decide +kernel
set_option maxRecDepth 100000 in
theorem l2_22_2 : [0, 1, 8, 9].all (fun G => allF 5 22 (p2 5 22 2 G) 5 0 (fun _ => 0)) = true := by decide +kernel
set_option maxRecDepth 100000 in
theorem l2_22_4 : [0, 1, 8, 9].all (fun G => allF 5 22 (p2 5 22 4 G) 5 0 (fun _ => 0)) = true := by decide +kernel
set_option maxRecDepth 100000 in
theorem l2_23_0 : [0, 8].all (fun G => allF 5 23 (p2 5 23 0 G) 5 0 (fun _ => 0)) = true := by decide +kernel
set_option maxRecDepth 100000 in
theorem l2_23_1 : [0, 8].all (fun G => allF 5 23 (p2 5 23 1 G) 5 0 (fun _ => 0)) = true := by decide +kernel
set_option maxRecDepth 100000 in
theorem l2_23_2 : [0, 8].all (fun G => allF 5 23 (p2 5 23 2 G) 5 0 (fun _ => 0)) = true := by decide +kernel
set_option maxRecDepth 100000 in
theorem l2_23_4 : [0, 8].all (fun G => allF 5 23 (p2 5 23 4 G) 5 0 (fun _ => 0)) = true := by decide +kernel
