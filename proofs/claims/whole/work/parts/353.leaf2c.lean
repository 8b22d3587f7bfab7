-- checked by the kernel, a set of nodes a row
set_option maxRecDepth 100000 in
theorem l2_24_3 : [0, 1, 2, 3, 4, 5, 6, 7].all (fun G => allF 5 24 (p2 5 24 3 G) 5 0 (fun _ => 0)) = true := by decide +kernel
set_option maxRecDepth 100000 in
theorem l2_24_4 : [0, 1, 2, 3, 4, 5, 6, 7].all (fun G => allF 5 24 (p2 5 24 4 G) 5 0 (fun _ => 0)) = true := by decide +kernel
set_option maxRecDepth 100000 in
theorem l2_25_0 : [0, 2, 4, 6].all (fun G => allF 5 25 (p2 5 25 0 G) 5 0 (fun _ => 0)) = true := by decide +kernel
set_option maxRecDepth 100000 in
theorem l2_25_3 : [0, 2, 4, 6].all (fun G => allF 5 25 (p2 5 25 3 G) 5 0 (fun _ => 0)) = true := by decide +kernel
set_option maxRecDepth 100000 in
theorem l2_25_4 : [0, 2, 4, 6].all (fun G => allF 5 25 (p2 5 25 4 G) 5 0 (fun _ => 0)) = true := by decide +kernel
set_option maxRecDepth 100000 in
theorem l2_26_1 : [0, 1, 4, 5].all (fun G => allF 5 26 (p2 5 26 1 G) 5 0 (fun _ => 0)) = true := by decide +kernel
set_option maxRecDepth 100000 in
theorem l2_26_3 : [0, 1, 4, 5].all (fun G => allF 5 26 (p2 5 26 3 G) 5 0 (fun _ => 0)) = true := by decide +kernel
set_option maxRecDepth 100000 in
theorem l2_26_4 : [0, 1, 4, 5].all (fun G => allF 5 26 (p2 5 26 4 G) 5 0 (fun _ => 0)) = true := by decide +kernel
set_option maxRecDepth 100000 in
theorem l2_27_0 : [0, 4].all (fun G => allF 5 27 (p2 5 27 0 G) 5 0 (fun _ => 0)) = true := by decide +kernel
set_option maxRecDepth 100000 in
theorem l2_27_1 : [0, 4].all (fun G => allF 5 27 (p2 5 27 1 G) 5 0 (fun _ => 0)) = true := by decide +kernel
set_option maxRecDepth 100000 in
theorem l2_27_3 : [0, 4].all (fun G => allF 5 27 (p2 5 27 3 G) 5 0 (fun _ => 0)) = true := by decide +kernel
set_option maxRecDepth 100000 in
theorem l2_27_4 : [0, 4].all (fun G => allF 5 27 (p2 5 27 4 G) 5 0 (fun _ => 0)) = true := by decide +kernel
set_option maxRecDepth 100000 in
theorem l2_28_2 : [0, 1, 2, 3].all (fun G => allF 5 28 (p2 5 28 2 G) 5 0 (fun _ => 0)) = true := by decide +kernel
set_option maxRecDepth 100000 in
theorem l2_28_3 : [0, 1, 2, 3].all (fun G => allF 5 28 (p2 5 28 3 G) 5 0 (fun _ => 0)) = true := by decide +kernel
set_option maxRecDepth 100000 in
theorem l2_28_4 : [0, 1, 2, 3].all (fun G => allF 5 28 (p2 5 28 4 G) 5 0 (fun _ => 0)) = true := by decide +kernel
set_option maxRecDepth 100000 in
theorem l2_29_0 : [0, 2].all (fun G => allF 5 29 (p2 5 29 0 G) 5 0 (fun _ => 0)) = true := by decide +kernel
set_option maxRecDepth 100000 in
theorem l2_29_2 : [0, 2].all (fun G => allF 5 29 (p2 5 29 2 G) 5 0 (fun _ => 0)) = true := by decide +kernel
set_option maxRecDepth 100000 in
theorem l2_29_3 : [0, 2].all (fun G => allF 5 29 (p2 5 29 3 G) 5 0 (fun _ => 0)) = true := by decide +kernel
set_option maxRecDepth 100000 in
theorem l2_29_4 : [0, 2].all (fun G => allF 5 29 (p2 5 29 4 G) 5 0 (fun _ => 0)) = true := by decide +kernel
set_option maxRecDepth 100000 in
theorem l2_30_1 : [0, 1].all (fun G => allF 5 30 (p2 5 30 1 G) 5 0 (fun _ => 0)) = true := by decide +kernel
set_option maxRecDepth 100000 in
theorem l2_30_2 : [0, 1].all (fun G => allF 5 30 (p2 5 30 2 G) 5 0 (fun _ => 0)) = true := by decide +kernel
set_option maxRecDepth 100000 in
theorem l2_30_3 : [0, 1].all (fun G => allF 5 30 (p2 5 30 3 G) 5 0 (fun _ => 0)) = true := by decide +kernel
set_option maxRecDepth 100000 in
theorem l2_30_4 : [0, 1].all (fun G => allF 5 30 (p2 5 30 4 G) 5 0 (fun _ => 0)) = true := by decide +kernel
