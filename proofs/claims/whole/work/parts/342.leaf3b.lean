-- checked by the kernel, a set of nodes a row
set_option maxRecDepth 100000 in
theorem l3_14_2 : allF 5 14 (p3 5 14 2) 5 0 (fun _ => 0) = true := by decide +kernel
set_option maxRecDepth 100000 in
theorem l3_14_3 : allF 5 14 (p3 5 14 3) 5 0 (fun _ => 0) = true := by decide +kernel
set_option maxRecDepth 100000 in
theorem l3_15_0 : allF 5 15 (p3 5 15 0) 5 0 (fun _ => 0) = true := by decide +kernel
set_option maxRecDepth 100000 in
theorem l3_15_1 : allF 5 15 (p3 5 15 1) 5 0 (fun _ => 0) = true := by decide +kernel
set_option maxRecDepth 100000 in
theorem l3_15_2 : allF 5 15 (p3 5 15 2) 5 0 (fun _ => 0) = true := by decide +kernel
set_option maxRecDepth 100000 in
theorem l3_15_3 : allF 5 15 (p3 5 15 3) 5 0 (fun _ => 0) = true := by decide +kernel
set_option maxRecDepth 100000 in
theorem l3_16_4 : allF 5 16 (p3 5 16 4) 5 0 (fun _ => 0) = true := by decide +kernel
set_option maxRecDepth 100000 in
theorem l3_17_0 : allF 5 17 (p3 5 17 0) 5 0 (fun _ => 0) = true := by decide +kernel
set_option maxRecDepth 100000 in
theorem l3_17_4 : allF 5 17 (p3 5 17 4) 5 0 (fun _ => 0) = true := by decide +kernel
set_option maxRecDepth 100000 in
theorem l3_18_1 : allF 5 18 (p3 5 18 1) 5 0 (fun _ => 0) = true := by decide +kernel
set_option maxRecDepth 100000 in
theorem l3_18_4 : allF 5 18 (p3 5 18 4) 5 0 (fun _ => 0) = true := by decide +kernel
set_option maxRecDepth 100000 in
theorem l3_19_0 : allF 5 19 (p3 5 19 0) 5 0 (fun _ => 0) = true := by decide +kernel
set_option maxRecDepth 100000 in
theorem l3_19_1 : allF 5 19 (p3 5 19 1) 5 0 (fun _ => 0) = true := by decide +kernel
set_option maxRecDepth 100000 in
theorem l3_19_4 : allF 5 19 (p3 5 19 4) 5 0 (fun _ => 0) = true := by decide +kernel
set_option maxRecDepth 100000 in
theorem l3_20_2 : allF 5 20 (p3 5 20 2) 5 0 (fun _ => 0) = true := by decide +kernel
set_option maxRecDepth 100000 in
theorem l3_20_4 : allF 5 20 (p3 5 20 4) 5 0 (fun _ => 0) = true := by decide +kernel
set_option maxRecDepth 100000 in
theorem l3_21_0 : allF 5 21 (p3 5 21 0) 5 0 (fun _ => 0) = true := by decide +kernel
set_option maxRecDepth 100000 in
theorem l3_21_2 : allF 5 21 (p3 5 21 2) 5 0 (fun _ => 0) = true := by decide +kernel
set_option maxRecDepth 100000 in
theorem l3_21_4 : allF 5 21 (p3 5 21 4) 5 0 (fun _ => 0) = true := by decide +kernel
set_option maxRecDepth 100000 in
theorem l3_22_1 : allF 5 22 (p3 5 22 1) 5 0 (fun _ => 0) = true := by decide +kernel
set_option maxRecDepth 100000 in
theorem l3_22_2 : allF 5 22 (p3 5 22 2) 5 0 (fun _ => 0) = true := by decide +kernel
set_option maxRecDepth 100000 in
theorem l3_22_4 : allF 5 22 (p3 5 22 4) 5 0 (fun _ => 0) = true := by decide +kernel
set_option maxRecDepth 100000 in
theorem l3_23_0 : allF 5 23 (p3 5 23 0) 5 0 (fun _ => 0) = true := by decide +kernel
set_option maxRecDepth 100000 in
theorem l3_23_1 : allF 5 23 (p3 5 23 1) 5 0 (fun _ => 0) = true := by decide +kernel
set_option maxRecDepth 100000 in
theorem l3_23_2 : allF 5 23 (p3 5 23 2) 5 0 (fun _ => 0) = true := by decide +kernel
set_option maxRecDepth 100000 in
theorem l3_23_4 : allF 5 23 (p3 5 23 4) 5 0 (fun _ => 0) = true := by decide +kernel
