-- checked by the kernel, a set of nodes a row
set_option maxRecDepth 100000 in
theorem l3_1_0 : allF 5 1 (p3 5 1 0) 5 0 (fun _ => 0) = true := by decide +kernel
set_option maxRecDepth 100000 in
theorem l3_2_1 : allF 5 2 (p3 5 2 1) 5 0 (fun _ => 0) = true := by decide +kernel
set_option maxRecDepth 100000 in
theorem l3_3_0 : allF 5 3 (p3 5 3 0) 5 0 (fun _ => 0) = true := by decide +kernel
set_option maxRecDepth 100000 in
theorem l3_3_1 : allF 5 3 (p3 5 3 1) 5 0 (fun _ => 0) = true := by decide +kernel
set_option maxRecDepth 100000 in
theorem l3_4_2 : allF 5 4 (p3 5 4 2) 5 0 (fun _ => 0) = true := by decide +kernel
set_option maxRecDepth 100000 in
theorem l3_5_0 : allF 5 5 (p3 5 5 0) 5 0 (fun _ => 0) = true := by decide +kernel
set_option maxRecDepth 100000 in
theorem l3_5_2 : allF 5 5 (p3 5 5 2) 5 0 (fun _ => 0) = true := by decide +kernel
set_option maxRecDepth 100000 in
theorem l3_6_1 : allF 5 6 (p3 5 6 1) 5 0 (fun _ => 0) = true := by decide +kernel
set_option maxRecDepth 100000 in
theorem l3_6_2 : allF 5 6 (p3 5 6 2) 5 0 (fun _ => 0) = true := by decide +kernel
set_option maxRecDepth 100000 in
theorem l3_7_0 : allF 5 7 (p3 5 7 0) 5 0 (fun _ => 0) = true := by decide +kernel
set_option maxRecDepth 100000 in
theorem l3_7_1 : allF 5 7 (p3 5 7 1) 5 0 (fun _ => 0) = true := by decide +kernel
set_option maxRecDepth 100000 in
theorem l3_7_2 : allF 5 7 (p3 5 7 2) 5 0 (fun _ => 0) = true := by decide +kernel
set_option maxRecDepth 100000 in
theorem l3_8_3 : allF 5 8 (p3 5 8 3) 5 0 (fun _ => 0) = true := by decide +kernel
set_option maxRecDepth 100000 in
theorem l3_9_0 : allF 5 9 (p3 5 9 0) 5 0 (fun _ => 0) = true := by decide +kernel
set_option maxRecDepth 100000 in
theorem l3_9_3 : allF 5 9 (p3 5 9 3) 5 0 (fun _ => 0) = true := by decide +kernel
set_option maxRecDepth 100000 in
theorem l3_10_1 : allF 5 10 (p3 5 10 1) 5 0 (fun _ => 0) = true := by decide +kernel
set_option maxRecDepth 100000 in
theorem l3_10_3 : allF 5 10 (p3 5 10 3) 5 0 (fun _ => 0) = true := by decide +kernel
set_option maxRecDepth 100000 in
theorem l3_11_0 : allF 5 11 (p3 5 11 0) 5 0 (fun _ => 0) = true := by decide +kernel
set_option maxRecDepth 100000 in
theorem l3_11_1 : allF 5 11 (p3 5 11 1) 5 0 (fun _ => 0) = true := by decide +kernel
set_option maxRecDepth 100000 in
theorem l3_11_3 : allF 5 11 (p3 5 11 3) 5 0 (fun _ => 0) = true := by decide +kernel
set_option maxRecDepth 100000 in
theorem l3_12_2 : allF 5 12 (p3 5 12 2) 5 0 (fun _ => 0) = true := by decide +kernel
set_option maxRecDepth 100000 in
theorem l3_12_3 : allF 5 12 (p3 5 12 3) 5 0 (fun _ => 0) = true := by decide +kernel
set_option maxRecDepth 100000 in
theorem l3_13_0 : allF 5 13 (p3 5 13 0) 5 0 (fun _ => 0) = true := by decide +kernel
set_option maxRecDepth 100000 in
theorem l3_13_2 : allF 5 13 (p3 5 13 2) 5 0 (fun _ => 0) = true := by decide +kernel
set_option maxRecDepth 100000 in
theorem l3_13_3 : allF 5 13 (p3 5 13 3) 5 0 (fun _ => 0) = true := by decide +kernel
set_option maxRecDepth 100000 in
theorem l3_14_1 : allF 5 14 (p3 5 14 1) 5 0 (fun _ => 0) = true := by decide +kernel
