-- checked by the kernel, a set of nodes a row
set_option maxRecDepth 100000 in
theorem l3_24_3 : allF 5 24 (p3 5 24 3) 5 0 (fun _ => 0) = true := by decide +kernel
set_option maxRecDepth 100000 in
theorem l3_24_4 : allF 5 24 (p3 5 24 4) 5 0 (fun _ => 0) = true := by decide +kernel
set_option maxRecDepth 100000 in
theorem l3_25_0 : allF 5 25 (p3 5 25 0) 5 0 (fun _ => 0) = true := by decide +kernel
set_option maxRecDepth 100000 in
theorem l3_25_3 : allF 5 25 (p3 5 25 3) 5 0 (fun _ => 0) = true := by decide +kernel
set_option maxRecDepth 100000 in
theorem l3_25_4 : allF 5 25 (p3 5 25 4) 5 0 (fun _ => 0) = true := by decide +kernel
set_option maxRecDepth 100000 in
theorem l3_26_1 : allF 5 26 (p3 5 26 1) 5 0 (fun _ => 0) = true := by decide +kernel
set_option maxRecDepth 100000 in
theorem l3_26_3 : allF 5 26 (p3 5 26 3) 5 0 (fun _ => 0) = true := by decide +kernel
set_option maxRecDepth 100000 in
theorem l3_26_4 : allF 5 26 (p3 5 26 4) 5 0 (fun _ => 0) = true := by decide +kernel
set_option maxRecDepth 100000 in
theorem l3_27_0 : allF 5 27 (p3 5 27 0) 5 0 (fun _ => 0) = true := by decide +kernel
set_option maxRecDepth 100000 in
theorem l3_27_1 : allF 5 27 (p3 5 27 1) 5 0 (fun _ => 0) = true := by decide +kernel
set_option maxRecDepth 100000 in
theorem l3_27_3 : allF 5 27 (p3 5 27 3) 5 0 (fun _ => 0) = true := by decide +kernel
set_option maxRecDepth 100000 in
theorem l3_27_4 : allF 5 27 (p3 5 27 4) 5 0 (fun _ => 0) = true := by decide +kernel
set_option maxRecDepth 100000 in
theorem l3_28_2 : allF 5 28 (p3 5 28 2) 5 0 (fun _ => 0) = true := by decide +kernel
set_option maxRecDepth 100000 in
theorem l3_28_3 : allF 5 28 (p3 5 28 3) 5 0 (fun _ => 0) = true := by decide +kernel
set_option maxRecDepth 100000 in
theorem l3_28_4 : allF 5 28 (p3 5 28 4) 5 0 (fun _ => 0) = true := by decide +kernel
set_option maxRecDepth 100000 in
theorem l3_29_0 : allF 5 29 (p3 5 29 0) 5 0 (fun _ => 0) = true := by decide +kernel
set_option maxRecDepth 100000 in
theorem l3_29_2 : allF 5 29 (p3 5 29 2) 5 0 (fun _ => 0) = true := by decide +kernel
set_option maxRecDepth 100000 in
theorem l3_29_3 : allF 5 29 (p3 5 29 3) 5 0 (fun _ => 0) = true := by decide +kernel
set_option maxRecDepth 100000 in
theorem l3_29_4 : allF 5 29 (p3 5 29 4) 5 0 (fun _ => 0) = true := by decide +kernel
set_option maxRecDepth 100000 in
theorem l3_30_1 : allF 5 30 (p3 5 30 1) 5 0 (fun _ => 0) = true := by decide +kernel
set_option maxRecDepth 100000 in
theorem l3_30_2 : allF 5 30 (p3 5 30 2) 5 0 (fun _ => 0) = true := by decide +kernel
set_option maxRecDepth 100000 in
theorem l3_30_3 : allF 5 30 (p3 5 30 3) 5 0 (fun _ => 0) = true := by decide +kernel
set_option maxRecDepth 100000 in
theorem l3_30_4 : allF 5 30 (p3 5 30 4) 5 0 (fun _ => 0) = true := by decide +kernel
